section
/-- the first n coins of a tray are loaded -/
def ptU (M : zM) (t : Int) (m : Nat) : Nat → zM
  | 0 => M
  | n + 1 => zup (layOn (ptU M t m n) t (M m n)) 21 t.toNat (ptU M t m n 21 t.toNat + 1)
theorem ptU_o {M : zM} {t : Int} {m k : Nat} (h : k ≠ 18 ∧ k ≠ 19 ∧ k ≠ 20 ∧ k ≠ 21) : ∀ n, ptU M t m n k = M k
  | 0 => rfl
  | n + 1 => by
    simp only [ptU]
    rw [zup_o k h.2.2.2, layOn_o ⟨h.1, h.2.1, h.2.2.1⟩, ptU_o h n]
theorem ptU_I {B : Int} {M : zM} {t : Int} {m N : Nat} (hI : ICt B M) (h0 : 0 ≤ t) (h1 : t < 8) (h2 : ∀ i, i < N → 0 ≤ M m i ∧ M m i < 8) : ∀ n : Nat, n ≤ N → ICt (B + n) (ptU M t m n)
  | 0, _ => by
    rw [Int.natCast_zero, Int.add_zero]
    exact hI
  | n + 1, hn => by
    have a := ptU_I hI h0 h1 h2 n (by omega)
    have b := a.b h0 h1
    have c := layOn_I a h0 h1 (h2 n (by omega)).1 (h2 n (by omega)).2
    rw [Int.natCast_add, Int.natCast_one, ← Int.add_assoc]
    exact ICt_loaded c h0 h1 (by omega) (by omega)
theorem lp_X11_pour {E : zE} {X : zX} {Qp : Option zV → zM → Prop} {M : zM} {B t u : Int} {c m : Nat} {bb : Nat × Nat} (S : zS (zg E) X cX11_pour 5 wzX11_pour RX11 (some .int)) (hbb : bb.1 ≤ 4 ∧ bb.2 ≤ 24) (hYc : zly c = .inr (10, [0, 0, m + 3])) (hYm : zly m = .inl (1, 20)) (hc : c < zNC) (hm : m < zNC) (hd : 171 < c ∧ 171 < m) (hI : ICt B M) (hB : B ≤ 999000) (h0 : 0 ≤ t) (h1 : t < 8) (h20 : 0 ≤ M c 1 ∧ M c 1 ≤ 20) (h2 : ∀ i, i < (M c 1).toNat → 0 ≤ M m i ∧ M m i < 8) (hQ : Qp (some (zI (ptU M t m (M c 1).toNat 19 t.toNat))) (ptU M t m (M c 1).toNat)) : ∀ n i : Nat, (n : Int) + i = M c 1 → zK (zg E) rmX11_pour 5 (Qp, 4, 6 * 4) X bb 51 [some (zR 0), some (zI u), some (zI t), some (zR c), some (zI i)] [] (ptU M t m i) := by
  intro n
  have ec : ∀ i, ptU M t m i c = M c := fun i => ptU_o (by omega) i
  have em : ∀ i, ptU M t m i m = M m := fun i => ptU_o (by omega) i
  induction n with
  | zero =>
    intro i hi
    obtain rfl : i = (M c 1).toNat := by omega
    refine zr_iload (pc := 51) S dX11_pour_51 rfl ?_
    refine zr_aload_n (pc := 53) S dX11_pour_53 rfl ?_
    refine zr_getI (pc := 54) S fX11_pour_406 dX11_pour_54 hYc hc rfl ?_
    rw [ec]
    refine zr_icmp_ge (pc := 57) (tgt := 85) S dX11_pour_57 (by decide) (fun c => ?_) (fun c => absurd c (by omega))
    refine zr_aload_n (pc := 85) S dX11_pour_85 rfl ?_
    refine zr_getR (pc := 86) S fX11_pour_10 dX11_pour_86 rfl (Nat.le_of_ble_eq_true rfl) rfl ?_
    refine zr_getR (pc := 89) S fX11_pour_255 dX11_pour_89 rfl (Nat.le_of_ble_eq_true rfl) rfl ?_
    refine zr_getR (pc := 92) S fX11_pour_268 dX11_pour_92 rfl (Nat.le_of_ble_eq_true rfl) rfl ?_
    refine zr_iload_n (pc := 95) S dX11_pour_95 rfl ?_
    refine zr_iaload (pc := 96) S dX11_pour_96 rfl (Nat.le_of_ble_eq_true rfl) (by omega) (by omega) ?_
    exact zr_iret (pc := 97) S dX11_pour_97 rfl hbb hQ
  | succ n ih =>
    intro i hi
    have a := ptU_I hI h0 h1 h2 i (by omega)
    have v := h2 i (by omega)
    have k := ih (i + 1) (by omega)
    rw [Int.natCast_add, Int.natCast_one] at k
    refine zr_iload (pc := 51) S dX11_pour_51 rfl ?_
    refine zr_aload_n (pc := 53) S dX11_pour_53 rfl ?_
    refine zr_getI (pc := 54) S fX11_pour_406 dX11_pour_54 hYc hc rfl ?_
    rw [ec]
    refine zr_icmp_ge (pc := 57) (tgt := 85) S dX11_pour_57 (by decide) (fun c => absurd c (by omega)) (fun c => ?_)
    refine zr_aload_n (pc := 60) S dX11_pour_60 rfl ?_
    refine zr_getR (pc := 61) S fX11_pour_10 dX11_pour_61 rfl (Nat.le_of_ble_eq_true rfl) rfl ?_
    refine zr_getR (pc := 64) S fX11_pour_255 dX11_pour_64 rfl (Nat.le_of_ble_eq_true rfl) rfl ?_
    refine zr_iload_n (pc := 67) S dX11_pour_67 rfl ?_
    refine zr_aload_n (pc := 68) S dX11_pour_68 rfl ?_
    refine zr_getR (pc := 69) S fX11_pour_414 dX11_pour_69 hYc hc rfl ?_
    refine zr_iload (pc := 72) S dX11_pour_72 rfl ?_
    refine zr_laload (pc := 74) S dX11_pour_74 hYm hm (by omega) (by omega) ?_
    rw [em, Int.toNat_natCast]
    refine zr_l2i (pc := 75) S dX11_pour_75 (by unfold zrI; omega) ?_
    refine zr_invV (pc := 76) S [zI _, zI _] (m_X9_loadOne _) kX11_pour_264 dX11_pour_76 rfl (Nat.le_of_ble_eq_true rfl) rfl (Nat.le_of_ble_eq_true rfl) ⟨by show bb.1 + 0 ≤ 4; omega, by show bb.2 + 0 ≤ 24; omega⟩ (us_X9_loadOne a (by omega) h0 h1 v.1 v.2 ?_)
    dsimp only [zaft, Nat.add_zero]
    refine zr_iinc (pc := 79) S dX11_pour_79 rfl (by unfold zrI; omega) (by decide) ?_
    dsimp only [zst1, zst2, zset, zget, zlong]
    refine zr_goto (pc := 82) (tgt := 51) S dX11_pour_82 (by decide) ?_
    exact k
def sp_X11_pour (as : List zV) (M : zM) (Q : Option zV → zM → Prop) : Prop := ∃ (B u t : Int), as = [zR 0, zI u, zI t] ∧ (ICx M) ∧ (0 ≤ M 2 0 ∧ M 2 0 ≤ 8) ∧ (ICt B M) ∧ (B ≤ 999000) ∧ ((0 ≤ u ∧ u ≤ 3) → (0 ≤ t ∧ t < M 2 0) → ¬ M (172 + 2 * u.toNat) 0 = -1 → holds (M (173 + 2 * u.toNat)) (M 2 0) (M (172 + 2 * u.toNat) 1).toNat → M 19 t.toNat + M (172 + 2 * u.toNat) 1 ≤ 20 → Q (some (zI (ptU M t (173 + 2 * u.toNat) (M (172 + 2 * u.toNat) 1).toNat 19 t.toNat))) (ptU M t (173 + 2 * u.toNat) (M (172 + 2 * u.toNat) 1).toNat)) ∧ ((0 ≤ u ∧ u ≤ 3) → (0 ≤ t ∧ t < M 2 0) → ¬ M (172 + 2 * u.toNat) 0 = -1 → holds (M (173 + 2 * u.toNat)) (M 2 0) (M (172 + 2 * u.toNat) 1).toNat → ¬ M 19 t.toNat + M (172 + 2 * u.toNat) 1 ≤ 20 → Q (some (zI (-1))) M) ∧ (¬ ((0 ≤ u ∧ u ≤ 3) ∧ (0 ≤ t ∧ t < M 2 0)) → Q (some (zR 3000)) M) ∧ ((0 ≤ u ∧ u ≤ 3) → (0 ≤ t ∧ t < M 2 0) → M (172 + 2 * u.toNat) 0 = -1 → Q (some (zR 3002)) M) ∧ ((0 ≤ u ∧ u ≤ 3) → (0 ≤ t ∧ t < M 2 0) → ¬ M (172 + 2 * u.toNat) 0 = -1 → ¬ holds (M (173 + 2 * u.toNat)) (M 2 0) (M (172 + 2 * u.toNat) 1).toNat → Q (some (zR 3001)) M)
theorem us_X11_pour {B u t : Int} {M : zM} {Q : Option zV → zM → Prop} (hx : ICx M) (hs : 0 ≤ M 2 0 ∧ M 2 0 ≤ 8) (ht : ICt B M) (hB : B ≤ 999000) (hQ : (0 ≤ u ∧ u ≤ 3) → (0 ≤ t ∧ t < M 2 0) → ¬ M (172 + 2 * u.toNat) 0 = -1 → holds (M (173 + 2 * u.toNat)) (M 2 0) (M (172 + 2 * u.toNat) 1).toNat → M 19 t.toNat + M (172 + 2 * u.toNat) 1 ≤ 20 → Q (some (zI (ptU M t (173 + 2 * u.toNat) (M (172 + 2 * u.toNat) 1).toNat 19 t.toNat))) (ptU M t (173 + 2 * u.toNat) (M (172 + 2 * u.toNat) 1).toNat)) (hF : (0 ≤ u ∧ u ≤ 3) → (0 ≤ t ∧ t < M 2 0) → ¬ M (172 + 2 * u.toNat) 0 = -1 → holds (M (173 + 2 * u.toNat)) (M 2 0) (M (172 + 2 * u.toNat) 1).toNat → ¬ M 19 t.toNat + M (172 + 2 * u.toNat) 1 ≤ 20 → Q (some (zI (-1))) M) (hT : ¬ ((0 ≤ u ∧ u ≤ 3) ∧ (0 ≤ t ∧ t < M 2 0)) → Q (some (zR 3000)) M) (hU : (0 ≤ u ∧ u ≤ 3) → (0 ≤ t ∧ t < M 2 0) → M (172 + 2 * u.toNat) 0 = -1 → Q (some (zR 3002)) M) (hV : (0 ≤ u ∧ u ≤ 3) → (0 ≤ t ∧ t < M 2 0) → ¬ M (172 + 2 * u.toNat) 0 = -1 → ¬ holds (M (173 + 2 * u.toNat)) (M 2 0) (M (172 + 2 * u.toNat) 1).toNat → Q (some (zR 3001)) M) : sp_X11_pour [zR 0, zI u, zI t] M Q := ⟨B, u, t, rfl, hx, hs, ht, hB, hQ, hF, hT, hU, hV⟩
set_option maxRecDepth 20000 in
set_option maxHeartbeats 4000000 in
theorem m_X11_pour (l : Launch) : zCx l yX11_pour wzX11_pour rmX11_pour 4 sp_X11_pour := by
  refine zMet.of RX11 (by decide +kernel) rfl rfl ?_
  intro E X as M Qp hX S hsp
  obtain ⟨B, u, t, rfl, hx, hs, ht, hB, hQ, hF, hT, hU, hV⟩ := hsp
  refine ⟨Nat.le_of_ble_eq_true rfl, ?_⟩
  dsimp only [zpad, zargs]
  have key : (0 ≤ t ∧ t < M 2 0) → (0 ≤ u ∧ u ≤ 3) → ¬ M (172 + 2 * u.toNat) 0 = -1 → zK (zg E) rmX11_pour 5 (Qp, 4, 6 * 4) X (0 + 1 + 2, 0 + 6 * 1 + 6 * 2) 10 [some (zR 0), some (zI u), some (zI t), none, none] [zR (172 + 2 * u.toNat)] M := by
    intro c0 c1 c2
    have f1 := hQ c1 c0 c2
    have f2 := hF c1 c0 c2
    have f3 := hV c1 c0 c2
    rcases (show u = 0 ∨ u = 1 ∨ u = 2 ∨ u = 3 by omega) with rfl | rfl | rfl | rfl
    · have r : 0 ≤ M 172 1 ∧ M 172 1 ≤ 20 ∧ -1 ≤ M 172 0 ∧ M 172 0 ≤ 3 := hx.2.2 0 (by omega)
      show zK _ _ _ _ _ _ _ _ [zR 172] _
      refine zr_astore_n (pc := 10) S 3 dX11_pour_10 rfl (by decide) ?_
      dsimp only [zst1, zst2, zset, zget, zlong]
      refine zr_aload_n (pc := 11) S dX11_pour_11 rfl ?_
      refine zr_aload_n (pc := 12) S dX11_pour_12 rfl ?_
      refine zr_getR (pc := 13) S fX11_pour_10 dX11_pour_13 rfl (Nat.le_of_ble_eq_true rfl) rfl ?_
      refine zr_getR (pc := 16) S fX11_pour_39 dX11_pour_16 rfl (Nat.le_of_ble_eq_true rfl) rfl ?_
      refine zr_getI (pc := 19) S fX11_pour_302 dX11_pour_19 rfl (Nat.le_of_ble_eq_true rfl) rfl ?_
      refine zr_invV (pc := 22) S [zI _] (m_X10_holdsSorts _) kX11_pour_421 dX11_pour_22 rfl (Nat.le_of_ble_eq_true rfl) rfl (Nat.le_of_ble_eq_true rfl) ⟨Nat.le_of_ble_eq_true rfl, Nat.le_of_ble_eq_true rfl⟩ (us_X10_holdsSorts (c := 172) (m := 173) rfl rfl (Nat.le_of_ble_eq_true rfl) (Nat.le_of_ble_eq_true rfl) hs.1 hs.2 r.1 r.2.1 ?_)
      dsimp only [zaft, Option.toList, List.cons_append, List.nil_append, Nat.add_zero]
      rintro _ M9 ⟨v, rfl, eM, hv, hv2⟩
      rw [eM]
      dsimp only [zaft]
      refine zr_invS (pc := 25) S [zI _] (m_X11_need _) kX11_pour_97 dX11_pour_25 (Nat.le_of_ble_eq_true rfl) ⟨Nat.le_of_ble_eq_true rfl, Nat.le_of_ble_eq_true rfl⟩ (us_X11_need (fun c25 => ?_) (fun c25 => zaft_thr (by omega) ⟨Nat.le_of_ble_eq_true rfl, Nat.le_of_ble_eq_true rfl⟩ (f3 (fun z => by have := hv.mpr z; omega))))
      dsimp only [zaft, Option.toList, List.cons_append, List.nil_append, Nat.add_zero]
      have hh : holds (M 173) (M 2 0) (M 172 1).toNat := hv.mp (by omega)
      refine zr_aload_n (pc := 28) S dX11_pour_28 rfl ?_
      refine zr_getR (pc := 29) S fX11_pour_10 dX11_pour_29 rfl (Nat.le_of_ble_eq_true rfl) rfl ?_
      refine zr_getR (pc := 32) S fX11_pour_255 dX11_pour_32 rfl (Nat.le_of_ble_eq_true rfl) rfl ?_
      refine zr_iload_n (pc := 35) S dX11_pour_35 rfl ?_
      refine zr_aload_n (pc := 36) S dX11_pour_36 rfl ?_
      refine zr_getI (pc := 37) S fX11_pour_406 dX11_pour_37 rfl (Nat.le_of_ble_eq_true rfl) rfl ?_
      refine zr_invV (pc := 40) S [zI _, zI _] (m_X9_hasRoom _) kX11_pour_259 dX11_pour_40 rfl (Nat.le_of_ble_eq_true rfl) rfl (Nat.le_of_ble_eq_true rfl) ⟨Nat.le_of_ble_eq_true rfl, Nat.le_of_ble_eq_true rfl⟩ (us_X9_hasRoom ht c0.1 (by omega) (by omega) (by omega) ?_)
      dsimp only [zaft, Option.toList, List.cons_append, List.nil_append, Nat.add_zero]
      refine zr_if_ne (pc := 43) (tgt := 48) S dX11_pour_43 (by decide) (fun c43 => ?_) (fun c43 => ?_)
      · rw [b01_0, Classical.not_not] at c43
        have f := f1 hh c43
        refine zr_iconst (pc := 48) S dX11_pour_48 (by unfold zrI; omega) ?_
        refine zr_istore (pc := 49) S dX11_pour_49 (by decide) ?_
        dsimp only [zst1, zst2, zset, zget, zlong]
        exact lp_X11_pour (c := 172) (m := 173) S ⟨Nat.le_of_ble_eq_true rfl, Nat.le_of_ble_eq_true rfl⟩ rfl rfl (Nat.le_of_ble_eq_true rfl) (Nat.le_of_ble_eq_true rfl) (by omega) ht hB c0.1 (by omega) (by omega) (fun i hi => by have := hh i hi; omega) f (M 172 1).toNat 0 (by omega)
      · rw [b01_0] at c43
        have f := f2 hh c43
        refine zr_iconst (pc := 46) S dX11_pour_46 (by unfold zrI; omega) ?_
        exact zr_iret (pc := 47) S dX11_pour_47 rfl ⟨Nat.le_of_ble_eq_true rfl, Nat.le_of_ble_eq_true rfl⟩ (f)
    · have r : 0 ≤ M 174 1 ∧ M 174 1 ≤ 20 ∧ -1 ≤ M 174 0 ∧ M 174 0 ≤ 3 := hx.2.2 1 (by omega)
      show zK _ _ _ _ _ _ _ _ [zR 174] _
      refine zr_astore_n (pc := 10) S 3 dX11_pour_10 rfl (by decide) ?_
      dsimp only [zst1, zst2, zset, zget, zlong]
      refine zr_aload_n (pc := 11) S dX11_pour_11 rfl ?_
      refine zr_aload_n (pc := 12) S dX11_pour_12 rfl ?_
      refine zr_getR (pc := 13) S fX11_pour_10 dX11_pour_13 rfl (Nat.le_of_ble_eq_true rfl) rfl ?_
      refine zr_getR (pc := 16) S fX11_pour_39 dX11_pour_16 rfl (Nat.le_of_ble_eq_true rfl) rfl ?_
      refine zr_getI (pc := 19) S fX11_pour_302 dX11_pour_19 rfl (Nat.le_of_ble_eq_true rfl) rfl ?_
      refine zr_invV (pc := 22) S [zI _] (m_X10_holdsSorts _) kX11_pour_421 dX11_pour_22 rfl (Nat.le_of_ble_eq_true rfl) rfl (Nat.le_of_ble_eq_true rfl) ⟨Nat.le_of_ble_eq_true rfl, Nat.le_of_ble_eq_true rfl⟩ (us_X10_holdsSorts (c := 174) (m := 175) rfl rfl (Nat.le_of_ble_eq_true rfl) (Nat.le_of_ble_eq_true rfl) hs.1 hs.2 r.1 r.2.1 ?_)
      dsimp only [zaft, Option.toList, List.cons_append, List.nil_append, Nat.add_zero]
      rintro _ M9 ⟨v, rfl, eM, hv, hv2⟩
      rw [eM]
      dsimp only [zaft]
      refine zr_invS (pc := 25) S [zI _] (m_X11_need _) kX11_pour_97 dX11_pour_25 (Nat.le_of_ble_eq_true rfl) ⟨Nat.le_of_ble_eq_true rfl, Nat.le_of_ble_eq_true rfl⟩ (us_X11_need (fun c25 => ?_) (fun c25 => zaft_thr (by omega) ⟨Nat.le_of_ble_eq_true rfl, Nat.le_of_ble_eq_true rfl⟩ (f3 (fun z => by have := hv.mpr z; omega))))
      dsimp only [zaft, Option.toList, List.cons_append, List.nil_append, Nat.add_zero]
      have hh : holds (M 175) (M 2 0) (M 174 1).toNat := hv.mp (by omega)
      refine zr_aload_n (pc := 28) S dX11_pour_28 rfl ?_
      refine zr_getR (pc := 29) S fX11_pour_10 dX11_pour_29 rfl (Nat.le_of_ble_eq_true rfl) rfl ?_
      refine zr_getR (pc := 32) S fX11_pour_255 dX11_pour_32 rfl (Nat.le_of_ble_eq_true rfl) rfl ?_
      refine zr_iload_n (pc := 35) S dX11_pour_35 rfl ?_
      refine zr_aload_n (pc := 36) S dX11_pour_36 rfl ?_
      refine zr_getI (pc := 37) S fX11_pour_406 dX11_pour_37 rfl (Nat.le_of_ble_eq_true rfl) rfl ?_
      refine zr_invV (pc := 40) S [zI _, zI _] (m_X9_hasRoom _) kX11_pour_259 dX11_pour_40 rfl (Nat.le_of_ble_eq_true rfl) rfl (Nat.le_of_ble_eq_true rfl) ⟨Nat.le_of_ble_eq_true rfl, Nat.le_of_ble_eq_true rfl⟩ (us_X9_hasRoom ht c0.1 (by omega) (by omega) (by omega) ?_)
      dsimp only [zaft, Option.toList, List.cons_append, List.nil_append, Nat.add_zero]
      refine zr_if_ne (pc := 43) (tgt := 48) S dX11_pour_43 (by decide) (fun c43 => ?_) (fun c43 => ?_)
      · rw [b01_0, Classical.not_not] at c43
        have f := f1 hh c43
        refine zr_iconst (pc := 48) S dX11_pour_48 (by unfold zrI; omega) ?_
        refine zr_istore (pc := 49) S dX11_pour_49 (by decide) ?_
        dsimp only [zst1, zst2, zset, zget, zlong]
        exact lp_X11_pour (c := 174) (m := 175) S ⟨Nat.le_of_ble_eq_true rfl, Nat.le_of_ble_eq_true rfl⟩ rfl rfl (Nat.le_of_ble_eq_true rfl) (Nat.le_of_ble_eq_true rfl) (by omega) ht hB c0.1 (by omega) (by omega) (fun i hi => by have := hh i hi; omega) f (M 174 1).toNat 0 (by omega)
      · rw [b01_0] at c43
        have f := f2 hh c43
        refine zr_iconst (pc := 46) S dX11_pour_46 (by unfold zrI; omega) ?_
        exact zr_iret (pc := 47) S dX11_pour_47 rfl ⟨Nat.le_of_ble_eq_true rfl, Nat.le_of_ble_eq_true rfl⟩ (f)
    · have r : 0 ≤ M 176 1 ∧ M 176 1 ≤ 20 ∧ -1 ≤ M 176 0 ∧ M 176 0 ≤ 3 := hx.2.2 2 (by omega)
      show zK _ _ _ _ _ _ _ _ [zR 176] _
      refine zr_astore_n (pc := 10) S 3 dX11_pour_10 rfl (by decide) ?_
      dsimp only [zst1, zst2, zset, zget, zlong]
      refine zr_aload_n (pc := 11) S dX11_pour_11 rfl ?_
      refine zr_aload_n (pc := 12) S dX11_pour_12 rfl ?_
      refine zr_getR (pc := 13) S fX11_pour_10 dX11_pour_13 rfl (Nat.le_of_ble_eq_true rfl) rfl ?_
      refine zr_getR (pc := 16) S fX11_pour_39 dX11_pour_16 rfl (Nat.le_of_ble_eq_true rfl) rfl ?_
      refine zr_getI (pc := 19) S fX11_pour_302 dX11_pour_19 rfl (Nat.le_of_ble_eq_true rfl) rfl ?_
      refine zr_invV (pc := 22) S [zI _] (m_X10_holdsSorts _) kX11_pour_421 dX11_pour_22 rfl (Nat.le_of_ble_eq_true rfl) rfl (Nat.le_of_ble_eq_true rfl) ⟨Nat.le_of_ble_eq_true rfl, Nat.le_of_ble_eq_true rfl⟩ (us_X10_holdsSorts (c := 176) (m := 177) rfl rfl (Nat.le_of_ble_eq_true rfl) (Nat.le_of_ble_eq_true rfl) hs.1 hs.2 r.1 r.2.1 ?_)
      dsimp only [zaft, Option.toList, List.cons_append, List.nil_append, Nat.add_zero]
      rintro _ M9 ⟨v, rfl, eM, hv, hv2⟩
      rw [eM]
      dsimp only [zaft]
      refine zr_invS (pc := 25) S [zI _] (m_X11_need _) kX11_pour_97 dX11_pour_25 (Nat.le_of_ble_eq_true rfl) ⟨Nat.le_of_ble_eq_true rfl, Nat.le_of_ble_eq_true rfl⟩ (us_X11_need (fun c25 => ?_) (fun c25 => zaft_thr (by omega) ⟨Nat.le_of_ble_eq_true rfl, Nat.le_of_ble_eq_true rfl⟩ (f3 (fun z => by have := hv.mpr z; omega))))
      dsimp only [zaft, Option.toList, List.cons_append, List.nil_append, Nat.add_zero]
      have hh : holds (M 177) (M 2 0) (M 176 1).toNat := hv.mp (by omega)
      refine zr_aload_n (pc := 28) S dX11_pour_28 rfl ?_
      refine zr_getR (pc := 29) S fX11_pour_10 dX11_pour_29 rfl (Nat.le_of_ble_eq_true rfl) rfl ?_
      refine zr_getR (pc := 32) S fX11_pour_255 dX11_pour_32 rfl (Nat.le_of_ble_eq_true rfl) rfl ?_
      refine zr_iload_n (pc := 35) S dX11_pour_35 rfl ?_
      refine zr_aload_n (pc := 36) S dX11_pour_36 rfl ?_
      refine zr_getI (pc := 37) S fX11_pour_406 dX11_pour_37 rfl (Nat.le_of_ble_eq_true rfl) rfl ?_
      refine zr_invV (pc := 40) S [zI _, zI _] (m_X9_hasRoom _) kX11_pour_259 dX11_pour_40 rfl (Nat.le_of_ble_eq_true rfl) rfl (Nat.le_of_ble_eq_true rfl) ⟨Nat.le_of_ble_eq_true rfl, Nat.le_of_ble_eq_true rfl⟩ (us_X9_hasRoom ht c0.1 (by omega) (by omega) (by omega) ?_)
      dsimp only [zaft, Option.toList, List.cons_append, List.nil_append, Nat.add_zero]
      refine zr_if_ne (pc := 43) (tgt := 48) S dX11_pour_43 (by decide) (fun c43 => ?_) (fun c43 => ?_)
      · rw [b01_0, Classical.not_not] at c43
        have f := f1 hh c43
        refine zr_iconst (pc := 48) S dX11_pour_48 (by unfold zrI; omega) ?_
        refine zr_istore (pc := 49) S dX11_pour_49 (by decide) ?_
        dsimp only [zst1, zst2, zset, zget, zlong]
        exact lp_X11_pour (c := 176) (m := 177) S ⟨Nat.le_of_ble_eq_true rfl, Nat.le_of_ble_eq_true rfl⟩ rfl rfl (Nat.le_of_ble_eq_true rfl) (Nat.le_of_ble_eq_true rfl) (by omega) ht hB c0.1 (by omega) (by omega) (fun i hi => by have := hh i hi; omega) f (M 176 1).toNat 0 (by omega)
      · rw [b01_0] at c43
        have f := f2 hh c43
        refine zr_iconst (pc := 46) S dX11_pour_46 (by unfold zrI; omega) ?_
        exact zr_iret (pc := 47) S dX11_pour_47 rfl ⟨Nat.le_of_ble_eq_true rfl, Nat.le_of_ble_eq_true rfl⟩ (f)
    · have r : 0 ≤ M 178 1 ∧ M 178 1 ≤ 20 ∧ -1 ≤ M 178 0 ∧ M 178 0 ≤ 3 := hx.2.2 3 (by omega)
      show zK _ _ _ _ _ _ _ _ [zR 178] _
      refine zr_astore_n (pc := 10) S 3 dX11_pour_10 rfl (by decide) ?_
      dsimp only [zst1, zst2, zset, zget, zlong]
      refine zr_aload_n (pc := 11) S dX11_pour_11 rfl ?_
      refine zr_aload_n (pc := 12) S dX11_pour_12 rfl ?_
      refine zr_getR (pc := 13) S fX11_pour_10 dX11_pour_13 rfl (Nat.le_of_ble_eq_true rfl) rfl ?_
      refine zr_getR (pc := 16) S fX11_pour_39 dX11_pour_16 rfl (Nat.le_of_ble_eq_true rfl) rfl ?_
      refine zr_getI (pc := 19) S fX11_pour_302 dX11_pour_19 rfl (Nat.le_of_ble_eq_true rfl) rfl ?_
      refine zr_invV (pc := 22) S [zI _] (m_X10_holdsSorts _) kX11_pour_421 dX11_pour_22 rfl (Nat.le_of_ble_eq_true rfl) rfl (Nat.le_of_ble_eq_true rfl) ⟨Nat.le_of_ble_eq_true rfl, Nat.le_of_ble_eq_true rfl⟩ (us_X10_holdsSorts (c := 178) (m := 179) rfl rfl (Nat.le_of_ble_eq_true rfl) (Nat.le_of_ble_eq_true rfl) hs.1 hs.2 r.1 r.2.1 ?_)
      dsimp only [zaft, Option.toList, List.cons_append, List.nil_append, Nat.add_zero]
      rintro _ M9 ⟨v, rfl, eM, hv, hv2⟩
      rw [eM]
      dsimp only [zaft]
      refine zr_invS (pc := 25) S [zI _] (m_X11_need _) kX11_pour_97 dX11_pour_25 (Nat.le_of_ble_eq_true rfl) ⟨Nat.le_of_ble_eq_true rfl, Nat.le_of_ble_eq_true rfl⟩ (us_X11_need (fun c25 => ?_) (fun c25 => zaft_thr (by omega) ⟨Nat.le_of_ble_eq_true rfl, Nat.le_of_ble_eq_true rfl⟩ (f3 (fun z => by have := hv.mpr z; omega))))
      dsimp only [zaft, Option.toList, List.cons_append, List.nil_append, Nat.add_zero]
      have hh : holds (M 179) (M 2 0) (M 178 1).toNat := hv.mp (by omega)
      refine zr_aload_n (pc := 28) S dX11_pour_28 rfl ?_
      refine zr_getR (pc := 29) S fX11_pour_10 dX11_pour_29 rfl (Nat.le_of_ble_eq_true rfl) rfl ?_
      refine zr_getR (pc := 32) S fX11_pour_255 dX11_pour_32 rfl (Nat.le_of_ble_eq_true rfl) rfl ?_
      refine zr_iload_n (pc := 35) S dX11_pour_35 rfl ?_
      refine zr_aload_n (pc := 36) S dX11_pour_36 rfl ?_
      refine zr_getI (pc := 37) S fX11_pour_406 dX11_pour_37 rfl (Nat.le_of_ble_eq_true rfl) rfl ?_
      refine zr_invV (pc := 40) S [zI _, zI _] (m_X9_hasRoom _) kX11_pour_259 dX11_pour_40 rfl (Nat.le_of_ble_eq_true rfl) rfl (Nat.le_of_ble_eq_true rfl) ⟨Nat.le_of_ble_eq_true rfl, Nat.le_of_ble_eq_true rfl⟩ (us_X9_hasRoom ht c0.1 (by omega) (by omega) (by omega) ?_)
      dsimp only [zaft, Option.toList, List.cons_append, List.nil_append, Nat.add_zero]
      refine zr_if_ne (pc := 43) (tgt := 48) S dX11_pour_43 (by decide) (fun c43 => ?_) (fun c43 => ?_)
      · rw [b01_0, Classical.not_not] at c43
        have f := f1 hh c43
        refine zr_iconst (pc := 48) S dX11_pour_48 (by unfold zrI; omega) ?_
        refine zr_istore (pc := 49) S dX11_pour_49 (by decide) ?_
        dsimp only [zst1, zst2, zset, zget, zlong]
        exact lp_X11_pour (c := 178) (m := 179) S ⟨Nat.le_of_ble_eq_true rfl, Nat.le_of_ble_eq_true rfl⟩ rfl rfl (Nat.le_of_ble_eq_true rfl) (Nat.le_of_ble_eq_true rfl) (by omega) ht hB c0.1 (by omega) (by omega) (fun i hi => by have := hh i hi; omega) f (M 178 1).toNat 0 (by omega)
      · rw [b01_0] at c43
        have f := f2 hh c43
        refine zr_iconst (pc := 46) S dX11_pour_46 (by unfold zrI; omega) ?_
        exact zr_iret (pc := 47) S dX11_pour_47 rfl ⟨Nat.le_of_ble_eq_true rfl, Nat.le_of_ble_eq_true rfl⟩ (f)
  refine zr_aload_n (pc := 0) S dX11_pour_0 rfl ?_
  refine zr_iload_n (pc := 1) S dX11_pour_1 rfl ?_
  refine zr_invV (pc := 2) S [zI _] (m_X11_needSort _) kX11_pour_109 dX11_pour_2 rfl (Nat.le_of_ble_eq_true rfl) rfl (Nat.le_of_ble_eq_true rfl) ⟨Nat.le_of_ble_eq_true rfl, Nat.le_of_ble_eq_true rfl⟩ (us_X11_needSort (fun c0 => ?_) (fun c => zaft_thr (by omega) ⟨Nat.le_of_ble_eq_true rfl, Nat.le_of_ble_eq_true rfl⟩ (hT (fun z => c z.2))))
  dsimp only [zaft]
  refine zr_aload_n (pc := 5) S dX11_pour_5 rfl ?_
  refine zr_iload_n (pc := 6) S dX11_pour_6 rfl ?_
  refine zr_invV (pc := 7) S [zI _] (m_X11_trayAt _) kX11_pour_402 dX11_pour_7 rfl (Nat.le_of_ble_eq_true rfl) rfl (Nat.le_of_ble_eq_true rfl) ⟨Nat.le_of_ble_eq_true rfl, Nat.le_of_ble_eq_true rfl⟩ (us_X11_trayAt hx (fun c1 c2 => zaft_ref (by omega) (key c0 c1 c2)) (fun c => zaft_thr (by omega) ⟨Nat.le_of_ble_eq_true rfl, Nat.le_of_ble_eq_true rfl⟩ (hT (fun z => c z.1))) (fun c c' => zaft_thr (by omega) ⟨Nat.le_of_ble_eq_true rfl, Nat.le_of_ble_eq_true rfl⟩ (hU c c0 c')))
/-- how many coins a buyer tells -/
def byN (b c d : Int) : Int := if b = -1 then 1 else if c = -1 then 2 else if d = -1 then 3 else 4
def buyM (M : zM) (k g a b c d h : Int) : zM := zup (zup (zup (zup (zup (zup (zup (zup M 30 k.toNat g) 32 k.toNat (byN b c d)) 33 k.toNat h) 1 5 (k + 1)) 31 (k * 4).toNat a) 31 (k * 4 + 1).toNat b) 31 (k * 4 + 2).toNat c) 31 (k * 4 + 3).toNat d
abbrev byOk (M : zM) (g a b c d : Int) : Prop := (0 ≤ g ∧ g < M 1 3) ∧ (0 ≤ a ∧ a < M 2 0) ∧ (b = -1 ∨ ((0 ≤ b ∧ b < M 2 0) ∧ (c = -1 ∨ ((0 ≤ c ∧ c < M 2 0) ∧ (d = -1 ∨ (0 ≤ d ∧ d < M 2 0))))))
def sp_X11_buyer (as : List zV) (M : zM) (Q : Option zV → zM → Prop) : Prop := ∃ (g a b c d h : Int), as = [zR 0, zI g, zI a, zI b, zI c, zI d, zI h] ∧ (0 ≤ M 1 3) ∧ (0 ≤ M 1 5 ∧ M 1 5 ≤ 5) ∧ (byOk M g a b c d → (1 ≤ h ∧ h ≤ 9) → M 1 5 < 5 → Q (some (zI (M 1 5))) (buyM M (M 1 5) g a b c d h)) ∧ (byOk M g a b c d → (1 ≤ h ∧ h ≤ 9) → ¬ M 1 5 < 5 → Q (some (zI (-1))) M) ∧ (¬ byOk M g a b c d → Q (some (zR 3000)) M) ∧ (byOk M g a b c d → ¬ (1 ≤ h ∧ h ≤ 9) → Q (some (zR 3001)) M)
theorem us_X11_buyer {g a b c d h : Int} {M : zM} {Q : Option zV → zM → Prop} (h0 : 0 ≤ M 1 3) (hb : 0 ≤ M 1 5 ∧ M 1 5 ≤ 5) (hQ : byOk M g a b c d → (1 ≤ h ∧ h ≤ 9) → M 1 5 < 5 → Q (some (zI (M 1 5))) (buyM M (M 1 5) g a b c d h)) (hF : byOk M g a b c d → (1 ≤ h ∧ h ≤ 9) → ¬ M 1 5 < 5 → Q (some (zI (-1))) M) (hT : ¬ byOk M g a b c d → Q (some (zR 3000)) M) (hU : byOk M g a b c d → ¬ (1 ≤ h ∧ h ≤ 9) → Q (some (zR 3001)) M) : sp_X11_buyer [zR 0, zI g, zI a, zI b, zI c, zI d, zI h] M Q := ⟨g, a, b, c, d, h, rfl, h0, hb, hQ, hF, hT, hU⟩
set_option maxRecDepth 20000 in
set_option maxHeartbeats 4000000 in
theorem m_X11_buyer (l : Launch) : zCx l yX11_buyer wzX11_buyer rmX11_buyer 6 sp_X11_buyer := by
  refine zMet.of RX11 (by decide +kernel) rfl rfl ?_
  intro E X as M Qp hX S hsp
  obtain ⟨g, a, b, c, d, h, rfl, h0, hb, hQ, hF, hT, hU⟩ := hsp
  refine ⟨Nat.le_of_ble_eq_true rfl, ?_⟩
  dsimp only [zpad, zargs]
  have key : ∀ (n : Int) (bb : Nat × Nat), bb.1 ≤ 5 → bb.2 ≤ 30 → n = byN b c d → zrI n → byOk M g a b c d → zK (zg E) rmX11_buyer 9 (Qp, 6, 6 * 6) X bb 56 [some (zR 0), some (zI g), some (zI a), some (zI b), some (zI c), some (zI d), some (zI h), some (zI n), none] [] M := by
    intro n bb hb1 hb2 hn hnr ok
    refine zr_iload (pc := 56) S dX11_buyer_56 rfl ?_
    refine zr_i2l (pc := 58) S dX11_buyer_58 ?_
    refine zr_lconst1 (pc := 59) S dX11_buyer_59 ?_
    refine zr_ldc2 (pc := 60) S (9) dX11_buyer_60 (List.mem_cons_of_mem _ (zWi_7 _ (List.mem_of_getElem? (i := 9) rfl))) (by unfold zrL; omega) ?_
    refine zr_invS (pc := 63) S [zL _, zL _, zL _] (m_X11_within _) kX11_buyer_93 dX11_buyer_63 (Nat.le_of_ble_eq_true rfl) ⟨by show bb.1 + 0 ≤ 6; omega, by show bb.2 + 0 ≤ 36; omega⟩ (us_X11_within ?_)
    dsimp only [zaft, Nat.add_zero]
    refine zr_invS (pc := 66) S [zI _] (m_X11_need _) kX11_buyer_97 dX11_buyer_66 (Nat.le_of_ble_eq_true rfl) ⟨by show bb.1 + 1 ≤ 6; omega, by show bb.2 + 6 * 1 ≤ 36; omega⟩ (us_X11_need (fun c66 => ?_) (fun c66 => zaft_thr (by omega) ⟨by show bb.1 + 1 ≤ 6; omega, by show bb.2 + 6 * 1 ≤ 36; omega⟩ (hU ok (b01_0.mp c66))))
    dsimp only [zaft]
    rw [b01_0, Classical.not_not] at c66
    refine zr_aload_n (pc := 69) S dX11_buyer_69 rfl ?_
    refine zr_getR (pc := 70) S fX11_buyer_10 dX11_buyer_70 rfl (Nat.le_of_ble_eq_true rfl) rfl ?_
    refine zr_iload_n (pc := 73) S dX11_buyer_73 rfl ?_
    refine zr_iload (pc := 74) S dX11_buyer_74 rfl ?_
    refine zr_iload (pc := 76) S dX11_buyer_76 rfl ?_
    refine zr_invV (pc := 78) S [zI _, zI _, zI _] (m_X8_addBuyer _) kX11_buyer_367 dX11_buyer_78 rfl (Nat.le_of_ble_eq_true rfl) rfl (Nat.le_of_ble_eq_true rfl) ⟨by show bb.1 + 1 + 0 ≤ 6; omega, by show bb.2 + 6 * 1 + 0 ≤ 36; omega⟩ (us_X8_addBuyer hb ?_)
    dsimp only [zaft, Nat.add_zero]
    by_cases hf : 5 ≤ M 1 5
    · rw [if_pos hf, if_pos hf]
      have f := hF ok c66 (by omega)
      refine zr_istore (pc := 81) S dX11_buyer_81 (by decide) ?_
      dsimp only [zst1, zst2, zset, zget, zlong]
      refine zr_iload (pc := 83) S dX11_buyer_83 rfl ?_
      refine zr_iconst (pc := 85) S dX11_buyer_85 (by unfold zrI; omega) ?_
      refine zr_icmp_eq (pc := 86) (tgt := 104) S dX11_buyer_86 (by decide) (fun c => ?_) (fun c => absurd rfl c)
      refine zr_iload (pc := 104) S dX11_buyer_104 rfl ?_
      exact zr_iret (pc := 106) S dX11_buyer_106 rfl ⟨by show bb.1 + 1 ≤ 6; omega, by show bb.2 + 6 * 1 ≤ 36; omega⟩ f
    · rw [if_neg hf, if_neg hf]
      have f := hQ ok c66 (by omega)
      unfold buyM at f
      rw [← hn] at f
      refine zr_istore (pc := 81) S dX11_buyer_81 (by decide) ?_
      dsimp only [zst1, zst2, zset, zget, zlong]
      refine zr_iload (pc := 83) S dX11_buyer_83 rfl ?_
      refine zr_iconst (pc := 85) S dX11_buyer_85 (by unfold zrI; omega) ?_
      refine zr_icmp_eq (pc := 86) (tgt := 104) S dX11_buyer_86 (by decide) (fun c => absurd c (by omega)) (fun c => ?_)
      refine zr_aload_n (pc := 89) S dX11_buyer_89 rfl ?_
      refine zr_getR (pc := 90) S fX11_buyer_10 dX11_buyer_90 rfl (Nat.le_of_ble_eq_true rfl) rfl ?_
      refine zr_iload (pc := 93) S dX11_buyer_93 rfl ?_
      refine zr_iload_n (pc := 95) S dX11_buyer_95 rfl ?_
      refine zr_iload_n (pc := 96) S dX11_buyer_96 rfl ?_
      refine zr_iload (pc := 97) S dX11_buyer_97 rfl ?_
      refine zr_iload (pc := 99) S dX11_buyer_99 rfl ?_
      refine zr_invV (pc := 101) S [zI _, zI _, zI _, zI _, zI _] (m_X8_tellCoins _) kX11_buyer_370 dX11_buyer_101 rfl (Nat.le_of_ble_eq_true rfl) rfl (Nat.le_of_ble_eq_true rfl) ⟨by show bb.1 + 1 + 0 ≤ 6; omega, by show bb.2 + 6 * 1 + 0 ≤ 36; omega⟩ (us_X8_tellCoins hb.1 (by omega) ?_)
      dsimp only [zaft, Nat.add_zero]
      refine zr_iload (pc := 104) S dX11_buyer_104 rfl ?_
      exact zr_iret (pc := 106) S dX11_buyer_106 rfl ⟨by show bb.1 + 1 ≤ 6; omega, by show bb.2 + 6 * 1 ≤ 36; omega⟩ f
  refine zr_aload_n (pc := 0) S dX11_buyer_0 rfl ?_
  refine zr_iload_n (pc := 1) S dX11_buyer_1 rfl ?_
  refine zr_invV (pc := 2) S [zI _] (m_X11_needGood _) kX11_buyer_249 dX11_buyer_2 rfl (Nat.le_of_ble_eq_true rfl) rfl (Nat.le_of_ble_eq_true rfl) ⟨Nat.le_of_ble_eq_true rfl, Nat.le_of_ble_eq_true rfl⟩ (us_X11_needGood h0 (fun c2 => ?_) (fun c2 => zaft_thr (by omega) ⟨Nat.le_of_ble_eq_true rfl, Nat.le_of_ble_eq_true rfl⟩ (hT (fun z => c2 z.1))))
  dsimp only [zaft, Option.toList, List.cons_append, List.nil_append, Nat.add_zero]
  refine zr_aload_n (pc := 5) S dX11_buyer_5 rfl ?_
  refine zr_iload_n (pc := 6) S dX11_buyer_6 rfl ?_
  refine zr_invV (pc := 7) S [zI _] (m_X11_needSort _) kX11_buyer_109 dX11_buyer_7 rfl (Nat.le_of_ble_eq_true rfl) rfl (Nat.le_of_ble_eq_true rfl) ⟨Nat.le_of_ble_eq_true rfl, Nat.le_of_ble_eq_true rfl⟩ (us_X11_needSort (fun c7 => ?_) (fun c7 => zaft_thr (by omega) ⟨Nat.le_of_ble_eq_true rfl, Nat.le_of_ble_eq_true rfl⟩ (hT (fun z => c7 z.2.1))))
  dsimp only [zaft, Option.toList, List.cons_append, List.nil_append, Nat.add_zero]
  refine zr_iconst (pc := 10) S dX11_buyer_10 (by unfold zrI; omega) ?_
  refine zr_istore (pc := 11) S dX11_buyer_11 (by decide) ?_
  dsimp only [zst1, zst2, zset, zget, zlong]
  refine zr_iload_n (pc := 13) S dX11_buyer_13 rfl ?_
  refine zr_iconst (pc := 14) S dX11_buyer_14 (by unfold zrI; omega) ?_
  refine zr_icmp_eq (pc := 15) (tgt := 56) S dX11_buyer_15 (by decide) (fun c15 => ?_) (fun c15 => ?_)
  · exact key _ _ (Nat.le_of_ble_eq_true rfl) (Nat.le_of_ble_eq_true rfl) (by unfold byN; first | rw [if_pos c15] | rw [if_neg c15, if_pos c29] | rw [if_neg c15, if_neg c29, if_pos c44] | rw [if_neg c15, if_neg c29, if_neg c44]) (by unfold zrI; omega) (by first | exact ⟨c2, c7, Or.inl c15⟩ | exact ⟨c2, c7, Or.inr ⟨c20, Or.inl c29⟩⟩ | exact ⟨c2, c7, Or.inr ⟨c20, Or.inr ⟨c35, Or.inl c44⟩⟩⟩ | exact ⟨c2, c7, Or.inr ⟨c20, Or.inr ⟨c35, Or.inr c50⟩⟩⟩)
  · refine zr_aload_n (pc := 18) S dX11_buyer_18 rfl ?_
    refine zr_iload_n (pc := 19) S dX11_buyer_19 rfl ?_
    refine zr_invV (pc := 20) S [zI _] (m_X11_needSort _) kX11_buyer_109 dX11_buyer_20 rfl (Nat.le_of_ble_eq_true rfl) rfl (Nat.le_of_ble_eq_true rfl) ⟨Nat.le_of_ble_eq_true rfl, Nat.le_of_ble_eq_true rfl⟩ (us_X11_needSort (fun c20 => ?_) (fun c20 => zaft_thr (by omega) ⟨Nat.le_of_ble_eq_true rfl, Nat.le_of_ble_eq_true rfl⟩ (hT (fun z => z.2.2.elim c15 (fun z => c20 z.1)))))
    dsimp only [zaft, Option.toList, List.cons_append, List.nil_append, Nat.add_zero]
    refine zr_iconst (pc := 23) S dX11_buyer_23 (by unfold zrI; omega) ?_
    refine zr_istore (pc := 24) S dX11_buyer_24 (by decide) ?_
    dsimp only [zst1, zst2, zset, zget, zlong]
    refine zr_iload (pc := 26) S dX11_buyer_26 rfl ?_
    refine zr_iconst (pc := 28) S dX11_buyer_28 (by unfold zrI; omega) ?_
    refine zr_icmp_eq (pc := 29) (tgt := 56) S dX11_buyer_29 (by decide) (fun c29 => ?_) (fun c29 => ?_)
    · exact key _ _ (Nat.le_of_ble_eq_true rfl) (Nat.le_of_ble_eq_true rfl) (by unfold byN; first | rw [if_pos c15] | rw [if_neg c15, if_pos c29] | rw [if_neg c15, if_neg c29, if_pos c44] | rw [if_neg c15, if_neg c29, if_neg c44]) (by unfold zrI; omega) (by first | exact ⟨c2, c7, Or.inl c15⟩ | exact ⟨c2, c7, Or.inr ⟨c20, Or.inl c29⟩⟩ | exact ⟨c2, c7, Or.inr ⟨c20, Or.inr ⟨c35, Or.inl c44⟩⟩⟩ | exact ⟨c2, c7, Or.inr ⟨c20, Or.inr ⟨c35, Or.inr c50⟩⟩⟩)
    · refine zr_aload_n (pc := 32) S dX11_buyer_32 rfl ?_
      refine zr_iload (pc := 33) S dX11_buyer_33 rfl ?_
      refine zr_invV (pc := 35) S [zI _] (m_X11_needSort _) kX11_buyer_109 dX11_buyer_35 rfl (Nat.le_of_ble_eq_true rfl) rfl (Nat.le_of_ble_eq_true rfl) ⟨Nat.le_of_ble_eq_true rfl, Nat.le_of_ble_eq_true rfl⟩ (us_X11_needSort (fun c35 => ?_) (fun c35 => zaft_thr (by omega) ⟨Nat.le_of_ble_eq_true rfl, Nat.le_of_ble_eq_true rfl⟩ (hT (fun z => z.2.2.elim c15 (fun z => z.2.elim c29 (fun z => c35 z.1))))))
      dsimp only [zaft, Option.toList, List.cons_append, List.nil_append, Nat.add_zero]
      refine zr_iconst (pc := 38) S dX11_buyer_38 (by unfold zrI; omega) ?_
      refine zr_istore (pc := 39) S dX11_buyer_39 (by decide) ?_
      dsimp only [zst1, zst2, zset, zget, zlong]
      refine zr_iload (pc := 41) S dX11_buyer_41 rfl ?_
      refine zr_iconst (pc := 43) S dX11_buyer_43 (by unfold zrI; omega) ?_
      refine zr_icmp_eq (pc := 44) (tgt := 56) S dX11_buyer_44 (by decide) (fun c44 => ?_) (fun c44 => ?_)
      · exact key _ _ (Nat.le_of_ble_eq_true rfl) (Nat.le_of_ble_eq_true rfl) (by unfold byN; first | rw [if_pos c15] | rw [if_neg c15, if_pos c29] | rw [if_neg c15, if_neg c29, if_pos c44] | rw [if_neg c15, if_neg c29, if_neg c44]) (by unfold zrI; omega) (by first | exact ⟨c2, c7, Or.inl c15⟩ | exact ⟨c2, c7, Or.inr ⟨c20, Or.inl c29⟩⟩ | exact ⟨c2, c7, Or.inr ⟨c20, Or.inr ⟨c35, Or.inl c44⟩⟩⟩ | exact ⟨c2, c7, Or.inr ⟨c20, Or.inr ⟨c35, Or.inr c50⟩⟩⟩)
      · refine zr_aload_n (pc := 47) S dX11_buyer_47 rfl ?_
        refine zr_iload (pc := 48) S dX11_buyer_48 rfl ?_
        refine zr_invV (pc := 50) S [zI _] (m_X11_needSort _) kX11_buyer_109 dX11_buyer_50 rfl (Nat.le_of_ble_eq_true rfl) rfl (Nat.le_of_ble_eq_true rfl) ⟨Nat.le_of_ble_eq_true rfl, Nat.le_of_ble_eq_true rfl⟩ (us_X11_needSort (fun c50 => ?_) (fun c50 => zaft_thr (by omega) ⟨Nat.le_of_ble_eq_true rfl, Nat.le_of_ble_eq_true rfl⟩ (hT (fun z => z.2.2.elim c15 (fun z => z.2.elim c29 (fun z => z.2.elim c44 c50))))))
        dsimp only [zaft, Option.toList, List.cons_append, List.nil_append, Nat.add_zero]
        refine zr_iconst (pc := 53) S dX11_buyer_53 (by unfold zrI; omega) ?_
        refine zr_istore (pc := 54) S dX11_buyer_54 (by decide) ?_
        dsimp only [zst1, zst2, zset, zget, zlong]
        exact key _ _ (Nat.le_of_ble_eq_true rfl) (Nat.le_of_ble_eq_true rfl) (by unfold byN; first | rw [if_pos c15] | rw [if_neg c15, if_pos c29] | rw [if_neg c15, if_neg c29, if_pos c44] | rw [if_neg c15, if_neg c29, if_neg c44]) (by unfold zrI; omega) (by first | exact ⟨c2, c7, Or.inl c15⟩ | exact ⟨c2, c7, Or.inr ⟨c20, Or.inl c29⟩⟩ | exact ⟨c2, c7, Or.inr ⟨c20, Or.inr ⟨c35, Or.inl c44⟩⟩⟩ | exact ⟨c2, c7, Or.inr ⟨c20, Or.inr ⟨c35, Or.inr c50⟩⟩⟩)
end
