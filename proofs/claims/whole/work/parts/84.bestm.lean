section
abbrev fr (d e : Int) : Int := (d.natAbs : Int) + (e.natAbs : Int)
def kp (l : Int → Int → Int) (d e : Int) : Int := l d e * 10000 + ((d.natAbs : Int) + (e.natAbs : Int)) * 100 + ((d + 4) * 9 + (e + 4))
abbrev gd (d e : Int) : Prop := -4 ≤ d ∧ d ≤ 4 ∧ -4 ≤ e ∧ e ≤ 4
def Opt (l : Int → Int → Int) (d e : Int) : Prop := gd d e ∧ ∀ d' e', gd d' e' → kp l d e ≤ kp l d' e'
theorem Opt_u {l : Int → Int → Int} {d e d' e' : Int} (h : Opt l d e) (h' : Opt l d' e') : d = d' ∧ e = e' := by
  have a := h.2 d' e' h'.1
  have b := h'.2 d e h.1
  have g1 := h.1
  have g2 := h'.1
  unfold kp at a b
  have key : ∀ L F T L' F' T' : Int, 0 ≤ F → F ≤ 8 → 0 ≤ T → T ≤ 80 → 0 ≤ F' → F' ≤ 8 → 0 ≤ T' → T' ≤ 80 → L * 10000 + F * 100 + T = L' * 10000 + F' * 100 + T' → T = T' := by
    intro L F T L' F' T' _ _ _ _ _ _ _ _ _
    omega
  have := key (l d e) ((d.natAbs : Int) + (e.natAbs : Int)) ((d + 4) * 9 + (e + 4)) (l d' e') ((d'.natAbs : Int) + (e'.natAbs : Int)) ((d' + 4) * 9 + (e' + 4)) (by omega) (by omega) (by omega) (by omega) (by omega) (by omega) (by omega) (by omega) (Int.le_antisymm a b)
  omega
theorem bst_o (l : Int → Int → Int) : ∀ t : Nat, t ≤ 81 → gd (bst l t).1 (bst l t).2.1 ∧ (bst l t).2.2 = l (bst l t).1 (bst l t).2.1 ∧ kp l (bst l t).1 (bst l t).2.1 ≤ kp l 0 0 ∧ (∀ i : Nat, i < t → kp l (bst l t).1 (bst l t).2.1 ≤ kp l ((i / 9 : Nat) - 4) ((i % 9 : Nat) - 4)) ∧ (((bst l t).1 = 0 ∧ (bst l t).2.1 = 0) ∨ ((bst l t).1 + 4) * 9 + ((bst l t).2.1 + 4) < t)
  | 0, _ => ⟨⟨show (-4 : Int) ≤ 0 by decide, show (0 : Int) ≤ 4 by decide, show (-4 : Int) ≤ 0 by decide, show (0 : Int) ≤ 4 by decide⟩, rfl, Int.le_refl _, fun i hi => absurd hi (by omega), Or.inl ⟨rfl, rfl⟩⟩
  | t + 1, ht => by
    obtain ⟨h1, h2, h3, h4, h5⟩ := bst_o l t (by omega)
    have q : ((t / 9 : Nat) : Int) * 9 + ((t % 9 : Nat) : Int) = t := by omega
    have q9 : ((t % 9 : Nat) : Int) < 9 := by omega
    have q8 : ((t / 9 : Nat) : Int) < 9 := by omega
    simp only [bst]
    generalize bst l t = p at *
    obtain ⟨d, e, x⟩ := p
    dsimp only at h1 h2 h3 h4 h5
    generalize hD : ((t / 9 : Nat) : Int) - 4 = D
    generalize hE : ((t % 9 : Nat) : Int) - 4 = E
    unfold bstS
    dsimp only
    by_cases c : l D E < x ∨ (l D E = x ∧ (D.natAbs : Int) + E.natAbs < (d.natAbs : Int) + e.natAbs)
    · rw [if_pos c]
      dsimp only
      have lt : kp l D E ≤ kp l d e := by unfold kp; omega
      refine ⟨by omega, rfl, by omega, fun i hi => ?_, Or.inr (by omega)⟩
      by_cases ei : i = t
      · subst ei; rw [hD, hE]; exact Int.le_refl _
      · have := h4 i (by omega); omega
    · rw [if_neg c]
      dsimp only
      refine ⟨h1, h2, h3, fun i hi => ?_, by omega⟩
      by_cases ei : i = t
      · subst ei
        rw [hD, hE]
        unfold kp
        omega
      · exact h4 i (by omega)
theorem bst_Opt (l : Int → Int → Int) : Opt l (bst l 81).1 (bst l 81).2.1 ∧ (bst l 81).2.2 = l (bst l 81).1 (bst l 81).2.1 := by
  obtain ⟨h1, h2, h3, h4, h5⟩ := bst_o l 81 (Nat.le_refl _)
  refine ⟨⟨h1, fun d e g => ?_⟩, h2⟩
  have := h4 ((d + 4) * 9 + (e + 4)).toNat (by omega)
  rw [show (((((d + 4) * 9 + (e + 4)).toNat / 9 : Nat) : Int) - 4) = d by omega, show (((((d + 4) * 9 + (e + 4)).toNat % 9 : Nat) : Int) - 4) = e by omega] at this
  exact this
abbrev vis (f d e d' e' : Int) : Prop := (d'.natAbs : Int) + (e'.natAbs : Int) < f ∨ ((d'.natAbs : Int) + (e'.natAbs : Int) = f ∧ (d' < d ∨ (d' = d ∧ e' < e)))
def VI (l : Int → Int → Int) (f d e any least bd be : Int) : Prop := (any = 0 ∧ least = 0 ∧ bd = 0 ∧ be = 0 ∧ ∀ d' e', gd d' e' → ¬ vis f d e d' e') ∨ (any = 1 ∧ gd bd be ∧ vis f d e bd be ∧ least = l bd be ∧ ∀ d' e', gd d' e' → vis f d e d' e' → kp l bd be ≤ kp l d' e')
theorem VI_c {l : Int → Int → Int} {f d e f' d2 e2 any least bd be : Int} (h : VI l f d e any least bd be) (hc : ∀ d' e', gd d' e' → (vis f d e d' e' ↔ vis f' d2 e2 d' e')) : VI l f' d2 e2 any least bd be := by
  rcases h with ⟨a, b, c, d9, h⟩ | ⟨a, b, c, d9, h⟩
  · exact Or.inl ⟨a, b, c, d9, fun d' e' g z => h d' e' g ((hc d' e' g).mpr z)⟩
  · exact Or.inr ⟨a, b, (hc bd be b).mp c, d9, fun d' e' g z => h d' e' g ((hc d' e' g).mpr z)⟩
theorem VI_keep {l : Int → Int → Int} {f d e least bd be : Int} (h : VI l f d e 1 least bd be) (hg : gd d e) (hf : (d.natAbs : Int) + (e.natAbs : Int) = f) (hl : least ≤ l d e) : VI l f d (e + 1) 1 least bd be := by
  rcases h with ⟨a, _⟩ | ⟨_, b, c, d9, h⟩
  · omega
  · refine Or.inr ⟨rfl, b, by omega, d9, fun d' e' g z => ?_⟩
    by_cases eq : d' = d ∧ e' = e
    · rw [eq.1, eq.2]
      unfold kp
      omega
    · exact h d' e' g (by omega)
theorem VI_new {l : Int → Int → Int} {f d e any least bd be : Int} (h : VI l f d e any least bd be) (hg : gd d e) (hf : (d.natAbs : Int) + (e.natAbs : Int) = f) (hl : any = 0 ∨ l d e < least) : VI l f d (e + 1) 1 (l d e) d e := by
  refine Or.inr ⟨rfl, hg, by omega, rfl, fun d' e' g z => ?_⟩
  by_cases eq : d' = d ∧ e' = e
  · rw [eq.1, eq.2]; exact Int.le_refl _
  · rcases h with ⟨a, _, _, _, h⟩ | ⟨a, b, c, d9, h⟩
    · exact absurd (show vis f d e d' e' by omega) (h d' e' g)
    · have := h d' e' g (by omega)
      have k2 : kp l d e ≤ kp l bd be := by unfold kp; omega
      omega
theorem VI_end {l : Int → Int → Int} {any least bd be : Int} (h : VI l 9 (-4) (-4) any least bd be) : Opt l bd be ∧ least = l bd be := by
  rcases h with ⟨a, _, _, _, h⟩ | ⟨a, b, c, d9, h⟩
  · exact absurd (show vis 9 (-4) (-4) 0 0 by omega) (h 0 0 (by omega))
  · exact ⟨⟨b, fun d' e' g => h d' e' g (by omega)⟩, d9⟩
abbrev bsL (g : Nat) (w least bd be any f : Int) (d e u : Option zV) : List (Option zV) := [some (zR 180), some (zI g), some (zI w), some (zL least), none, some (zI bd), some (zI be), some (zI any), some (zI f), d, e, u, none]
theorem bs_in {E : zE} {X : zX} {Qp : Option zV → zM → Prop} {M : zM} {g : Nat} {w f d : Int} (S : zS (zg E) X cX12_best 13 wzX12_best RX12 (some .long)) (hs : ICs (vm M)) (hg : ICg (vm M)) (hk : ICk (M 181)) (h1 : (g : Int) < M 181 1) (hf : 0 ≤ f ∧ f ≤ 8) (hd : -4 ≤ d ∧ d ≤ 4)
    (k : ∀ (N : zM) (any least bd be : Int) (u : Option zV), offT M N → VI (lossM (vm M) g) f d 5 any least bd be → zK (zg E) rmX12_best 13 (Qp, 0, 0) X (0, 0) 148 (bsL g w least bd be any f (some (zI d)) (some (zI 5)) u) [] N) : ∀ (n : Nat) (e : Int) (N : zM) (any least bd be : Int) (u : Option zV), (n : Int) + e = 5 → -4 ≤ e → offT M N → VI (lossM (vm M) g) f d e any least bd be → zK (zg E) rmX12_best 13 (Qp, 0, 0) X (0, 0) 77 (bsL g w least bd be any f (some (zI d)) (some (zI e)) u) [] N := by
  intro n
  induction n with
  | zero =>
    intro e N any least bd be u he h4 hN hV
    obtain rfl : e = 5 := by omega
    have kk := k N any least bd be u hN hV
    refine zr_iload (pc := 77) S dX12_best_77 rfl ?_
    refine zr_iconst (pc := 79) S dX12_best_79 (by unfold zrI; omega) ?_
    refine zr_icmp_gt (pc := 80) (tgt := 148) S dX12_best_80 (by decide) (fun c80 => ?_) (fun c80 => absurd c80 (by omega))
    exact kk
  | succ n ih =>
    intro e N any least bd be u he h4 hN hV
    by_cases hfar : (d.natAbs : Int) + (e.natAbs : Int) = f
    · have el : lossM (vm N) g d e = lossM (vm M) g d e := ag_lossM (offT_vm hN) g d e
      have any01 : any = 0 ∨ any = 1 := by rcases hV with h | h <;> omega
      have kn := fun (T : zM) (hT : offT M T) (u : Option zV) (hl : any = 0 ∨ lossM (vm M) g d e < least) => ih (e + 1) T 1 (lossM (vm M) g d e) d e u (by omega) (by omega) hT (VI_new hV (by omega) hfar hl)
      have kk := fun (T : zM) (hT : offT M T) (u : Option zV) (ha : any = 1) (hl : least ≤ lossM (vm M) g d e) => ih (e + 1) T any least bd be u (by omega) (by omega) hT (by subst ha; exact VI_keep hV (by omega) hfar hl)
      have tN : N 181 = M 181 := hN.1 _ (by decide) (by decide) (by decide)
      refine zr_iload (pc := 77) S dX12_best_77 rfl ?_
      refine zr_iconst (pc := 79) S dX12_best_79 (by unfold zrI; omega) ?_
      refine zr_icmp_gt (pc := 80) (tgt := 148) S dX12_best_80 (by decide) (fun c80 => absurd c80 (by omega)) (fun c80 => ?_)
      refine zr_iload (pc := 83) S dX12_best_83 rfl ?_
      refine zr_mabs (pc := 85) S kX12_best_285 dX12_best_85 (Nat.le_of_ble_eq_true rfl) (Nat.le_of_ble_eq_true rfl) ⟨Nat.le_of_ble_eq_true rfl, Nat.le_of_ble_eq_true rfl⟩ (by unfold zrI; omega) ?_
      refine zr_iload (pc := 88) S dX12_best_88 rfl ?_
      refine zr_mabs (pc := 90) S kX12_best_285 dX12_best_90 (Nat.le_of_ble_eq_true rfl) (Nat.le_of_ble_eq_true rfl) ⟨Nat.le_of_ble_eq_true rfl, Nat.le_of_ble_eq_true rfl⟩ (by unfold zrI; omega) ?_
      refine zr_iadd (pc := 93) S dX12_best_93 (by unfold zrI; omega) ?_
      refine zr_iload (pc := 94) S dX12_best_94 rfl ?_
      refine zr_icmp_eq (pc := 96) (tgt := 102) S dX12_best_96 (by decide) (fun c96 => ?_) (fun c96 => absurd c96 (by omega))
      refine zr_aload_n (pc := 102) S dX12_best_102 rfl ?_
      refine zr_iload_n (pc := 103) S dX12_best_103 rfl ?_
      refine zr_iload (pc := 104) S dX12_best_104 rfl ?_
      refine zr_iload (pc := 106) S dX12_best_106 rfl ?_
      refine zr_invV (pc := 108) S [zI _, zI _, zI _] (m_X12_lossOf _) kX12_best_281 dX12_best_108 rfl (Nat.le_of_ble_eq_true rfl) rfl (Nat.le_of_ble_eq_true rfl) ⟨Nat.le_of_ble_eq_true rfl, Nat.le_of_ble_eq_true rfl⟩ (us_X12_lossOf ((offT_vm hN).s hs) ((offT_vm hN).g hg) (by rw [tN]; exact hk) (by rw [tN]; exact h1) (by omega) (by omega) ?_)
      dsimp only [zaft, Option.toList, List.cons_append, List.nil_append, Nat.add_zero]
      intro T hT
      rw [el]
      refine zr_lstore (pc := 111) S dX12_best_111 (by decide) ?_
      dsimp only [zst1, zst2, zset, zget, zlong]
      refine zr_iload (pc := 113) S dX12_best_113 rfl ?_
      refine zr_if_eq (pc := 115) (tgt := 128) S dX12_best_115 (by decide) (fun c115 => ?_) (fun c115 => ?_)
      · refine zr_iconst (pc := 128) S dX12_best_128 (by unfold zrI; omega) ?_
        refine zr_istore (pc := 129) S dX12_best_129 (by decide) ?_
        dsimp only [zst1, zst2, zset, zget, zlong]
        refine zr_lload (pc := 131) S dX12_best_131 rfl ?_
        refine zr_lstore_n (pc := 133) S 3 dX12_best_133 rfl (by decide) ?_
        dsimp only [zst1, zst2, zset, zget, zlong]
        refine zr_iload (pc := 134) S dX12_best_134 rfl ?_
        refine zr_istore (pc := 136) S dX12_best_136 (by decide) ?_
        dsimp only [zst1, zst2, zset, zget, zlong]
        refine zr_iload (pc := 138) S dX12_best_138 rfl ?_
        refine zr_istore (pc := 140) S dX12_best_140 (by decide) ?_
        dsimp only [zst1, zst2, zset, zget, zlong]
        refine zr_iinc (pc := 142) S dX12_best_142 rfl (by unfold zrI; omega) (by decide) ?_
        dsimp only [zst1, zst2, zset, zget, zlong]
        refine zr_goto (pc := 145) (tgt := 77) S dX12_best_145 (by decide) ?_
        first | exact kn T (hN.tr hT) _ (Or.inl c115) | exact kn T (hN.tr hT) _ (Or.inr c121) | exact kk T (hN.tr hT) _ (by omega) c121
      · refine zr_lload (pc := 118) S dX12_best_118 rfl ?_
        refine zr_lload_n (pc := 120) S dX12_best_120 rfl ?_
        refine zr_lcmp_lt (pc := 121) (tgt := 128) S dX12_best_121 dX12_best_122 (by decide) (fun c121 => ?_) (fun c121 => ?_)
        · refine zr_iconst (pc := 128) S dX12_best_128 (by unfold zrI; omega) ?_
          refine zr_istore (pc := 129) S dX12_best_129 (by decide) ?_
          dsimp only [zst1, zst2, zset, zget, zlong]
          refine zr_lload (pc := 131) S dX12_best_131 rfl ?_
          refine zr_lstore_n (pc := 133) S 3 dX12_best_133 rfl (by decide) ?_
          dsimp only [zst1, zst2, zset, zget, zlong]
          refine zr_iload (pc := 134) S dX12_best_134 rfl ?_
          refine zr_istore (pc := 136) S dX12_best_136 (by decide) ?_
          dsimp only [zst1, zst2, zset, zget, zlong]
          refine zr_iload (pc := 138) S dX12_best_138 rfl ?_
          refine zr_istore (pc := 140) S dX12_best_140 (by decide) ?_
          dsimp only [zst1, zst2, zset, zget, zlong]
          refine zr_iinc (pc := 142) S dX12_best_142 rfl (by unfold zrI; omega) (by decide) ?_
          dsimp only [zst1, zst2, zset, zget, zlong]
          refine zr_goto (pc := 145) (tgt := 77) S dX12_best_145 (by decide) ?_
          first | exact kn T (hN.tr hT) _ (Or.inl c115) | exact kn T (hN.tr hT) _ (Or.inr c121) | exact kk T (hN.tr hT) _ (by omega) c121
        · refine zr_goto (pc := 125) (tgt := 142) S dX12_best_125 (by decide) ?_
          refine zr_iinc (pc := 142) S dX12_best_142 rfl (by unfold zrI; omega) (by decide) ?_
          dsimp only [zst1, zst2, zset, zget, zlong]
          refine zr_goto (pc := 145) (tgt := 77) S dX12_best_145 (by decide) ?_
          first | exact kn T (hN.tr hT) _ (Or.inl c115) | exact kn T (hN.tr hT) _ (Or.inr c121) | exact kk T (hN.tr hT) _ (by omega) c121
    · have kk := ih (e + 1) N any least bd be u (by omega) (by omega) hN (VI_c hV (fun d' e' g9 => by omega))
      refine zr_iload (pc := 77) S dX12_best_77 rfl ?_
      refine zr_iconst (pc := 79) S dX12_best_79 (by unfold zrI; omega) ?_
      refine zr_icmp_gt (pc := 80) (tgt := 148) S dX12_best_80 (by decide) (fun c80 => absurd c80 (by omega)) (fun c80 => ?_)
      refine zr_iload (pc := 83) S dX12_best_83 rfl ?_
      refine zr_mabs (pc := 85) S kX12_best_285 dX12_best_85 (Nat.le_of_ble_eq_true rfl) (Nat.le_of_ble_eq_true rfl) ⟨Nat.le_of_ble_eq_true rfl, Nat.le_of_ble_eq_true rfl⟩ (by unfold zrI; omega) ?_
      refine zr_iload (pc := 88) S dX12_best_88 rfl ?_
      refine zr_mabs (pc := 90) S kX12_best_285 dX12_best_90 (Nat.le_of_ble_eq_true rfl) (Nat.le_of_ble_eq_true rfl) ⟨Nat.le_of_ble_eq_true rfl, Nat.le_of_ble_eq_true rfl⟩ (by unfold zrI; omega) ?_
      refine zr_iadd (pc := 93) S dX12_best_93 (by unfold zrI; omega) ?_
      refine zr_iload (pc := 94) S dX12_best_94 rfl ?_
      refine zr_icmp_eq (pc := 96) (tgt := 102) S dX12_best_96 (by decide) (fun c96 => absurd c96 (by omega)) (fun c96 => ?_)
      refine zr_goto (pc := 99) (tgt := 142) S dX12_best_99 (by decide) ?_
      refine zr_iinc (pc := 142) S dX12_best_142 rfl (by unfold zrI; omega) (by decide) ?_
      dsimp only [zst1, zst2, zset, zget, zlong]
      refine zr_goto (pc := 145) (tgt := 77) S dX12_best_145 (by decide) ?_
      exact kk
theorem bs_mid {E : zE} {X : zX} {Qp : Option zV → zM → Prop} {M : zM} {g : Nat} {w f : Int} (S : zS (zg E) X cX12_best 13 wzX12_best RX12 (some .long)) (hs : ICs (vm M)) (hg : ICg (vm M)) (hk : ICk (M 181)) (h1 : (g : Int) < M 181 1) (hf : 0 ≤ f ∧ f ≤ 8)
    (k : ∀ (N : zM) (any least bd be : Int) (e u : Option zV), offT M N → VI (lossM (vm M) g) f 5 (-4) any least bd be → zK (zg E) rmX12_best 13 (Qp, 0, 0) X (0, 0) 154 (bsL g w least bd be any f (some (zI 5)) e u) [] N) : ∀ (n : Nat) (d : Int) (e0 : Option zV) (N : zM) (any least bd be : Int) (u : Option zV), (n : Int) + d = 5 → -4 ≤ d → offT M N → VI (lossM (vm M) g) f d (-4) any least bd be → zK (zg E) rmX12_best 13 (Qp, 0, 0) X (0, 0) 67 (bsL g w least bd be any f (some (zI d)) e0 u) [] N := by
  intro n
  induction n with
  | zero =>
    intro d e0 N any least bd be u he h4 hN hV
    obtain rfl : d = 5 := by omega
    have kk := k N any least bd be e0 u hN hV
    refine zr_iload (pc := 67) S dX12_best_67 rfl ?_
    refine zr_iconst (pc := 69) S dX12_best_69 (by unfold zrI; omega) ?_
    refine zr_icmp_gt (pc := 70) (tgt := 154) S dX12_best_70 (by decide) (fun c70 => ?_) (fun c70 => absurd c70 (by omega))
    exact kk
  | succ n ih =>
    intro d e0 N any least bd be u he h4 hN hV
    have l := bs_in (E := E) (X := X) (Qp := Qp) (M := M) (g := g) (w := w) (f := f) (d := d) S hs hg hk h1 hf (by omega) (fun T any least bd be u hT hv => by
      have kk := ih (d + 1) (some (zI 5)) T any least bd be u (by omega) (by omega) hT (VI_c hv (fun d' e' g9 => by omega))
      refine zr_iinc (pc := 148) S dX12_best_148 rfl (by unfold zrI; omega) (by decide) ?_
      dsimp only [zst1, zst2, zset, zget, zlong]
      refine zr_goto (pc := 151) (tgt := 67) S dX12_best_151 (by decide) ?_
      exact kk) 9 (-4) N any least bd be u (by omega) (by omega) hN hV
    refine zr_iload (pc := 67) S dX12_best_67 rfl ?_
    refine zr_iconst (pc := 69) S dX12_best_69 (by unfold zrI; omega) ?_
    refine zr_icmp_gt (pc := 70) (tgt := 154) S dX12_best_70 (by decide) (fun c70 => absurd c70 (by omega)) (fun c70 => ?_)
    refine zr_bipush (pc := 73) S dX12_best_73 ⟨by unfold zrI; omega, by decide⟩ ?_
    refine zr_istore (pc := 75) S dX12_best_75 (by decide) ?_
    dsimp only [zst1, zst2, zset, zget, zlong]
    exact l
theorem bs_out {E : zE} {X : zX} {Qp : Option zV → zM → Prop} {M : zM} {g : Nat} {w : Int} (S : zS (zg E) X cX12_best 13 wzX12_best RX12 (some .long)) (hs : ICs (vm M)) (hg : ICg (vm M)) (hk : ICk (M 181)) (h1 : (g : Int) < M 181 1)
    (k : ∀ (N : zM) (any least bd be : Int) (d e u : Option zV), offT M N → VI (lossM (vm M) g) 9 (-4) (-4) any least bd be → zK (zg E) rmX12_best 13 (Qp, 0, 0) X (0, 0) 160 (bsL g w least bd be any 9 d e u) [] N) : ∀ (n : Nat) (f : Int) (d0 e0 : Option zV) (N : zM) (any least bd be : Int) (u : Option zV), (n : Int) + f = 9 → 0 ≤ f → offT M N → VI (lossM (vm M) g) f (-4) (-4) any least bd be → zK (zg E) rmX12_best 13 (Qp, 0, 0) X (0, 0) 56 (bsL g w least bd be any f d0 e0 u) [] N := by
  intro n
  induction n with
  | zero =>
    intro f d0 e0 N any least bd be u he h4 hN hV
    obtain rfl : f = 9 := by omega
    have kk := k N any least bd be d0 e0 u hN hV
    refine zr_iload (pc := 56) S dX12_best_56 rfl ?_
    refine zr_bipush (pc := 58) S dX12_best_58 ⟨by unfold zrI; omega, by decide⟩ ?_
    refine zr_icmp_gt (pc := 60) (tgt := 160) S dX12_best_60 (by decide) (fun c60 => ?_) (fun c60 => absurd c60 (by omega))
    exact kk
  | succ n ih =>
    intro f d0 e0 N any least bd be u he h4 hN hV
    have l := bs_mid (E := E) (X := X) (Qp := Qp) (M := M) (g := g) (w := w) (f := f) S hs hg hk h1 (by omega) (fun T any least bd be e u hT hv => by
      have kk := ih (f + 1) (some (zI 5)) e T any least bd be u (by omega) (by omega) hT (VI_c hv (fun d' e' g9 => by omega))
      refine zr_iinc (pc := 154) S dX12_best_154 rfl (by unfold zrI; omega) (by decide) ?_
      dsimp only [zst1, zst2, zset, zget, zlong]
      refine zr_goto (pc := 157) (tgt := 56) S dX12_best_157 (by decide) ?_
      exact kk) 9 (-4) e0 N any least bd be u (by omega) (by omega) hN hV
    refine zr_iload (pc := 56) S dX12_best_56 rfl ?_
    refine zr_bipush (pc := 58) S dX12_best_58 ⟨by unfold zrI; omega, by decide⟩ ?_
    refine zr_icmp_gt (pc := 60) (tgt := 160) S dX12_best_60 (by decide) (fun c60 => absurd c60 (by omega)) (fun c60 => ?_)
    refine zr_bipush (pc := 63) S dX12_best_63 ⟨by unfold zrI; omega, by decide⟩ ?_
    refine zr_istore (pc := 65) S dX12_best_65 (by decide) ?_
    dsimp only [zst1, zst2, zset, zget, zlong]
    exact l
def sp_X12_best (as : List zV) (M : zM) (Q : Option zV → zM → Prop) : Prop := ∃ (g w : Int), as = [zR 180, zI g, zI w] ∧ (ICs (vm M)) ∧ (ICg (vm M)) ∧ (ICk (M 181)) ∧ (M 180 16 = -1) ∧ ((0 ≤ g ∧ g < M 181 1) → (0 ≤ w ∧ w ≤ 2) → ∀ N, offT (tz M 0) N → Q (some (zL (if w = 0 then (bst (lossM (vm M) g.toNat) 81).1 else if w = 1 then (bst (lossM (vm M) g.toNat) 81).2.1 else (bst (lossM (vm M) g.toNat) 81).2.2))) N) ∧ (¬ (0 ≤ g ∧ g < M 181 1) → Q (some (zL 0)) (tz M 1)) ∧ ((0 ≤ g ∧ g < M 181 1) → ¬ (0 ≤ w ∧ w ≤ 2) → Q (some (zL 0)) (tz M 2))
theorem us_X12_best {g w : Int} {M : zM} {Q : Option zV → zM → Prop} (hs : ICs (vm M)) (hg : ICg (vm M)) (hk : ICk (M 181)) (hm : M 180 16 = -1) (hQ : (0 ≤ g ∧ g < M 181 1) → (0 ≤ w ∧ w ≤ 2) → ∀ N, offT (tz M 0) N → Q (some (zL (if w = 0 then (bst (lossM (vm M) g.toNat) 81).1 else if w = 1 then (bst (lossM (vm M) g.toNat) 81).2.1 else (bst (lossM (vm M) g.toNat) 81).2.2))) N) (hT : ¬ (0 ≤ g ∧ g < M 181 1) → Q (some (zL 0)) (tz M 1)) (hU : (0 ≤ g ∧ g < M 181 1) → ¬ (0 ≤ w ∧ w ≤ 2) → Q (some (zL 0)) (tz M 2)) : sp_X12_best [zR 180, zI g, zI w] M Q := ⟨g, w, rfl, hs, hg, hk, hm, hQ, hT, hU⟩
set_option maxRecDepth 20000 in
set_option maxHeartbeats 4000000 in
theorem m_X12_best (l : Launch) : zC l yX12_best wzX12_best rmX12_best sp_X12_best := by
  refine zMet.of RX12 (by decide +kernel) rfl rfl ?_
  intro E X as M Qp hX S hsp
  obtain ⟨g, w, rfl, hs, hg, hk, hm, hQ, hT, hU⟩ := hsp
  refine ⟨Nat.le_of_ble_eq_true rfl, ?_⟩
  dsimp only [zpad, zargs]
  have h8 : 0 ≤ M 181 1 ∧ M 181 1 ≤ 8 := hg.1
  have key : (0 ≤ g ∧ g < M 181 1) → (0 ≤ w ∧ w ≤ 2) → zK (zg E) rmX12_best 13 (Qp, 0, 0) X (0, 0) 42 [some (zR 180), some (zI g), some (zI w), none, none, none, none, none, none, none, none, none, none] [] (tz M 0) := by
    intro c1 c2
    have f := hQ c1 c2
    obtain ⟨n, rfl⟩ : ∃ n : Nat, g = n := ⟨g.toNat, by omega⟩
    rw [Int.toNat_natCast] at f
    have el : lossM (vm (tz M 0)) n = lossM (vm M) n := by funext d e; exact ag_lossM (tz_ag M 0) n d e
    have et : tz M 0 181 = M 181 := zup_o _ (by decide)
    have hm0 : tz M 0 180 16 = -1 := by show zup M 180 3 0 180 16 = -1; rw [zup_j (by decide)]; exact hm
    have fin : ∀ (N : zM) (any least bd be : Int) (d e u : Option zV), offT (tz M 0) N → VI (lossM (vm (tz M 0)) n) 9 (-4) (-4) any least bd be → zK (zg E) rmX12_best 13 (Qp, 0, 0) X (0, 0) 160 (bsL n w least bd be any 9 d e u) [] N := by
      intro N any least bd be d e u hN hV
      rw [el] at hV
      have o1 := VI_end hV
      have o2 := bst_Opt (lossM (vm M) n)
      have eq := Opt_u o1.1 o2.1
      have f := f N hN
      rw [o2.2, ← eq.1, ← eq.2, ← o1.2] at f
      refine zr_iload_n (pc := 160) S dX12_best_160 rfl ?_
      refine zr_if_ne (pc := 161) (tgt := 170) S dX12_best_161 (by decide) (fun c161 => ?_) (fun c161 => ?_)
      · refine zr_iload_n (pc := 170) S dX12_best_170 rfl ?_
        refine zr_iconst (pc := 171) S dX12_best_171 (by unfold zrI; omega) ?_
        refine zr_icmp_ne (pc := 172) (tgt := 181) S dX12_best_172 (by decide) (fun c172 => ?_) (fun c172 => ?_)
        · refine zr_lload_n (pc := 181) S dX12_best_181 rfl ?_
          exact zr_lret (pc := 182) S dX12_best_182 rfl ⟨Nat.le_refl _, Nat.le_refl _⟩ (zql f (by first | rw [if_pos c161] | rw [if_neg c161, if_pos c172] | rw [if_neg c161, if_neg c172]))
        · refine zr_iload (pc := 175) S dX12_best_175 rfl ?_
          refine zr_i2l (pc := 177) S dX12_best_177 ?_
          refine zr_goto (pc := 178) (tgt := 182) S dX12_best_178 (by decide) ?_
          exact zr_lret (pc := 182) S dX12_best_182 rfl ⟨Nat.le_refl _, Nat.le_refl _⟩ (zql f (by first | rw [if_pos c161] | rw [if_neg c161, if_pos c172] | rw [if_neg c161, if_neg c172]))
      · refine zr_iload (pc := 164) S dX12_best_164 rfl ?_
        refine zr_i2l (pc := 166) S dX12_best_166 ?_
        refine zr_goto (pc := 167) (tgt := 182) S dX12_best_167 (by decide) ?_
        exact zr_lret (pc := 182) S dX12_best_182 rfl ⟨Nat.le_refl _, Nat.le_refl _⟩ (zql f (by first | rw [if_pos c161] | rw [if_neg c161, if_pos c172] | rw [if_neg c161, if_neg c172]))
    have l0 := bs_out (E := E) (X := X) (Qp := Qp) (M := tz M 0) (g := n) (w := w) S ((tz_ag M 0).s hs) ((tz_ag M 0).g hg) (by rw [et]; exact hk) (by rw [et]; exact c1.2) fin 9 0 none none (tz M 0) 0 0 0 0 none (by omega) (by omega) ⟨fun k _ _ _ => rfl, fun j _ _ _ => rfl, hm0⟩ (Or.inl ⟨rfl, rfl, rfl, rfl, fun d' e' g9 z => by omega⟩)
    refine zr_lconst0 (pc := 42) S dX12_best_42 ?_
    refine zr_lstore_n (pc := 43) S 3 dX12_best_43 rfl (by decide) ?_
    dsimp only [zst1, zst2, zset, zget, zlong]
    refine zr_iconst (pc := 44) S dX12_best_44 (by unfold zrI; omega) ?_
    refine zr_istore (pc := 45) S dX12_best_45 (by decide) ?_
    dsimp only [zst1, zst2, zset, zget, zlong]
    refine zr_iconst (pc := 47) S dX12_best_47 (by unfold zrI; omega) ?_
    refine zr_istore (pc := 48) S dX12_best_48 (by decide) ?_
    dsimp only [zst1, zst2, zset, zget, zlong]
    refine zr_iconst (pc := 50) S dX12_best_50 (by unfold zrI; omega) ?_
    refine zr_istore (pc := 51) S dX12_best_51 (by decide) ?_
    dsimp only [zst1, zst2, zset, zget, zlong]
    refine zr_iconst (pc := 53) S dX12_best_53 (by unfold zrI; omega) ?_
    refine zr_istore (pc := 54) S dX12_best_54 (by decide) ?_
    dsimp only [zst1, zst2, zset, zget, zlong]
    exact l0
  have h8' := h8.1
  refine zr_aload_n (pc := 0) S dX12_best_0 rfl ?_
  refine zr_aload_n (pc := 1) S dX12_best_1 rfl ?_
  refine zr_iload_n (pc := 2) S dX12_best_2 rfl ?_
  refine zr_invV (pc := 3) S [zI _] (m_X12_isGate _) kX12_best_225 dX12_best_3 rfl (Nat.le_of_ble_eq_true rfl) rfl (Nat.le_of_ble_eq_true rfl) ⟨Nat.le_of_ble_eq_true rfl, Nat.le_of_ble_eq_true rfl⟩ (us_X12_isGate h8.1 ?_)
  dsimp only [zaft, Option.toList, List.cons_append, List.nil_append, Nat.add_zero]
  refine zr_if_ne (pc := 6) (tgt := 13) S dX12_best_6 (by decide) (fun c6 => ?_) (fun c6 => ?_)
  · rw [b01_0, Classical.not_not] at c6
    refine zr_iload_n (pc := 13) S dX12_best_13 rfl ?_
    refine zr_i2l (pc := 14) S dX12_best_14 ?_
    refine zr_lconst0 (pc := 15) S dX12_best_15 ?_
    refine zr_ldc2 (pc := 16) S (2) dX12_best_16 (List.mem_cons_of_mem _ (zWi_7 _ (List.mem_of_getElem? (i := 20) rfl))) (by unfold zrL; omega) ?_
    refine zr_invS (pc := 19) S [zL _, zL _, zL _] (m_X12_within _) kX12_best_83 dX12_best_19 (Nat.le_of_ble_eq_true rfl) ⟨Nat.le_of_ble_eq_true rfl, Nat.le_of_ble_eq_true rfl⟩ (us_X12_within ?_)
    dsimp only [zaft, Option.toList, List.cons_append, List.nil_append, Nat.add_zero]
    refine zr_if_eq (pc := 22) (tgt := 29) S dX12_best_22 (by decide) (fun c22 => ?_) (fun c22 => ?_)
    · rw [b01_0] at c22
      have f := hU (by omega) c22
      refine zr_iconst (pc := 29) S dX12_best_29 (by unfold zrI; omega) ?_
      refine zr_putI (pc := 30) S pX12_best_80 dX12_best_30 rfl (Nat.le_of_ble_eq_true rfl) rfl ?_
      refine zr_aload_n (pc := 33) S dX12_best_33 rfl ?_
      refine zr_getI (pc := 34) S fX12_best_80 dX12_best_34 rfl (Nat.le_of_ble_eq_true rfl) rfl ?_
      try simp only [zup_k, zup_e, ne_eq, Nat.reduceEqDiff, not_false_eq_true, zup_j]
      refine zr_if_le (pc := 37) (tgt := 42) S dX12_best_37 (by decide) (fun c37 => ?_) (fun c37 => ?_)
      · first | exact absurd c37 (by omega) | exact key (by omega) c22
      · refine zr_lconst0 (pc := 40) S dX12_best_40 ?_
        exact zr_lret (pc := 41) S dX12_best_41 rfl ⟨Nat.le_refl _, Nat.le_refl _⟩ (by first | exact f | (exfalso; omega))
    · rw [b01_0, Classical.not_not] at c22
      refine zr_iconst (pc := 25) S dX12_best_25 (by unfold zrI; omega) ?_
      refine zr_goto (pc := 26) (tgt := 30) S dX12_best_26 (by decide) ?_
      refine zr_putI (pc := 30) S pX12_best_80 dX12_best_30 rfl (Nat.le_of_ble_eq_true rfl) rfl ?_
      refine zr_aload_n (pc := 33) S dX12_best_33 rfl ?_
      refine zr_getI (pc := 34) S fX12_best_80 dX12_best_34 rfl (Nat.le_of_ble_eq_true rfl) rfl ?_
      try simp only [zup_k, zup_e, ne_eq, Nat.reduceEqDiff, not_false_eq_true, zup_j]
      refine zr_if_le (pc := 37) (tgt := 42) S dX12_best_37 (by decide) (fun c37 => ?_) (fun c37 => ?_)
      · first | exact absurd c37 (by omega) | exact key (by omega) c22
      · refine zr_lconst0 (pc := 40) S dX12_best_40 ?_
        exact zr_lret (pc := 41) S dX12_best_41 rfl ⟨Nat.le_refl _, Nat.le_refl _⟩ (by first | exact f | (exfalso; omega))
  · rw [b01_0] at c6
    have f := hT (fun z => c6 (by omega))
    refine zr_iconst (pc := 9) S dX12_best_9 (by unfold zrI; omega) ?_
    refine zr_goto (pc := 10) (tgt := 30) S dX12_best_10 (by decide) ?_
    refine zr_putI (pc := 30) S pX12_best_80 dX12_best_30 rfl (Nat.le_of_ble_eq_true rfl) rfl ?_
    refine zr_aload_n (pc := 33) S dX12_best_33 rfl ?_
    refine zr_getI (pc := 34) S fX12_best_80 dX12_best_34 rfl (Nat.le_of_ble_eq_true rfl) rfl ?_
    try simp only [zup_k, zup_e, ne_eq, Nat.reduceEqDiff, not_false_eq_true, zup_j]
    refine zr_if_le (pc := 37) (tgt := 42) S dX12_best_37 (by decide) (fun c37 => ?_) (fun c37 => ?_)
    · first | exact absurd c37 (by omega) | exact key (by omega) c22
    · refine zr_lconst0 (pc := 40) S dX12_best_40 ?_
      exact zr_lret (pc := 41) S dX12_best_41 rfl ⟨Nat.le_refl _, Nat.le_refl _⟩ (by first | exact f | (exfalso; omega))
end
