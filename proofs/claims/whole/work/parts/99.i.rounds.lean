section
def rmX12_rounds : Room := { frames := 11, cells := 0, slots := 0, locals := 291 }
abbrev wzX12_rounds : List Cond := .code yX12_rounds cX12_rounds 4 (some .int) :: zW
theorem pX12_rounds_80 : zfp wzX12_rounds RX12 vwCl 80 12 3 := ⟨_, _, _, _, rfl, (fun w h => List.mem_cons_of_mem _ (zWuX12 w h)), by decide, List.mem_cons_of_mem _ (zWi_9 _ (List.mem_of_getElem? (i := 38) rfl)), tyX12_ok, nmX12, rfl, by decide +kernel⟩
theorem fX12_rounds_9 : zfl wzX12_rounds RX12 vwCl 9 12 0 := ⟨_, _, _, rfl, (fun w h => List.mem_cons_of_mem _ (zWuX12 w h)), by decide, List.mem_cons_of_mem _ (zWi_9 _ (List.mem_of_getElem? (i := 39) rfl))⟩
theorem fX12_rounds_68 : zfl wzX12_rounds RX12 vwCl 68 12 30 := ⟨_, _, _, rfl, (fun w h => List.mem_cons_of_mem _ (zWuX12 w h)), by decide, List.mem_cons_of_mem _ (zWi_9 _ (List.mem_of_getElem? (i := 34) rfl))⟩
theorem pX12_rounds_362 : zfp wzX12_rounds RX12 vwCl 362 12 31 := ⟨_, _, _, _, rfl, (fun w h => List.mem_cons_of_mem _ (zWuX12 w h)), by decide, List.mem_cons_of_mem _ (zWi_9 _ (List.mem_of_getElem? (i := 24) rfl)), tyX12_ok, nmX12, rfl, by decide +kernel⟩
theorem fX12_rounds_362 : zfl wzX12_rounds RX12 vwCl 362 12 31 := ⟨_, _, _, rfl, (fun w h => List.mem_cons_of_mem _ (zWuX12 w h)), by decide, List.mem_cons_of_mem _ (zWi_9 _ (List.mem_of_getElem? (i := 24) rfl))⟩
theorem fX12_rounds_65 : zfl wzX12_rounds RX12 vwCl 65 12 29 := ⟨_, _, _, rfl, (fun w h => List.mem_cons_of_mem _ (zWuX12 w h)), by decide, List.mem_cons_of_mem _ (zWi_9 _ (List.mem_of_getElem? (i := 33) rfl))⟩
theorem kX12_rounds_83 : ∀ (s9 : State) (a9 : Array Value), (∀ w ∈ wzX12_rounds, w.before a9 s9 = true) → CallB rmX12_rounds s9 a9 RX12 83 yX12_within cX12_within 6 (some .boolean) wzX12_within rmX12_within 0 0 3 ∧ (Cond.static yX12_within).before a9 s9 = true := zcS (zWi_23 _ (List.mem_of_getElem? (i := 24) rfl)) (zWi_31 _ (List.mem_of_getElem? (i := 13) rfl)) (zWi_12 _ (List.mem_of_getElem? (i := 13) rfl)) (zWi_4 _ (List.mem_of_getElem? (i := 16) rfl)) (by decide +kernel) rfl rfl ⟨Nat.le_of_ble_eq_true rfl, Nat.le_of_ble_eq_true rfl⟩
theorem kX12_rounds_95 : ∀ (s9 : State) (a9 : Array Value), (∀ w ∈ wzX12_rounds, w.before a9 s9 = true) → CallW rmX12_rounds s9 a9 RX12 RX12 95 yX12_fails cX12_fails 2 (some .int) wzX12_fails rmX12_fails 0 0 1 := zcV (zWi_23 _ (List.mem_of_getElem? (i := 26) rfl)) (zWi_14 _ (List.mem_of_getElem? (i := 10) rfl)) (zWi_27 _ (List.mem_of_getElem? (i := 2) rfl)) (zWi_12 _ (List.mem_of_getElem? (i := 13) rfl)) (zWi_2 _ (List.mem_of_getElem? (i := 39) rfl)) (by decide +kernel) rfl rfl ⟨Nat.le_of_ble_eq_true rfl, Nat.le_of_ble_eq_true rfl⟩
theorem kX12_rounds_365 : ∀ (s9 : State) (a9 : Array Value), (∀ w ∈ wzX12_rounds, w.before a9 s9 = true) → CallW rmX12_rounds s9 a9 RX12 RX12 365 yX12_fills cX12_fills 8 none wzX12_fills (rmX12_fills 9) 0 0 3 := zcV (zWi_23 _ (List.mem_of_getElem? (i := 22) rfl)) (zWi_14 _ (List.mem_of_getElem? (i := 13) rfl)) (zWi_27 _ (List.mem_of_getElem? (i := 5) rfl)) (zWi_12 _ (List.mem_of_getElem? (i := 13) rfl)) (zWi_2 _ (List.mem_of_getElem? (i := 42) rfl)) (by decide +kernel) rfl rfl ⟨Nat.le_of_ble_eq_true rfl, Nat.le_of_ble_eq_true rfl⟩
theorem cd_dig {V : zM} (h : ICm V) {k : Nat} (hk : k < 4) : cdU V 4 / 6 ^ k % 6 = lfF V k := by
  have a0 := lfF_r h (k := 0) (by omega)
  have a1 := lfF_r h (k := 1) (by omega)
  have a2 := lfF_r h (k := 2) (by omega)
  have a3 := lfF_r h (k := 3) (by omega)
  have hk' : k = 0 ∨ k = 1 ∨ k = 2 ∨ k = 3 := by omega
  have e : cdU V 4 = ((lfF V 3 * 6 + lfF V 2) * 6 + lfF V 1) * 6 + lfF V 0 := by
    show (((0 * 6 + lfF V 3) * 6 + lfF V 2) * 6 + lfF V 1) * 6 + lfF V 0 = _
    omega
  rw [e]
  rcases hk' with rfl | rfl | rfl | rfl <;> (simp only [Nat.reducePow]; omega)
/-- the reference's scratch apart, and its dry count, the same memory -/
def offZ (A B : zM) : Prop := (∀ k, (k < 186 ∨ 197 < k) → k ≠ 180 → B k = A k) ∧ ∀ j, j ≠ 31 → B 180 j = A 180 j
theorem ro1 {E : zE} {X : zX} {Qp : Option zV → zM → Prop} {M : zM} {n : Nat} {h d : Int} (S : zS (zg E) X cX12_rounds 4 wzX12_rounds RX12 (some .int)) (hn : M 181 5 = n) (n4 : n ≤ 4)
    (k : ∀ L : Nat → Int, (∀ k, k < n → L k = M 181 (607 + 2 * k)) → zK (zg E) rmX12_rounds 4 (Qp, 0, 0) X (0, 0) 88 [some (zR 180), some (zI h), some (zI d), some (zI n)] [] (zrow M 197 L)) : ∀ (r i : Nat) (L : Nat → Int), r + i = n → (∀ k, k < i → L k = M 181 (607 + 2 * k)) → zK (zg E) rmX12_rounds 4 (Qp, 0, 0) X (0, 0) 54 [some (zR 180), some (zI h), some (zI d), some (zI i)] [] (zrow M 197 L) := by
  have e5 : ∀ L, zrow M 197 L 181 5 = n := fun L => by rw [zrow_o (by decide), hn]
  intro r
  induction r with
  | zero =>
    intro i L hi hL
    obtain rfl : i = n := by omega
    refine zr_iload_n (pc := 54) S dX12_rounds_54 rfl ?_
    refine zr_aload_n (pc := 55) S dX12_rounds_55 rfl ?_
    refine zr_getR (pc := 56) S fX12_rounds_9 dX12_rounds_56 rfl (Nat.le_of_ble_eq_true rfl) rfl ?_
    refine zr_iconst (pc := 59) S dX12_rounds_59 (by unfold zrI; omega) ?_
    refine zr_iaload (pc := 60) S dX12_rounds_60 rfl (Nat.le_of_ble_eq_true rfl) (by omega) (by omega) ?_
    dsimp only [Int.reduceToNat]
    rw [e5]
    refine zr_icmp_ge (pc := 61) (tgt := 88) S dX12_rounds_61 (by decide) (fun c61 => ?_) (fun c61 => absurd c61 (by omega))
    exact k L hL
  | succ r ih =>
    intro i L hi hL
    have l := ih (i + 1) (rUp L i (M 181 (607 + 2 * i))) (by omega) (fun k hk => by
      by_cases e : k = i
      · subst e; rw [rUp_e]
      · rw [rUp_o e]; exact hL k (by omega))
    rw [Int.natCast_add, Int.natCast_one] at l
    have e1 : zrow M 197 L 181 ((607 : Int) + 2 * (i : Int)).toNat = M 181 (607 + 2 * i) := by rw [zrow_o (by decide), show ((607 : Int) + 2 * (i : Int)).toNat = 607 + 2 * i by omega]
    refine zr_iload_n (pc := 54) S dX12_rounds_54 rfl ?_
    refine zr_aload_n (pc := 55) S dX12_rounds_55 rfl ?_
    refine zr_getR (pc := 56) S fX12_rounds_9 dX12_rounds_56 rfl (Nat.le_of_ble_eq_true rfl) rfl ?_
    refine zr_iconst (pc := 59) S dX12_rounds_59 (by unfold zrI; omega) ?_
    refine zr_iaload (pc := 60) S dX12_rounds_60 rfl (Nat.le_of_ble_eq_true rfl) (by omega) (by omega) ?_
    dsimp only [Int.reduceToNat]
    rw [e5]
    refine zr_icmp_ge (pc := 61) (tgt := 88) S dX12_rounds_61 (by decide) (fun c61 => absurd c61 (by omega)) (fun c61 => ?_)
    refine zr_aload_n (pc := 64) S dX12_rounds_64 rfl ?_
    refine zr_getR (pc := 65) S fX12_rounds_68 dX12_rounds_65 rfl (Nat.le_of_ble_eq_true rfl) rfl ?_
    refine zr_iload_n (pc := 68) S dX12_rounds_68 rfl ?_
    refine zr_aload_n (pc := 69) S dX12_rounds_69 rfl ?_
    refine zr_getR (pc := 70) S fX12_rounds_9 dX12_rounds_70 rfl (Nat.le_of_ble_eq_true rfl) rfl ?_
    refine zr_sipush (pc := 73) S dX12_rounds_73 ⟨by unfold zrI; omega, by decide⟩ ?_
    refine zr_iconst (pc := 76) S dX12_rounds_76 (by unfold zrI; omega) ?_
    refine zr_iload_n (pc := 77) S dX12_rounds_77 rfl ?_
    refine zr_imul (pc := 78) S dX12_rounds_78 (by unfold zrI; omega) ?_
    refine zr_iadd (pc := 79) S dX12_rounds_79 (by unfold zrI; omega) ?_
    refine zr_iaload (pc := 80) S dX12_rounds_80 rfl (Nat.le_of_ble_eq_true rfl) (by omega) (by omega) ?_
    rw [e1]
    refine zr_iastore (pc := 81) S dX12_rounds_81 rfl (Nat.le_of_ble_eq_true rfl) (by omega) (by omega) ?_
    rw [Int.toNat_natCast, zrow_up]
    refine zr_iinc (pc := 82) S dX12_rounds_82 rfl (by unfold zrI; omega) (by decide) ?_
    dsimp only [zst1, zst2, zset, zget, zlong]
    refine zr_goto (pc := 85) (tgt := 54) S dX12_rounds_85 (by decide) ?_
    exact l
def sp_X12_rounds (as : List zV) (M : zM) (Q : Option zV → zM → Prop) : Prop := ∃ (h d : Int), as = [zR 180, zI h, zI d] ∧ (ICm (vm M)) ∧ ((1 ≤ h ∧ h ≤ 8) → ¬ M 181 5 = 0 → d = -1 → ∀ M', offZ (tz M 0) M' → Q (some (zI (lst (vm M) h.toNat (cdU (vm M) 4) : Nat))) M') ∧ ((1 ≤ h ∧ h ≤ 8) → ¬ M 181 5 = 0 → (0 ≤ d ∧ d < h) → ∀ M', offZ (tz M 0) M' → Q (some (zI (ff (vm M) (h.toNat - d.toNat - 1) (cdD (vm M) h.toNat d.toNat)))) M') ∧ ((1 ≤ h ∧ h ≤ 8) → (M 181 5 = 0 ∨ (¬ d = -1 ∧ ¬ (0 ≤ d ∧ d < h))) → Q (some (zI (-1))) (tz M 0)) ∧ (¬ (1 ≤ h ∧ h ≤ 8) → Q (some (zI 0)) (tz (tz M 0) 1))
theorem us_X12_rounds {h d : Int} {M : zM} {Q : Option zV → zM → Prop} (hm : ICm (vm M)) (hQ : (1 ≤ h ∧ h ≤ 8) → ¬ M 181 5 = 0 → d = -1 → ∀ M', offZ (tz M 0) M' → Q (some (zI (lst (vm M) h.toNat (cdU (vm M) 4) : Nat))) M') (hD : (1 ≤ h ∧ h ≤ 8) → ¬ M 181 5 = 0 → (0 ≤ d ∧ d < h) → ∀ M', offZ (tz M 0) M' → Q (some (zI (ff (vm M) (h.toNat - d.toNat - 1) (cdD (vm M) h.toNat d.toNat)))) M') (hN : (1 ≤ h ∧ h ≤ 8) → (M 181 5 = 0 ∨ (¬ d = -1 ∧ ¬ (0 ≤ d ∧ d < h))) → Q (some (zI (-1))) (tz M 0)) (hT : ¬ (1 ≤ h ∧ h ≤ 8) → Q (some (zI 0)) (tz (tz M 0) 1)) : sp_X12_rounds [zR 180, zI h, zI d] M Q := ⟨h, d, rfl, hm, hQ, hD, hN, hT⟩
set_option maxRecDepth 20000 in
set_option maxHeartbeats 4000000 in
theorem m_X12_rounds (l : Launch) : zC l yX12_rounds wzX12_rounds rmX12_rounds sp_X12_rounds := by
  refine zMet.of RX12 (by decide +kernel) rfl rfl ?_
  intro E X as M Qp hX S hsp
  obtain ⟨h, d, rfl, hm, hQ, hD, hN, hT⟩ := hsp
  refine ⟨Nat.le_of_ble_eq_true rfl, ?_⟩
  dsimp only [zpad, zargs]
  have m4 : 0 ≤ M 181 5 ∧ M 181 5 ≤ 4 := hm.1
  have et : tz M 0 181 = M 181 := zup_o _ (by decide)
  obtain ⟨n, hn⟩ : ∃ n : Nat, M 181 5 = n := ⟨(M 181 5).toNat, by omega⟩
  have enM : nM (vm M) = n := by show (M 181 5).toNat = n; omega
  have key : (1 ≤ h ∧ h ≤ 8) → ¬ M 181 5 = 0 → (d = -1 ∨ (0 ≤ d ∧ d < h)) → zK (zg E) rmX12_rounds 4 (Qp, 0, 0) X (0, 0) 52 [some (zR 180), some (zI h), some (zI d), none] [] (tz M 0) := by
    intro c1 c2 c3
    have f1 := hQ c1 c2
    have f2 := hD c1 c2
    obtain ⟨h, rfl⟩ : ∃ k : Nat, h = k := ⟨h.toNat, by omega⟩
    rw [Int.toNat_natCast] at f1 f2
    have l := ro1 (E := E) (X := X) (Qp := Qp) (M := tz M 0) (n := n) (h := h) (d := d) S (by rw [et, hn]) (by omega) (fun L hL => by
      have o0 : ∀ k, (k < 186 ∨ 197 < k) → k ≠ 180 → zup (zrow (tz M 0) 197 L) 180 31 (-1) k = tz M 0 k := fun k hk k2 => by rw [zup_o k k2, zrow_o (by omega)]
      have o1 : ∀ j, j ≠ 31 → zup (zrow (tz M 0) 197 L) 180 31 (-1) 180 j = tz M 0 180 j := fun j hj => by rw [zup_j hj, zrow_o (by decide)]
      have b1 : zup (zrow (tz M 0) 197 L) 180 31 (-1) 180 31 = -1 := zup_e
      have lf : zup (zrow (tz M 0) 197 L) 180 31 (-1) 197 = L := by rw [zup_o _ (by decide), zrow_e]
      generalize hNN : zup (zrow (tz M 0) 197 L) 180 31 (-1) = N at *
      have eT : N 181 = M 181 := (o0 _ (by decide) (by decide)).trans et
      have aN : AG (vm M) (vm N) := fun k hk => by
        show vw (N 181) N k = vw (M 181) M k
        have e : ∀ d, d < 36 → N d = M d := fun d hd => (o0 d (by omega) (by omega)).trans (zup_o d (by omega))
        rw [eT]
        funext j
        unfold vw
        split <;> first | rfl | (rw [e _ (by omega)])
      have hF : FP (vm M) N := ⟨aN, hm, by omega, by rw [eT, hn, enM]⟩
      have hr : rowL (vm M) N 0 (cdU (vm M) 4) := fun k hk => by
        rw [enM] at hk
        rw [lf, show 4 * 0 + k = k by omega, hL k hk, et, cd_dig hm (by omega)]
        have := hm.2 k (by omega)
        unfold lfF
        rw [if_pos (by show (k : Int) < M 181 5; omega)]
        have ev : vm M 34 k = M 181 (607 + 2 * k) := if_pos (by omega)
        rw [ev] at this ⊢
        omega
      have k100 : ∀ M', ffo N M' 0 → FR (vm M) (-1) (N 196) (N 195) h (cdU (vm M) 4) 0 h 0 (M' 180 31) (M' 196) → zK (zg E) rmX12_rounds 4 (Qp, 0, 0) X (0, 0) 100 [some (zR 180), some (zI h), some (zI d), some (zI n)] [] M' := by
        intro M' o3 f3
        have oz : offZ (tz M 0) M' := ⟨fun k hk k2 => by rw [o3.1 k k2 (by omega) (by omega) (by omega)]; exact o0 k hk k2, fun j hj => by rw [o3.2.1 j hj]; exact o1 j hj⟩
        rcases f3 with ⟨_, g2, g3⟩ | ⟨g1, _, _⟩
        · have e1 : M' 180 31 = (lst (vm M) h (cdU (vm M) 4) : Nat) := by rw [g2]; omega
          have e2 : (0 ≤ d ∧ d < h) → M' 196 d.toNat = ff (vm M) (h - d.toNat - 1) (cdD (vm M) h d.toNat) := fun z => by
            rw [g3 d.toNat (by omega), if_neg (by omega), Nat.sub_zero]
            have := pth_c (V := vm M) (h := h) h d.toNat (cdU (vm M) 4) (by omega) (by omega) (by rw [Nat.sub_self]; rfl)
            rw [this, Nat.sub_self, Nat.zero_add]
          by_cases cd : d = -1
          · have q := f1 cd M' oz
            rw [← e1] at q
            refine zr_iload_n (pc := 100) S dX12_rounds_100 rfl ?_
            refine zr_iconst (pc := 101) S dX12_rounds_101 (by unfold zrI; omega) ?_
            refine zr_icmp_ne (pc := 102) (tgt := 112) S dX12_rounds_102 (by decide) (fun c102 => absurd c102 (by omega)) (fun c102 => ?_)
            refine zr_aload_n (pc := 105) S dX12_rounds_105 rfl ?_
            refine zr_getI (pc := 106) S fX12_rounds_362 dX12_rounds_106 rfl (Nat.le_of_ble_eq_true rfl) rfl ?_
            refine zr_goto (pc := 109) (tgt := 118) S dX12_rounds_109 (by decide) ?_
            exact zr_iret (pc := 118) S dX12_rounds_118 rfl ⟨Nat.le_refl _, Nat.le_refl _⟩ (q)
          · have z : 0 ≤ d ∧ d < h := by omega
            have q := f2 z M' oz
            rw [← e2 z] at q
            refine zr_iload_n (pc := 100) S dX12_rounds_100 rfl ?_
            refine zr_iconst (pc := 101) S dX12_rounds_101 (by unfold zrI; omega) ?_
            refine zr_icmp_ne (pc := 102) (tgt := 112) S dX12_rounds_102 (by decide) (fun c102 => ?_) (fun c102 => absurd c102 (by omega))
            refine zr_aload_n (pc := 112) S dX12_rounds_112 rfl ?_
            refine zr_getR (pc := 113) S fX12_rounds_65 dX12_rounds_113 rfl (Nat.le_of_ble_eq_true rfl) rfl ?_
            refine zr_iload_n (pc := 116) S dX12_rounds_116 rfl ?_
            refine zr_iaload (pc := 117) S dX12_rounds_117 rfl (Nat.le_of_ble_eq_true rfl) (by omega) (by omega) ?_
            exact zr_iret (pc := 118) S dX12_rounds_118 rfl ⟨Nat.le_refl _, Nat.le_refl _⟩ (q)
        · exact absurd (Or.inl rfl) g1
      have k93 : zK (zg E) rmX12_rounds 4 (Qp, 0, 0) X (0, 0) 93 [some (zR 180), some (zI h), some (zI d), some (zI n)] [] N := by
        refine zr_aload_n (pc := 93) S dX12_rounds_93 rfl ?_
        refine zr_iconst (pc := 94) S dX12_rounds_94 (by unfold zrI; omega) ?_
        refine zr_iload_n (pc := 95) S dX12_rounds_95 rfl ?_
        refine zr_iconst (pc := 96) S dX12_rounds_96 (by unfold zrI; omega) ?_
        refine zr_invV (pc := 97) S [zI _, zI _, zI _] (m_X12_fills _ 9) kX12_rounds_365 dX12_rounds_97 rfl (Nat.le_of_ble_eq_true rfl) rfl (Nat.le_of_ble_eq_true rfl) ⟨Nat.le_of_ble_eq_true rfl, Nat.le_of_ble_eq_true rfl⟩ (us_X12_fills (d := h) (day := 0) (h := h) (c := cdU (vm M) 4) (dry := 0) (V := vm M) (by omega) (by omega) (by omega) hF hr (by omega) (Or.inl b1) ?_)
        dsimp only [zaft, Option.toList, List.cons_append, List.nil_append, Nat.add_zero]
        intro M' o3 f3
        rw [b1] at f3
        exact k100 M' o3 f3
      refine zr_aload_n (pc := 88) S dX12_rounds_88 rfl ?_
      refine zr_iconst (pc := 89) S dX12_rounds_89 (by unfold zrI; omega) ?_
      refine zr_putI (pc := 90) S pX12_rounds_362 dX12_rounds_90 rfl (Nat.le_of_ble_eq_true rfl) rfl ?_
      rw [hNN]
      exact k93) n 0 (tz M 0 197) (by omega) (fun k hk => absurd hk (by omega))
    rw [zrow_s] at l
    refine zr_iconst (pc := 52) S dX12_rounds_52 (by unfold zrI; omega) ?_
    refine zr_istore_n (pc := 53) S 3 dX12_rounds_53 rfl (by decide) ?_
    dsimp only [zst1, zst2, zset, zget, zlong]
    exact l
  refine zr_aload_n (pc := 0) S dX12_rounds_0 rfl ?_
  refine zr_iconst (pc := 1) S dX12_rounds_1 (by unfold zrI; omega) ?_
  refine zr_putI (pc := 2) S pX12_rounds_80 dX12_rounds_2 rfl (Nat.le_of_ble_eq_true rfl) rfl ?_
  refine zr_iload_n (pc := 5) S dX12_rounds_5 rfl ?_
  refine zr_i2l (pc := 6) S dX12_rounds_6 ?_
  refine zr_lconst1 (pc := 7) S dX12_rounds_7 ?_
  refine zr_ldc2 (pc := 8) S (8) dX12_rounds_8 (List.mem_cons_of_mem _ (zWi_7 _ (List.mem_of_getElem? (i := 31) rfl))) (by unfold zrL; omega) ?_
  refine zr_invS (pc := 11) S [zL _, zL _, zL _] (m_X12_within _) kX12_rounds_83 dX12_rounds_11 (Nat.le_of_ble_eq_true rfl) ⟨Nat.le_of_ble_eq_true rfl, Nat.le_of_ble_eq_true rfl⟩ (us_X12_within ?_)
  dsimp only [zaft, Option.toList, List.cons_append, List.nil_append, Nat.add_zero]
  refine zr_if_ne (pc := 14) (tgt := 23) S dX12_rounds_14 (by decide) (fun c14 => ?_) (fun c14 => ?_)
  · rw [b01_0, Classical.not_not] at c14
    refine zr_aload_n (pc := 23) S dX12_rounds_23 rfl ?_
    refine zr_getR (pc := 24) S fX12_rounds_9 dX12_rounds_24 rfl (Nat.le_of_ble_eq_true rfl) rfl ?_
    try simp only [zup_k, zup_e, ne_eq, Nat.reduceEqDiff, not_false_eq_true, zup_j]
    refine zr_iconst (pc := 27) S dX12_rounds_27 (by unfold zrI; omega) ?_
    refine zr_iaload (pc := 28) S dX12_rounds_28 rfl (Nat.le_of_ble_eq_true rfl) (by omega) (by omega) ?_
    dsimp only [Int.reduceToNat]
    try simp only [zup_k, zup_e, ne_eq, Nat.reduceEqDiff, not_false_eq_true]
    refine zr_if_eq (pc := 29) (tgt := 50) S dX12_rounds_29 (by decide) (fun c29 => ?_) (fun c29 => ?_)
    · refine zr_iconst (pc := 50) S dX12_rounds_50 (by unfold zrI; omega) ?_
      exact zr_iret (pc := 51) S dX12_rounds_51 rfl ⟨Nat.le_refl _, Nat.le_refl _⟩ (by first | exact f | exact hN c14 (by omega) | exact hN c14 (Or.inl c29) | exact hN c14 (Or.inr ⟨c34, fun z => c47 (by omega)⟩))
    · refine zr_iload_n (pc := 32) S dX12_rounds_32 rfl ?_
      refine zr_iconst (pc := 33) S dX12_rounds_33 (by unfold zrI; omega) ?_
      refine zr_icmp_eq (pc := 34) (tgt := 52) S dX12_rounds_34 (by decide) (fun c34 => ?_) (fun c34 => ?_)
      · exact key c14 (by omega) (by omega)
      · refine zr_iload_n (pc := 37) S dX12_rounds_37 rfl ?_
        refine zr_i2l (pc := 38) S dX12_rounds_38 ?_
        refine zr_lconst0 (pc := 39) S dX12_rounds_39 ?_
        refine zr_iload_n (pc := 40) S dX12_rounds_40 rfl ?_
        refine zr_iconst (pc := 41) S dX12_rounds_41 (by unfold zrI; omega) ?_
        refine zr_isub (pc := 42) S dX12_rounds_42 (by unfold zrI; omega) ?_
        refine zr_i2l (pc := 43) S dX12_rounds_43 ?_
        refine zr_invS (pc := 44) S [zL _, zL _, zL _] (m_X12_within _) kX12_rounds_83 dX12_rounds_44 (Nat.le_of_ble_eq_true rfl) ⟨Nat.le_of_ble_eq_true rfl, Nat.le_of_ble_eq_true rfl⟩ (us_X12_within ?_)
        dsimp only [zaft, Option.toList, List.cons_append, List.nil_append, Nat.add_zero]
        refine zr_if_ne (pc := 47) (tgt := 52) S dX12_rounds_47 (by decide) (fun c47 => ?_) (fun c47 => ?_)
        · rw [b01_0, Classical.not_not] at c47
          exact key c14 (by omega) (by omega)
        · rw [b01_0] at c47
          refine zr_iconst (pc := 50) S dX12_rounds_50 (by unfold zrI; omega) ?_
          exact zr_iret (pc := 51) S dX12_rounds_51 rfl ⟨Nat.le_refl _, Nat.le_refl _⟩ (by first | exact f | exact hN c14 (by omega) | exact hN c14 (Or.inl c29) | exact hN c14 (Or.inr ⟨c34, fun z => c47 (by omega)⟩))
  · rw [b01_0] at c14
    have f := hT c14
    refine zr_aload_n (pc := 17) S dX12_rounds_17 rfl ?_
    refine zr_iconst (pc := 18) S dX12_rounds_18 (by unfold zrI; omega) ?_
    refine zr_invV (pc := 19) S [zI _] (m_X12_fails _) kX12_rounds_95 dX12_rounds_19 rfl (Nat.le_of_ble_eq_true rfl) rfl (Nat.le_of_ble_eq_true rfl) ⟨Nat.le_of_ble_eq_true rfl, Nat.le_of_ble_eq_true rfl⟩ (us_X12_fails ?_)
    dsimp only [zaft, Option.toList, List.cons_append, List.nil_append, Nat.add_zero]
    exact zr_iret (pc := 22) S dX12_rounds_22 rfl ⟨Nat.le_refl _, Nat.le_refl _⟩ (by first | exact f | exact hN c14 (by omega) | exact hN c14 (Or.inl c29) | exact hN c14 (Or.inr ⟨c34, fun z => c47 (by omega)⟩))
end
