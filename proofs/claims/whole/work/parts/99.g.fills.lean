section
def rmX12_fills (d : Nat) : Room := { frames := d + 1, cells := 0, slots := 0, locals := 27 * d + 21 }
abbrev wzX12_fills : List Cond := .code yX12_fills cX12_fills 8 none :: zW
theorem fX12_fills_362 : zfl wzX12_fills RX12 vwCl 362 12 31 := ⟨_, _, _, rfl, (fun w h => List.mem_cons_of_mem _ (zWuX12 w h)), by decide, List.mem_cons_of_mem _ (zWi_9 _ (List.mem_of_getElem? (i := 24) rfl))⟩
theorem pX12_fills_362 : zfp wzX12_fills RX12 vwCl 362 12 31 := ⟨_, _, _, _, rfl, (fun w h => List.mem_cons_of_mem _ (zWuX12 w h)), by decide, List.mem_cons_of_mem _ (zWi_9 _ (List.mem_of_getElem? (i := 24) rfl)), tyX12_ok, nmX12, rfl, by decide +kernel⟩
theorem fX12_fills_65 : zfl wzX12_fills RX12 vwCl 65 12 29 := ⟨_, _, _, rfl, (fun w h => List.mem_cons_of_mem _ (zWuX12 w h)), by decide, List.mem_cons_of_mem _ (zWi_9 _ (List.mem_of_getElem? (i := 33) rfl))⟩
theorem fX12_fills_62 : zfl wzX12_fills RX12 vwCl 62 12 28 := ⟨_, _, _, rfl, (fun w h => List.mem_cons_of_mem _ (zWuX12 w h)), by decide, List.mem_cons_of_mem _ (zWi_9 _ (List.mem_of_getElem? (i := 32) rfl))⟩
theorem fX12_fills_9 : zfl wzX12_fills RX12 vwCl 9 12 0 := ⟨_, _, _, rfl, (fun w h => List.mem_cons_of_mem _ (zWuX12 w h)), by decide, List.mem_cons_of_mem _ (zWi_9 _ (List.mem_of_getElem? (i := 39) rfl))⟩
theorem fX12_fills_68 : zfl wzX12_fills RX12 vwCl 68 12 30 := ⟨_, _, _, rfl, (fun w h => List.mem_cons_of_mem _ (zWuX12 w h)), by decide, List.mem_cons_of_mem _ (zWi_9 _ (List.mem_of_getElem? (i := 34) rfl))⟩
theorem kX12_fills_123 : zml_mmax wzX12_fills RX12 123 := ⟨List.mem_cons_of_mem _ (zWi_22 _ (List.mem_of_getElem? (i := 20) rfl)), List.mem_cons_of_mem _ (zWi_30 _ (List.mem_of_getElem? (i := 2) rfl)), List.mem_cons_of_mem _ (zWi_12 _ (List.mem_of_getElem? (i := 0) rfl)), List.mem_cons_of_mem _ (zWi_0 _ (List.mem_of_getElem? (i := 27) rfl))⟩
theorem kX12_fills_365 (d : Nat) : ∀ (s9 : State) (a9 : Array Value), (∀ w ∈ wzX12_fills, w.before a9 s9 = true) → CallW (rmX12_fills (d + 1)) s9 a9 RX12 RX12 365 yX12_fills cX12_fills 8 none wzX12_fills (rmX12_fills d) 0 0 3 := zcV (zWi_23 _ (List.mem_of_getElem? (i := 22) rfl)) (zWi_14 _ (List.mem_of_getElem? (i := 13) rfl)) (zWi_27 _ (List.mem_of_getElem? (i := 5) rfl)) (zWi_12 _ (List.mem_of_getElem? (i := 13) rfl)) (zWi_2 _ (List.mem_of_getElem? (i := 42) rfl)) (by decide +kernel) rfl rfl ⟨(by simp only [rmX12_fills, rmX12_fills]; omega), (by simp only [rmX12_fills, rmX12_fills]; omega)⟩
theorem nx_dig {V : zM} (h : ICm V) (c m : Nat) {n k : Nat} (hn : n ≤ 4) (hk : k < n) : nxU V c m n / 6 ^ k % 6 = lfA V c m k - 1 := by
  have a0 := lfA_r h c m (k := 0) (by omega)
  have a1 := lfA_r h c m (k := 1) (by omega)
  have a2 := lfA_r h c m (k := 2) (by omega)
  have a3 := lfA_r h c m (k := 3) (by omega)
  have hn' : n = 1 ∨ n = 2 ∨ n = 3 ∨ n = 4 := by omega
  have hk' : k = 0 ∨ k = 1 ∨ k = 2 ∨ k = 3 := by omega
  rcases hn' with rfl | rfl | rfl | rfl <;> rcases hk' with rfl | rfl | rfl | rfl <;> first | omega | (simp only [nxU, Nat.reducePow]; omega)
def ffo (M M' : zM) (day : Nat) : Prop := (∀ k, k ≠ 180 → k ≠ 195 → k ≠ 196 → k ≠ 197 → M' k = M k) ∧ (∀ j, j ≠ 31 → M' 180 j = M 180 j) ∧ (∀ k, k < day → M' 195 k = M 195 k) ∧ ∀ j, j < 4 * (day + 1) → M' 197 j = M 197 j
theorem ffo.rf (M : zM) (day : Nat) : ffo M M day := ⟨fun _ _ _ _ _ => rfl, fun _ _ => rfl, fun _ _ => rfl, fun _ _ => rfl⟩
theorem ffo.tr {A B C : zM} {day : Nat} (h : ffo A B day) (g : ffo B C day) : ffo A C day := ⟨fun k a b c d => (g.1 k a b c d).trans (h.1 k a b c d), fun j hj => (g.2.1 j hj).trans (h.2.1 j hj), fun k hk => (g.2.2.1 k hk).trans (h.2.2.1 k hk), fun j hj => (g.2.2.2 j hj).trans (h.2.2.2 j hj)⟩
theorem ffo.w {A B : zM} {day e : Nat} (h : ffo A B e) (he : day ≤ e) : ffo A B day := ⟨h.1, h.2.1, fun k hk => h.2.2.1 k (by omega), fun j hj => h.2.2.2 j (by omega)⟩
theorem ffo.ag {A B : zM} {day : Nat} (h : ffo A B day) : AG (vm A) (vm B) := fun k hk => by
  show vw (B 181) B k = vw (A 181) A k
  have e : ∀ d, d < 36 → B d = A d := fun d hd => h.1 d (by omega) (by omega) (by omega) (by omega)
  rw [h.1 181 (by decide) (by decide) (by decide) (by decide)]
  funext j
  unfold vw
  split <;> first | rfl | (rw [e _ (by omega)])
def FP (V M : zM) : Prop := AG V (vm M) ∧ ICm V ∧ 1 ≤ nM V ∧ M 181 5 = nM V
theorem FP.o {V A B : zM} {day : Nat} (h : FP V A) (g : ffo A B day) : FP V B := ⟨fun k hk => (g.ag k hk).trans (h.1 k hk), h.2.1, h.2.2.1, by rw [g.1 181 (by decide) (by decide) (by decide) (by decide)]; exact h.2.2.2⟩
def rowL (V M : zM) (day c : Nat) : Prop := ∀ k, k < nM V → M 197 (4 * day + k) = (c / 6 ^ k % 6 : Nat)
theorem rowL.o {V A B : zM} {day c : Nat} (h : rowL V A day c) (h4 : nM V ≤ 4) (g : ffo A B day) : rowL V B day c := fun k hk => by rw [g.2.2.2 _ (by omega)]; exact h k hk
def sp_X12_fills (e : Nat) (as : List zV) (M : zM) (Q : Option zV → zM → Prop) : Prop := ∃ (d day h c dry : Nat) (V : zM), as = [zR 180, zI day, zI h, zI dry] ∧ d ≤ e ∧ d + day = h ∧ h ≤ 8 ∧ FP V M ∧ rowL V M day c ∧ dry ≤ 4 * day ∧ (M 180 31 = -1 ∨ 0 ≤ M 180 31) ∧ ∀ M', ffo M M' day → FR V (M 180 31) (M 196) (M 195) d c day h dry (M' 180 31) (M' 196) → Q none M'
theorem us_X12_fills {e d day h c dry : Nat} {V M : zM} {Q : Option zV → zM → Prop} (h1 : d ≤ e) (h2 : d + day = h) (h3 : h ≤ 8) (hF : FP V M) (hr : rowL V M day c) (hd : dry ≤ 4 * day) (hB : M 180 31 = -1 ∨ 0 ≤ M 180 31) (hQ : ∀ M', ffo M M' day → FR V (M 180 31) (M 196) (M 195) d c day h dry (M' 180 31) (M' 196) → Q none M') : sp_X12_fills e [zR 180, zI day, zI h, zI dry] M Q := ⟨d, day, h, c, dry, V, rfl, h1, h2, h3, hF, hr, hd, hB, hQ⟩
theorem fi3 {E : zE} {X : zX} {Qp : Option zV → zM → Prop} {U V : zM} {e day h c dry m : Nat} (S : zS (zg E) X cX12_fills 8 wzX12_fills RX12 none) (hF : FP V U) (hr : rowL V U day c) (hd : day < 8) (hm : m < nM V)
    (k : ∀ (L : Nat → Int) (u7 : Option zV), (∀ j, j < 4 * (day + 1) → L j = U 197 j) → (∀ k, k < nM V → L (4 * (day + 1) + k) = (lfA V c m k - 1 : Nat)) → zK (zg E) (rmX12_fills e) 8 (Qp, 0, 0) X (0, 0) 168 [some (zR 180), some (zI day), some (zI h), some (zI dry), some (zI m), some (zI (drU V c m (nM V) : Nat)), some (zI (nM V : Nat)), u7] [] (zrow U 197 L)) : ∀ (r i : Nat) (L : Nat → Int) (u7 : Option zV), r + i = nM V → (∀ j, j < 4 * (day + 1) → L j = U 197 j) → (∀ k, k < i → L (4 * (day + 1) + k) = (lfA V c m k - 1 : Nat)) → zK (zg E) (rmX12_fills e) 8 (Qp, 0, 0) X (0, 0) 77 [some (zR 180), some (zI day), some (zI h), some (zI dry), some (zI m), some (zI (drU V c m i : Nat)), some (zI i), u7] [] (zrow U 197 L) := by
  have h4 : nM V ≤ 4 := by have := hF.2.1.1; unfold nM; omega
  have e5 : ∀ L, zrow U 197 L 181 5 = nM V := fun L => by rw [zrow_o (by decide)]; exact hF.2.2.2
  intro r
  induction r with
  | zero =>
    intro i L u7 hi h1 h2
    obtain rfl : i = nM V := by omega
    have l := k L u7 h1 h2
    refine zr_iload (pc := 77) S dX12_fills_77 rfl ?_
    refine zr_aload_n (pc := 79) S dX12_fills_79 rfl ?_
    refine zr_getR (pc := 80) S fX12_fills_9 dX12_fills_80 rfl (Nat.le_of_ble_eq_true rfl) rfl ?_
    refine zr_iconst (pc := 83) S dX12_fills_83 (by unfold zrI; omega) ?_
    refine zr_iaload (pc := 84) S dX12_fills_84 rfl (Nat.le_of_ble_eq_true rfl) (by omega) (by omega) ?_
    dsimp only [Int.reduceToNat]
    rw [e5]
    refine zr_icmp_ge (pc := 85) (tgt := 168) S dX12_fills_85 (by decide) (fun c85 => ?_) (fun c85 => absurd c85 (by omega))
    exact l
  | succ r ih =>
    intro i L u7 hi h1 h2
    have dr := dr_r V c m i
    have a := lfA_r hF.2.1 c m (k := i) (by omega)
    have l := fun u7 => ih (i + 1) (rUp L (4 * (day + 1) + i) (lfA V c m i - 1 : Nat)) u7 (by omega) (fun j hj => by rw [rUp_o (by omega)]; exact h1 j hj) (fun k hk => by
      by_cases e : k = i
      · subst e; rw [rUp_e]
      · rw [rUp_o (by omega)]; exact h2 k (by omega))
    simp only [drU] at l
    rw [show ((i + 1 : Nat) : Int) = (i : Int) + 1 by omega] at l
    have e0 : ((4 : Int) * ((day : Int) + 1) + (i : Int)).toNat = 4 * (day + 1) + i := by omega
    have fl := hF.2.1.2 i (by omega)
    have ea1 : (i : Int) = m → zrow U 197 L 181 ((607 : Int) + 2 * (i : Int) + 1).toNat = (lfA V c m i : Nat) := fun z => by
      have ev : V 35 i = U 181 (608 + 2 * i) := by
        rw [← hF.1 35 (by decide)]
        exact if_pos (by omega)
      rw [zrow_o (by decide), show ((607 : Int) + 2 * (i : Int) + 1).toNat = 608 + 2 * i by omega, ← ev]
      unfold lfA
      rw [if_pos (by omega)]
      omega
    have ea2 : ¬ (i : Int) = m → zrow U 197 L 197 ((4 : Int) * (day : Int) + (i : Int)).toNat = (lfA V c m i : Nat) := fun z => by
      rw [zrow_e, show ((4 : Int) * (day : Int) + (i : Int)).toNat = 4 * day + i by omega, h1 _ (by omega), hr i (by omega)]
      unfold lfA
      rw [if_neg (by omega)]
    have em : max 0 (((lfA V c m i : Nat) : Int) - 1) = ((lfA V c m i - 1 : Nat) : Int) := by omega
    have d1 : ((lfA V c m i : Nat) : Int) = 0 → ((drU V c m i + (if lfA V c m i = 0 then 1 else 0) : Nat) : Int) = (drU V c m i : Nat) + 1 := fun z => by rw [if_pos (by omega)]; omega
    have d0 : ¬ ((lfA V c m i : Nat) : Int) = 0 → ((drU V c m i + (if lfA V c m i = 0 then 1 else 0) : Nat) : Int) = (drU V c m i : Nat) + 0 := fun z => by rw [if_neg (by omega)]; omega
    refine zr_iload (pc := 77) S dX12_fills_77 rfl ?_
    refine zr_aload_n (pc := 79) S dX12_fills_79 rfl ?_
    refine zr_getR (pc := 80) S fX12_fills_9 dX12_fills_80 rfl (Nat.le_of_ble_eq_true rfl) rfl ?_
    refine zr_iconst (pc := 83) S dX12_fills_83 (by unfold zrI; omega) ?_
    refine zr_iaload (pc := 84) S dX12_fills_84 rfl (Nat.le_of_ble_eq_true rfl) (by omega) (by omega) ?_
    dsimp only [Int.reduceToNat]
    rw [e5]
    refine zr_icmp_ge (pc := 85) (tgt := 168) S dX12_fills_85 (by decide) (fun c85 => absurd c85 (by omega)) (fun c85 => ?_)
    refine zr_iload (pc := 88) S dX12_fills_88 rfl ?_
    refine zr_iload (pc := 90) S dX12_fills_90 rfl ?_
    refine zr_icmp_ne (pc := 92) (tgt := 113) S dX12_fills_92 (by decide) (fun c92 => ?_) (fun c92 => ?_)
    · refine zr_aload_n (pc := 113) S dX12_fills_113 rfl ?_
      refine zr_getR (pc := 114) S fX12_fills_68 dX12_fills_114 rfl (Nat.le_of_ble_eq_true rfl) rfl ?_
      refine zr_iconst (pc := 117) S dX12_fills_117 (by unfold zrI; omega) ?_
      refine zr_iload_n (pc := 118) S dX12_fills_118 rfl ?_
      refine zr_imul (pc := 119) S dX12_fills_119 (by unfold zrI; omega) ?_
      refine zr_iload (pc := 120) S dX12_fills_120 rfl ?_
      refine zr_iadd (pc := 122) S dX12_fills_122 (by unfold zrI; omega) ?_
      refine zr_iaload (pc := 123) S dX12_fills_123 rfl (Nat.le_of_ble_eq_true rfl) (by omega) (by omega) ?_
      rw [ea2 c92]
      refine zr_istore (pc := 124) S dX12_fills_124 (by decide) ?_
      dsimp only [zst1, zst2, zset, zget, zlong]
      refine zr_iload (pc := 126) S dX12_fills_126 rfl ?_
      refine zr_iload (pc := 128) S dX12_fills_128 rfl ?_
      refine zr_if_ne (pc := 130) (tgt := 137) S dX12_fills_130 (by decide) (fun c130 => ?_) (fun c130 => ?_)
      · rw [d0 c130] at l
        refine zr_iconst (pc := 137) S dX12_fills_137 (by unfold zrI; omega) ?_
        refine zr_iadd (pc := 138) S dX12_fills_138 (by unfold zrI; omega) ?_
        refine zr_istore (pc := 139) S dX12_fills_139 (by decide) ?_
        dsimp only [zst1, zst2, zset, zget, zlong]
        refine zr_aload_n (pc := 141) S dX12_fills_141 rfl ?_
        refine zr_getR (pc := 142) S fX12_fills_68 dX12_fills_142 rfl (Nat.le_of_ble_eq_true rfl) rfl ?_
        refine zr_iconst (pc := 145) S dX12_fills_145 (by unfold zrI; omega) ?_
        refine zr_iload_n (pc := 146) S dX12_fills_146 rfl ?_
        refine zr_iconst (pc := 147) S dX12_fills_147 (by unfold zrI; omega) ?_
        refine zr_iadd (pc := 148) S dX12_fills_148 (by unfold zrI; omega) ?_
        refine zr_imul (pc := 149) S dX12_fills_149 (by unfold zrI; omega) ?_
        refine zr_iload (pc := 150) S dX12_fills_150 rfl ?_
        refine zr_iadd (pc := 152) S dX12_fills_152 (by unfold zrI; omega) ?_
        refine zr_iconst (pc := 153) S dX12_fills_153 (by unfold zrI; omega) ?_
        refine zr_iload (pc := 154) S dX12_fills_154 rfl ?_
        refine zr_iconst (pc := 156) S dX12_fills_156 (by unfold zrI; omega) ?_
        refine zr_isub (pc := 157) S dX12_fills_157 (by unfold zrI; omega) ?_
        refine zr_mmax (pc := 158) S kX12_fills_123 dX12_fills_158 (by simp only [rmX12_fills, zdep, zcat2]; omega) (by simp only [rmX12_fills, zdep, zcat2]; omega) ⟨Nat.le_of_ble_eq_true rfl, Nat.le_of_ble_eq_true rfl⟩ ?_
        rw [em]
        refine zr_iastore (pc := 161) S dX12_fills_161 rfl (Nat.le_of_ble_eq_true rfl) (by omega) (by omega) ?_
        rw [e0, zrow_up]
        refine zr_iinc (pc := 162) S dX12_fills_162 rfl (by unfold zrI; omega) (by decide) ?_
        dsimp only [zst1, zst2, zset, zget, zlong]
        refine zr_goto (pc := 165) (tgt := 77) S dX12_fills_165 (by decide) ?_
        exact l _
      · rw [d1 c130] at l
        refine zr_iconst (pc := 133) S dX12_fills_133 (by unfold zrI; omega) ?_
        refine zr_goto (pc := 134) (tgt := 138) S dX12_fills_134 (by decide) ?_
        refine zr_iadd (pc := 138) S dX12_fills_138 (by unfold zrI; omega) ?_
        refine zr_istore (pc := 139) S dX12_fills_139 (by decide) ?_
        dsimp only [zst1, zst2, zset, zget, zlong]
        refine zr_aload_n (pc := 141) S dX12_fills_141 rfl ?_
        refine zr_getR (pc := 142) S fX12_fills_68 dX12_fills_142 rfl (Nat.le_of_ble_eq_true rfl) rfl ?_
        refine zr_iconst (pc := 145) S dX12_fills_145 (by unfold zrI; omega) ?_
        refine zr_iload_n (pc := 146) S dX12_fills_146 rfl ?_
        refine zr_iconst (pc := 147) S dX12_fills_147 (by unfold zrI; omega) ?_
        refine zr_iadd (pc := 148) S dX12_fills_148 (by unfold zrI; omega) ?_
        refine zr_imul (pc := 149) S dX12_fills_149 (by unfold zrI; omega) ?_
        refine zr_iload (pc := 150) S dX12_fills_150 rfl ?_
        refine zr_iadd (pc := 152) S dX12_fills_152 (by unfold zrI; omega) ?_
        refine zr_iconst (pc := 153) S dX12_fills_153 (by unfold zrI; omega) ?_
        refine zr_iload (pc := 154) S dX12_fills_154 rfl ?_
        refine zr_iconst (pc := 156) S dX12_fills_156 (by unfold zrI; omega) ?_
        refine zr_isub (pc := 157) S dX12_fills_157 (by unfold zrI; omega) ?_
        refine zr_mmax (pc := 158) S kX12_fills_123 dX12_fills_158 (by simp only [rmX12_fills, zdep, zcat2]; omega) (by simp only [rmX12_fills, zdep, zcat2]; omega) ⟨Nat.le_of_ble_eq_true rfl, Nat.le_of_ble_eq_true rfl⟩ ?_
        rw [em]
        refine zr_iastore (pc := 161) S dX12_fills_161 rfl (Nat.le_of_ble_eq_true rfl) (by omega) (by omega) ?_
        rw [e0, zrow_up]
        refine zr_iinc (pc := 162) S dX12_fills_162 rfl (by unfold zrI; omega) (by decide) ?_
        dsimp only [zst1, zst2, zset, zget, zlong]
        refine zr_goto (pc := 165) (tgt := 77) S dX12_fills_165 (by decide) ?_
        exact l _
    · refine zr_aload_n (pc := 95) S dX12_fills_95 rfl ?_
      refine zr_getR (pc := 96) S fX12_fills_9 dX12_fills_96 rfl (Nat.le_of_ble_eq_true rfl) rfl ?_
      refine zr_sipush (pc := 99) S dX12_fills_99 ⟨by unfold zrI; omega, by decide⟩ ?_
      refine zr_iconst (pc := 102) S dX12_fills_102 (by unfold zrI; omega) ?_
      refine zr_iload (pc := 103) S dX12_fills_103 rfl ?_
      refine zr_imul (pc := 105) S dX12_fills_105 (by unfold zrI; omega) ?_
      refine zr_iadd (pc := 106) S dX12_fills_106 (by unfold zrI; omega) ?_
      refine zr_iconst (pc := 107) S dX12_fills_107 (by unfold zrI; omega) ?_
      refine zr_iadd (pc := 108) S dX12_fills_108 (by unfold zrI; omega) ?_
      refine zr_iaload (pc := 109) S dX12_fills_109 rfl (Nat.le_of_ble_eq_true rfl) (by omega) (by omega) ?_
      rw [ea1 c92]
      refine zr_goto (pc := 110) (tgt := 124) S dX12_fills_110 (by decide) ?_
      refine zr_istore (pc := 124) S dX12_fills_124 (by decide) ?_
      dsimp only [zst1, zst2, zset, zget, zlong]
      refine zr_iload (pc := 126) S dX12_fills_126 rfl ?_
      refine zr_iload (pc := 128) S dX12_fills_128 rfl ?_
      refine zr_if_ne (pc := 130) (tgt := 137) S dX12_fills_130 (by decide) (fun c130 => ?_) (fun c130 => ?_)
      · rw [d0 c130] at l
        refine zr_iconst (pc := 137) S dX12_fills_137 (by unfold zrI; omega) ?_
        refine zr_iadd (pc := 138) S dX12_fills_138 (by unfold zrI; omega) ?_
        refine zr_istore (pc := 139) S dX12_fills_139 (by decide) ?_
        dsimp only [zst1, zst2, zset, zget, zlong]
        refine zr_aload_n (pc := 141) S dX12_fills_141 rfl ?_
        refine zr_getR (pc := 142) S fX12_fills_68 dX12_fills_142 rfl (Nat.le_of_ble_eq_true rfl) rfl ?_
        refine zr_iconst (pc := 145) S dX12_fills_145 (by unfold zrI; omega) ?_
        refine zr_iload_n (pc := 146) S dX12_fills_146 rfl ?_
        refine zr_iconst (pc := 147) S dX12_fills_147 (by unfold zrI; omega) ?_
        refine zr_iadd (pc := 148) S dX12_fills_148 (by unfold zrI; omega) ?_
        refine zr_imul (pc := 149) S dX12_fills_149 (by unfold zrI; omega) ?_
        refine zr_iload (pc := 150) S dX12_fills_150 rfl ?_
        refine zr_iadd (pc := 152) S dX12_fills_152 (by unfold zrI; omega) ?_
        refine zr_iconst (pc := 153) S dX12_fills_153 (by unfold zrI; omega) ?_
        refine zr_iload (pc := 154) S dX12_fills_154 rfl ?_
        refine zr_iconst (pc := 156) S dX12_fills_156 (by unfold zrI; omega) ?_
        refine zr_isub (pc := 157) S dX12_fills_157 (by unfold zrI; omega) ?_
        refine zr_mmax (pc := 158) S kX12_fills_123 dX12_fills_158 (by simp only [rmX12_fills, zdep, zcat2]; omega) (by simp only [rmX12_fills, zdep, zcat2]; omega) ⟨Nat.le_of_ble_eq_true rfl, Nat.le_of_ble_eq_true rfl⟩ ?_
        rw [em]
        refine zr_iastore (pc := 161) S dX12_fills_161 rfl (Nat.le_of_ble_eq_true rfl) (by omega) (by omega) ?_
        rw [e0, zrow_up]
        refine zr_iinc (pc := 162) S dX12_fills_162 rfl (by unfold zrI; omega) (by decide) ?_
        dsimp only [zst1, zst2, zset, zget, zlong]
        refine zr_goto (pc := 165) (tgt := 77) S dX12_fills_165 (by decide) ?_
        exact l _
      · rw [d1 c130] at l
        refine zr_iconst (pc := 133) S dX12_fills_133 (by unfold zrI; omega) ?_
        refine zr_goto (pc := 134) (tgt := 138) S dX12_fills_134 (by decide) ?_
        refine zr_iadd (pc := 138) S dX12_fills_138 (by unfold zrI; omega) ?_
        refine zr_istore (pc := 139) S dX12_fills_139 (by decide) ?_
        dsimp only [zst1, zst2, zset, zget, zlong]
        refine zr_aload_n (pc := 141) S dX12_fills_141 rfl ?_
        refine zr_getR (pc := 142) S fX12_fills_68 dX12_fills_142 rfl (Nat.le_of_ble_eq_true rfl) rfl ?_
        refine zr_iconst (pc := 145) S dX12_fills_145 (by unfold zrI; omega) ?_
        refine zr_iload_n (pc := 146) S dX12_fills_146 rfl ?_
        refine zr_iconst (pc := 147) S dX12_fills_147 (by unfold zrI; omega) ?_
        refine zr_iadd (pc := 148) S dX12_fills_148 (by unfold zrI; omega) ?_
        refine zr_imul (pc := 149) S dX12_fills_149 (by unfold zrI; omega) ?_
        refine zr_iload (pc := 150) S dX12_fills_150 rfl ?_
        refine zr_iadd (pc := 152) S dX12_fills_152 (by unfold zrI; omega) ?_
        refine zr_iconst (pc := 153) S dX12_fills_153 (by unfold zrI; omega) ?_
        refine zr_iload (pc := 154) S dX12_fills_154 rfl ?_
        refine zr_iconst (pc := 156) S dX12_fills_156 (by unfold zrI; omega) ?_
        refine zr_isub (pc := 157) S dX12_fills_157 (by unfold zrI; omega) ?_
        refine zr_mmax (pc := 158) S kX12_fills_123 dX12_fills_158 (by simp only [rmX12_fills, zdep, zcat2]; omega) (by simp only [rmX12_fills, zdep, zcat2]; omega) ⟨Nat.le_of_ble_eq_true rfl, Nat.le_of_ble_eq_true rfl⟩ ?_
        rw [em]
        refine zr_iastore (pc := 161) S dX12_fills_161 rfl (Nat.le_of_ble_eq_true rfl) (by omega) (by omega) ?_
        rw [e0, zrow_up]
        refine zr_iinc (pc := 162) S dX12_fills_162 rfl (by unfold zrI; omega) (by decide) ?_
        dsimp only [zst1, zst2, zset, zget, zlong]
        refine zr_goto (pc := 165) (tgt := 77) S dX12_fills_165 (by decide) ?_
        exact l _
theorem fi4 {E : zE} {X : zX} {Qp : Option zV → zM → Prop} {M : zM} {e h : Nat} {day dry : Int} {u5 u6 u7 : Option zV} (S : zS (zg E) X cX12_fills 8 wzX12_fills RX12 none) (hh : h ≤ 8)
    (hQ : ∀ G : Nat → Int, (∀ k, k < h → G k = M 195 k) → Qp none (zrow M 196 G)) : ∀ (r i : Nat) (G : Nat → Int), r + i = h → (∀ k, k < i → G k = M 195 k) → zK (zg E) (rmX12_fills e) 8 (Qp, 0, 0) X (0, 0) 30 [some (zR 180), some (zI day), some (zI h), some (zI dry), some (zI i), u5, u6, u7] [] (zrow M 196 G) := by
  intro r
  induction r with
  | zero =>
    intro i G hi hG
    obtain rfl : i = h := by omega
    refine zr_iload (pc := 30) S dX12_fills_30 rfl ?_
    refine zr_iload_n (pc := 32) S dX12_fills_32 rfl ?_
    refine zr_icmp_ge (pc := 33) (tgt := 56) S dX12_fills_33 (by decide) (fun c33 => ?_) (fun c33 => absurd c33 (by omega))
    exact zr_vret (pc := 56) S dX12_fills_56 rfl ⟨Nat.le_refl _, Nat.le_refl _⟩ (hQ G hG)
  | succ r ih =>
    intro i G hi hG
    have l := ih (i + 1) (rUp G i (M 195 i)) (by omega) (fun k hk => by
      by_cases e : k = i
      · subst e; rw [rUp_e]
      · rw [rUp_o e]; exact hG k (by omega))
    rw [Int.natCast_add, Int.natCast_one] at l
    have e1 : zrow M 196 G 195 i = M 195 i := by rw [zrow_o (by decide)]
    refine zr_iload (pc := 30) S dX12_fills_30 rfl ?_
    refine zr_iload_n (pc := 32) S dX12_fills_32 rfl ?_
    refine zr_icmp_ge (pc := 33) (tgt := 56) S dX12_fills_33 (by decide) (fun c33 => absurd c33 (by omega)) (fun c33 => ?_)
    refine zr_aload_n (pc := 36) S dX12_fills_36 rfl ?_
    refine zr_getR (pc := 37) S fX12_fills_65 dX12_fills_37 rfl (Nat.le_of_ble_eq_true rfl) rfl ?_
    refine zr_iload (pc := 40) S dX12_fills_40 rfl ?_
    refine zr_aload_n (pc := 42) S dX12_fills_42 rfl ?_
    refine zr_getR (pc := 43) S fX12_fills_62 dX12_fills_43 rfl (Nat.le_of_ble_eq_true rfl) rfl ?_
    refine zr_iload (pc := 46) S dX12_fills_46 rfl ?_
    refine zr_iaload (pc := 48) S dX12_fills_48 rfl (Nat.le_of_ble_eq_true rfl) (by omega) (by omega) ?_
    rw [Int.toNat_natCast, e1]
    refine zr_iastore (pc := 49) S dX12_fills_49 rfl (Nat.le_of_ble_eq_true rfl) (by omega) (by omega) ?_
    rw [Int.toNat_natCast, zrow_up]
    refine zr_iinc (pc := 50) S dX12_fills_50 rfl (by unfold zrI; omega) (by decide) ?_
    dsimp only [zst1, zst2, zset, zget, zlong]
    refine zr_goto (pc := 53) (tgt := 30) S dX12_fills_53 (by decide) ?_
    exact l
end
