section
/-- bounds of machines -/
def ICm (M : zM) : Prop := (0 ≤ M 1 10 ∧ M 1 10 ≤ 4) ∧ ∀ k : Nat, k < 4 → 0 ≤ M 34 k ∧ M 34 k ≤ 5 ∧ 0 ≤ M 35 k ∧ M 35 k ≤ 5
/-- a day: what a machine holds, how many are dry, the number behind it -/
def lfA (M : zM) (c m k : Nat) : Nat := if k = m then (M 35 k).toNat else c / 6 ^ k % 6
def drU (M : zM) (c m : Nat) : Nat → Nat
  | 0 => 0
  | k + 1 => drU M c m k + (if lfA M c m k = 0 then 1 else 0)
def nxU (M : zM) (c m : Nat) : Nat → Nat
  | 0 => 0
  | k + 1 => nxU M c m k + (lfA M c m k - 1) * 6 ^ k
theorem lfA_r {M : zM} (h : ICm M) (c m : Nat) {k : Nat} (hk : k < 4) : lfA M c m k ≤ 5 := by
  have := h.2 k hk
  unfold lfA
  split <;> omega
theorem dr_r (M : zM) (c m : Nat) : ∀ k, drU M c m k ≤ k
  | 0 => Nat.le_refl _
  | k + 1 => by
    have := dr_r M c m k
    simp only [drU]
    split <;> omega
theorem nx_r {M : zM} (h : ICm M) (c m : Nat) : ∀ k, k ≤ 4 → nxU M c m k < 6 ^ k
  | 0, _ => by simp [nxU]
  | k + 1, hk => by
    have a := nx_r h c m k (by omega)
    have b := lfA_r h c m (k := k) (by omega)
    have d : (lfA M c m k - 1) * 6 ^ k ≤ 4 * 6 ^ k := Nat.mul_le_mul_right _ (by omega)
    simp only [nxU]
    rw [Nat.pow_succ]
    omega
abbrev nM (M : zM) : Nat := (M 1 10).toNat
theorem nx_1296 {M : zM} (h : ICm M) (c m : Nat) : nxU M c m (nM M) < 1296 := by
  have h1 := h.1
  have a := nx_r h c m (nM M) (by unfold nM; omega)
  have : 6 ^ (nM M) ≤ 6 ^ 4 := Nat.pow_le_pow_right (by omega) (by unfold nM; omega)
  omega
def rmX1_step : Room := { frames := 0, cells := 0, slots := 0, locals := 0 }
abbrev wzX1_step : List Cond := .code yX1_step cX1_step 8 (some .int) :: zW
def rmX1_forget : Room := { frames := 1, cells := 0, slots := 0, locals := 24 }
abbrev wzX1_forget : List Cond := .code yX1_forget cX1_forget 1 none :: zW
def rmX1_atFirst : Room := { frames := 0, cells := 0, slots := 0, locals := 0 }
abbrev wzX1_atFirst : List Cond := .code yX1_atFirst cX1_atFirst 3 (some .int) :: zW
theorem fX1_step_15 : zfl wzX1_step RX1 vwCl 15 1 0 := ⟨_, _, _, rfl, (fun w h => List.mem_cons_of_mem _ (zWuX1 w h)), by decide, List.mem_cons_of_mem _ (zWi_7 _ (List.mem_of_getElem? (i := 49) rfl))⟩
theorem fX1_step_44 : zfl wzX1_step RX1 vwCl 44 8 10 := ⟨_, _, _, rfl, (fun w h => List.mem_cons_of_mem _ (zWuX8 w h)), by decide, List.mem_cons_of_mem _ (zWi_8 _ (List.mem_of_getElem? (i := 0) rfl))⟩
theorem fX1_step_63 : zfl wzX1_step RX1 vwCl 63 8 12 := ⟨_, _, _, rfl, (fun w h => List.mem_cons_of_mem _ (zWuX8 w h)), by decide, List.mem_cons_of_mem _ (zWi_8 _ (List.mem_of_getElem? (i := 2) rfl))⟩
theorem fX1_forget_11 : zfl wzX1_forget RX1 vwCl 11 1 1 := ⟨_, _, _, rfl, (fun w h => List.mem_cons_of_mem _ (zWuX1 w h)), by decide, List.mem_cons_of_mem _ (zWi_7 _ (List.mem_of_getElem? (i := 48) rfl))⟩
theorem kX1_forget_38 : ∀ (s9 : State) (a9 : Array Value), (∀ w ∈ wzX1_forget, w.before a9 s9 = true) → CallB rmX1_forget s9 a9 RX1 38 yJ7_fill_d0a16 cJ7_fill_d0a16 5 none wzJ7_fill_d0a16 rmJ7_fill_d0a16 0 0 2 ∧ (Cond.static yJ7_fill_d0a16).before a9 s9 = true := zcS (zWi_20 _ (List.mem_of_getElem? (i := 44) rfl)) (zWi_30 _ (List.mem_of_getElem? (i := 14) rfl)) (zWi_12 _ (List.mem_of_getElem? (i := 7) rfl)) (zWi_0 _ (List.mem_of_getElem? (i := 43) rfl)) (by decide +kernel) rfl rfl ⟨Nat.le_of_ble_eq_true rfl, Nat.le_of_ble_eq_true rfl⟩
theorem fX1_atFirst_15 : zfl wzX1_atFirst RX1 vwCl 15 1 0 := ⟨_, _, _, rfl, (fun w h => List.mem_cons_of_mem _ (zWuX1 w h)), by decide, List.mem_cons_of_mem _ (zWi_7 _ (List.mem_of_getElem? (i := 49) rfl))⟩
theorem fX1_atFirst_44 : zfl wzX1_atFirst RX1 vwCl 44 8 10 := ⟨_, _, _, rfl, (fun w h => List.mem_cons_of_mem _ (zWuX8 w h)), by decide, List.mem_cons_of_mem _ (zWi_8 _ (List.mem_of_getElem? (i := 0) rfl))⟩
theorem fX1_atFirst_50 : zfl wzX1_atFirst RX1 vwCl 50 8 11 := ⟨_, _, _, rfl, (fun w h => List.mem_cons_of_mem _ (zWuX8 w h)), by decide, List.mem_cons_of_mem _ (zWi_8 _ (List.mem_of_getElem? (i := 1) rfl))⟩
theorem lp_X1_step {E : zE} {X : zX} {Qp : Option zV → zM → Prop} {M : zM} {c m : Nat} (S : zS (zg E) X cX1_step 8 wzX1_step RX1 (some .int)) (hm : ICm M) (hc : c < 1296) (hQ : Qp (some (zI ((1296 * drU M c m (nM M) + nxU M c m (nM M) : Nat) : Int))) M) : ∀ (n k : Nat) (u7 : Option zV), (n : Int) + k = M 1 10 → zK (zg E) rmX1_step 8 (Qp, 0, 0) X (0, 0) 11 [some (zR 65), some (zI c), some (zI m), some (zI ((c / 6 ^ k : Nat) : Int)), some (zI ((1296 * drU M c m k + nxU M c m k : Nat) : Int)), some (zI ((6 ^ k : Nat) : Int)), some (zI k), u7] [] M := by
  have h1 := hm.1
  intro n
  induction n with
  | zero =>
    intro k u7 hk
    have e : k = nM M := by unfold nM; omega
    rw [← e] at hQ
    refine zr_iload (pc := 11) S dX1_step_11 rfl ?_
    refine zr_aload_n (pc := 13) S dX1_step_13 rfl ?_
    refine zr_getR (pc := 14) S fX1_step_15 dX1_step_14 rfl (Nat.le_of_ble_eq_true rfl) rfl ?_
    refine zr_getI (pc := 17) S fX1_step_44 dX1_step_17 rfl (Nat.le_of_ble_eq_true rfl) rfl ?_
    refine zr_icmp_ge (pc := 20) (tgt := 89) S dX1_step_20 (by decide) (fun c20 => ?_) (fun c20 => absurd c20 (by omega))
    refine zr_iload (pc := 89) S dX1_step_89 rfl ?_
    exact zr_iret (pc := 91) S dX1_step_91 rfl ⟨Nat.le_refl _, Nat.le_refl _⟩ (hQ)
  | succ n ih =>
    intro k u7 hk
    have ek : (k : Int).toNat = k := Int.toNat_natCast k
    have b := hm.2 k (by omega)
    have l5 := lfA_r hm c m (k := k) (by omega)
    have d := dr_r M c m k
    have x := nx_r hm c m k (by omega)
    have p4 : 6 ^ k ≤ 6 ^ 3 := Nat.pow_le_pow_right (by omega) (by omega)
    have hrc : c / 6 ^ k ≤ c := Nat.div_le_self _ _
    have lm : (lfA M c m k - 1) * 6 ^ k ≤ 4 * 6 ^ k := Nat.mul_le_mul_right _ (by omega)
    have q := fun u7 => ih (k + 1) u7 (by omega)
    simp only [drU, nxU] at q
    rw [Nat.pow_succ, ← Nat.div_div_eq_div_mul] at q
    have lf1 : k = m → lfA M c m k = (M 35 k).toNat := fun z => by unfold lfA; rw [if_pos z]
    have lf0 : ¬ k = m → lfA M c m k = c / 6 ^ k % 6 := fun z => by unfold lfA; rw [if_neg z]
    generalize hp : 6 ^ k = p at *
    generalize hrr : c / p = rr at *
    generalize hl : lfA M c m k = lf at *
    generalize hdd : drU M c m k = dd at *
    generalize hxx : nxU M c m k = xx at *
    have er : ((rr : Nat) : Int) / 6 = ((rr / 6 : Nat) : Int) := by omega
    have ep : ((p : Nat) : Int) * 6 = ((p * 6 : Nat) : Int) := by omega
    have tail : zK (zg E) rmX1_step 8 (Qp, 0, 0) X (0, 0) 48 [some (zR 65), some (zI c), some (zI m), some (zI (rr : Int)), some (zI ((1296 * dd + xx : Nat) : Int)), some (zI (p : Int)), some (zI k), some (zI (lf : Int))] [] M := by
      by_cases h0 : lf = 0
      · subst h0
        have eq1 : ((1296 * dd + xx : Nat) : Int) + 1296 = ((1296 * (dd + (if (0 : Nat) = 0 then 1 else 0)) + (xx + (0 - 1) * p) : Nat) : Int) := by
          rw [if_pos rfl, Nat.zero_sub, Nat.zero_mul]
          omega
        refine zr_iload_n (pc := 48) S dX1_step_48 rfl ?_
        refine zr_bipush (pc := 49) S dX1_step_49 ⟨by unfold zrI; omega, by decide⟩ ?_
        refine zr_idiv (pc := 51) S dX1_step_51 (by omega) (by omega) ?_
        rw [er]
        refine zr_istore_n (pc := 52) S 3 dX1_step_52 rfl (by decide) ?_
        dsimp only [zst1, zst2, zset, zget, zlong]
        refine zr_iload (pc := 53) S dX1_step_53 rfl ?_
        refine zr_iload (pc := 55) S dX1_step_55 rfl ?_
        refine zr_if_ne (pc := 57) (tgt := 66) S dX1_step_57 (by decide) (fun c57 => absurd c57 (by omega)) (fun c57 => ?_)
        refine zr_sipush (pc := 60) S dX1_step_60 ⟨by unfold zrI; omega, by decide⟩ ?_
        refine zr_goto (pc := 63) (tgt := 73) S dX1_step_63 (by decide) ?_
        refine zr_iadd (pc := 73) S dX1_step_73 (by unfold zrI; omega) ?_
        rw [eq1]
        refine zr_istore (pc := 74) S dX1_step_74 (by decide) ?_
        dsimp only [zst1, zst2, zset, zget, zlong]
        refine zr_iload (pc := 76) S dX1_step_76 rfl ?_
        refine zr_bipush (pc := 78) S dX1_step_78 ⟨by unfold zrI; omega, by decide⟩ ?_
        refine zr_imul (pc := 80) S dX1_step_80 (by unfold zrI; omega) ?_
        rw [ep]
        refine zr_istore (pc := 81) S dX1_step_81 (by decide) ?_
        dsimp only [zst1, zst2, zset, zget, zlong]
        refine zr_iinc (pc := 83) S dX1_step_83 rfl (by unfold zrI; omega) (by decide) ?_
        dsimp only [zst1, zst2, zset, zget, zlong]
        refine zr_goto (pc := 86) (tgt := 11) S dX1_step_86 (by decide) ?_
        exact q _
      · have em : ((lf : Nat) : Int) - 1 = ((lf - 1 : Nat) : Int) := by omega
        have em2 : (((lf - 1 : Nat) : Int)) * (p : Int) = (((lf - 1) * p : Nat) : Int) := by rw [Int.natCast_mul]
        have eq1 : ((1296 * dd + xx : Nat) : Int) + (((lf - 1) * p : Nat) : Int) = ((1296 * (dd + (if lf = 0 then 1 else 0)) + (xx + (lf - 1) * p) : Nat) : Int) := by
          rw [if_neg h0]
          omega
        refine zr_iload_n (pc := 48) S dX1_step_48 rfl ?_
        refine zr_bipush (pc := 49) S dX1_step_49 ⟨by unfold zrI; omega, by decide⟩ ?_
        refine zr_idiv (pc := 51) S dX1_step_51 (by omega) (by omega) ?_
        rw [er]
        refine zr_istore_n (pc := 52) S 3 dX1_step_52 rfl (by decide) ?_
        dsimp only [zst1, zst2, zset, zget, zlong]
        refine zr_iload (pc := 53) S dX1_step_53 rfl ?_
        refine zr_iload (pc := 55) S dX1_step_55 rfl ?_
        refine zr_if_ne (pc := 57) (tgt := 66) S dX1_step_57 (by decide) (fun c57 => ?_) (fun c57 => absurd c57 (by omega))
        refine zr_iload (pc := 66) S dX1_step_66 rfl ?_
        refine zr_iconst (pc := 68) S dX1_step_68 (by unfold zrI; omega) ?_
        refine zr_isub (pc := 69) S dX1_step_69 (by unfold zrI; omega) ?_
        rw [em]
        refine zr_iload (pc := 70) S dX1_step_70 rfl ?_
        refine zr_imul (pc := 72) S dX1_step_72 (by rw [em2]; unfold zrI; omega) ?_
        rw [em2]
        refine zr_iadd (pc := 73) S dX1_step_73 (by unfold zrI; omega) ?_
        rw [eq1]
        refine zr_istore (pc := 74) S dX1_step_74 (by decide) ?_
        dsimp only [zst1, zst2, zset, zget, zlong]
        refine zr_iload (pc := 76) S dX1_step_76 rfl ?_
        refine zr_bipush (pc := 78) S dX1_step_78 ⟨by unfold zrI; omega, by decide⟩ ?_
        refine zr_imul (pc := 80) S dX1_step_80 (by unfold zrI; omega) ?_
        rw [ep]
        refine zr_istore (pc := 81) S dX1_step_81 (by decide) ?_
        dsimp only [zst1, zst2, zset, zget, zlong]
        refine zr_iinc (pc := 83) S dX1_step_83 rfl (by unfold zrI; omega) (by decide) ?_
        dsimp only [zst1, zst2, zset, zget, zlong]
        refine zr_goto (pc := 86) (tgt := 11) S dX1_step_86 (by decide) ?_
        exact q _
    have t0 := tail
    refine zr_iload (pc := 11) S dX1_step_11 rfl ?_
    refine zr_aload_n (pc := 13) S dX1_step_13 rfl ?_
    refine zr_getR (pc := 14) S fX1_step_15 dX1_step_14 rfl (Nat.le_of_ble_eq_true rfl) rfl ?_
    refine zr_getI (pc := 17) S fX1_step_44 dX1_step_17 rfl (Nat.le_of_ble_eq_true rfl) rfl ?_
    refine zr_icmp_ge (pc := 20) (tgt := 89) S dX1_step_20 (by decide) (fun c20 => absurd c20 (by omega)) (fun c20 => ?_)
    refine zr_iload (pc := 23) S dX1_step_23 rfl ?_
    refine zr_iload_n (pc := 25) S dX1_step_25 rfl ?_
    refine zr_icmp_ne (pc := 26) (tgt := 42) S dX1_step_26 (by decide) (fun c26 => ?_) (fun c26 => ?_)
    · have el : ((rr : Nat) : Int) % 6 = (lf : Int) := by
        have := lf0 (by omega)
        omega
      refine zr_iload_n (pc := 42) S dX1_step_42 rfl ?_
      refine zr_bipush (pc := 43) S dX1_step_43 ⟨by unfold zrI; omega, by decide⟩ ?_
      refine zr_irem (pc := 45) S dX1_step_45 (by omega) (by omega) ?_
      rw [el]
      refine zr_istore (pc := 46) S dX1_step_46 (by decide) ?_
      dsimp only [zst1, zst2, zset, zget, zlong]
      exact t0
    · have el : M 35 k = (lf : Int) := by
        have := lf1 (by omega)
        omega
      refine zr_aload_n (pc := 29) S dX1_step_29 rfl ?_
      refine zr_getR (pc := 30) S fX1_step_15 dX1_step_30 rfl (Nat.le_of_ble_eq_true rfl) rfl ?_
      refine zr_getR (pc := 33) S fX1_step_63 dX1_step_33 rfl (Nat.le_of_ble_eq_true rfl) rfl ?_
      refine zr_iload (pc := 36) S dX1_step_36 rfl ?_
      refine zr_iaload (pc := 38) S dX1_step_38 rfl (Nat.le_of_ble_eq_true rfl) (by omega) (by omega) ?_
      rw [ek, el]
      refine zr_goto (pc := 39) (tgt := 46) S dX1_step_39 (by decide) ?_
      refine zr_istore (pc := 46) S dX1_step_46 (by decide) ?_
      dsimp only [zst1, zst2, zset, zget, zlong]
      exact t0
def sp_X1_step (as : List zV) (M : zM) (Q : Option zV → zM → Prop) : Prop := ∃ (c m : Nat), as = [zR 65, zI c, zI m] ∧ (ICm M) ∧ (c < 1296) ∧ Q (some (zI ((1296 * drU M c m (nM M) + nxU M c m (nM M) : Nat) : Int))) (M)
theorem us_X1_step {c m : Nat} {M : zM} {Q : Option zV → zM → Prop} (hm : ICm M) (hc : c < 1296) (h99 : Q (some (zI ((1296 * drU M c m (nM M) + nxU M c m (nM M) : Nat) : Int))) (M)) : sp_X1_step [zR 65, zI c, zI m] M Q := ⟨c, m, rfl, hm, hc, h99⟩
set_option maxRecDepth 20000 in
set_option maxHeartbeats 4000000 in
theorem m_X1_step (l : Launch) : zC l yX1_step wzX1_step rmX1_step sp_X1_step := by
  refine zMet.of RX1 (by decide +kernel) rfl rfl ?_
  intro E X as M Qp hX S hsp
  obtain ⟨c, m, rfl, hm, hc, hQ⟩ := hsp
  refine ⟨Nat.le_of_ble_eq_true rfl, ?_⟩
  dsimp only [zpad, zargs]
  have q := fun u7 => lp_X1_step S hm hc hQ (nM M) 0 u7 (by have := hm.1; unfold nM; omega)
  simp only [Nat.pow_zero, Nat.div_one] at q
  refine zr_iload_n (pc := 0) S dX1_step_0 rfl ?_
  refine zr_istore_n (pc := 1) S 3 dX1_step_1 rfl (by decide) ?_
  dsimp only [zst1, zst2, zset, zget, zlong]
  refine zr_iconst (pc := 2) S dX1_step_2 (by unfold zrI; omega) ?_
  refine zr_istore (pc := 3) S dX1_step_3 (by decide) ?_
  dsimp only [zst1, zst2, zset, zget, zlong]
  refine zr_iconst (pc := 5) S dX1_step_5 (by unfold zrI; omega) ?_
  refine zr_istore (pc := 6) S dX1_step_6 (by decide) ?_
  dsimp only [zst1, zst2, zset, zget, zlong]
  refine zr_iconst (pc := 8) S dX1_step_8 (by unfold zrI; omega) ?_
  refine zr_istore (pc := 9) S dX1_step_9 (by decide) ?_
  dsimp only [zst1, zst2, zset, zget, zlong]
  exact q _
def sp_X1_forget (as : List zV) (M : zM) (Q : Option zV → zM → Prop) : Prop := as = [zR 65] ∧ Q (none) (fillR M 66 1296 (-1))
theorem us_X1_forget  {M : zM} {Q : Option zV → zM → Prop}  (h99 : Q (none) (fillR M 66 1296 (-1))) : sp_X1_forget [zR 65] M Q := ⟨rfl, h99⟩
set_option maxRecDepth 20000 in
set_option maxHeartbeats 4000000 in
theorem m_X1_forget (l : Launch) : zC l yX1_forget wzX1_forget rmX1_forget sp_X1_forget := by
  refine zMet.of RX1 (by decide +kernel) rfl rfl ?_
  intro E X as M Qp hX S hsp
  obtain ⟨rfl, hQ⟩ := hsp
  refine ⟨Nat.le_of_ble_eq_true rfl, ?_⟩
  dsimp only [zpad, zargs]
  refine zr_aload_n (pc := 0) S dX1_forget_0 rfl ?_
  refine zr_getR (pc := 1) S fX1_forget_11 dX1_forget_1 rfl (Nat.le_of_ble_eq_true rfl) rfl ?_
  refine zr_ldc2 (pc := 4) S (-1) dX1_forget_4 (List.mem_cons_of_mem _ (zWi_7 _ (List.mem_of_getElem? (i := 5) rfl))) (by unfold zrL; omega) ?_
  refine zr_invS (pc := 7) S [zR _, zL _] (m_J7_fill_d0a16 _) kX1_forget_38 dX1_forget_7 (Nat.le_of_ble_eq_true rfl) ⟨Nat.le_of_ble_eq_true rfl, Nat.le_of_ble_eq_true rfl⟩ (us_J7_fill_d0a16 (n := 1296) rfl (Nat.le_of_ble_eq_true rfl) (by decide) ?_)
  dsimp only [zaft, Option.toList, List.cons_append, List.nil_append, Nat.add_zero]
  exact zr_vret (pc := 10) S dX1_forget_10 rfl ⟨Nat.le_refl _, Nat.le_refl _⟩ (hQ)
/-- what is left at first, as one number -/
def lfF (M : zM) (k : Nat) : Nat := if (k : Int) < M 1 10 then (M 34 k).toNat else 0
def cdU (M : zM) : Nat → Nat
  | 0 => 0
  | i + 1 => cdU M i * 6 + lfF M (3 - i)
theorem lfF_r {M : zM} (h : ICm M) {k : Nat} (hk : k < 4) : lfF M k ≤ 5 := by
  have := h.2 k hk
  unfold lfF
  split <;> omega
theorem cdU_r {M : zM} (h : ICm M) : ∀ i, i ≤ 4 → cdU M i < 6 ^ i
  | 0, _ => by simp [cdU]
  | i + 1, hi => by
    have a := cdU_r h i (by omega)
    have b := lfF_r h (k := 3 - i) (by omega)
    simp only [cdU]
    rw [Nat.pow_succ]
    omega
theorem lp_X1_atFirst {E : zE} {X : zX} {Qp : Option zV → zM → Prop} {M : zM} (S : zS (zg E) X cX1_atFirst 3 wzX1_atFirst RX1 (some .int)) (hm : ICm M) (hQ : Qp (some (zI (cdU M 4 : Nat))) M) : ∀ (n i : Nat), n + i = 4 → zK (zg E) rmX1_atFirst 3 (Qp, 0, 0) X (0, 0) 4 [some (zR 65), some (zI (cdU M i : Nat)), some (zI (3 - (i : Int)))] [] M := by
  intro n
  induction n with
  | zero =>
    intro i hi
    have e : i = 4 := by omega
    subst e
    refine zr_iload_n (pc := 4) S dX1_atFirst_4 rfl ?_
    refine zr_if_lt (pc := 5) (tgt := 44) S dX1_atFirst_5 (by decide) (fun c5 => ?_) (fun c5 => absurd c5 (by omega))
    refine zr_iload_n (pc := 44) S dX1_atFirst_44 rfl ?_
    exact zr_iret (pc := 45) S dX1_atFirst_45 rfl ⟨Nat.le_refl _, Nat.le_refl _⟩ (hQ)
  | succ n ih =>
    intro i hi
    have b := hm.2 (3 - i) (by omega)
    have c := cdU_r hm i (by omega)
    have p4 : 6 ^ i ≤ 6 ^ 3 := Nat.pow_le_pow_right (by omega) (by omega)
    have ej : (3 - (i : Int)).toNat = 3 - i := by omega
    have e1 : (3 : Int) - (i : Int) + -1 = 3 - ((i + 1 : Nat) : Int) := by omega
    have q := ih (i + 1) (by omega)
    simp only [cdU] at q
    have l1 : 3 - (i : Int) < M 1 10 → lfF M (3 - i) = (M 34 (3 - i)).toNat := fun z => by unfold lfF; rw [if_pos (by omega)]
    have l0 : M 1 10 ≤ 3 - (i : Int) → lfF M (3 - i) = 0 := fun z => by unfold lfF; rw [if_neg (by omega)]
    generalize hcc : cdU M i = cc at *
    refine zr_iload_n (pc := 4) S dX1_atFirst_4 rfl ?_
    refine zr_if_lt (pc := 5) (tgt := 44) S dX1_atFirst_5 (by decide) (fun c5 => absurd c5 (by omega)) (fun c5 => ?_)
    refine zr_iload_n (pc := 8) S dX1_atFirst_8 rfl ?_
    refine zr_bipush (pc := 9) S dX1_atFirst_9 ⟨by unfold zrI; omega, by decide⟩ ?_
    refine zr_imul (pc := 11) S dX1_atFirst_11 (by unfold zrI; omega) ?_
    refine zr_iload_n (pc := 12) S dX1_atFirst_12 rfl ?_
    refine zr_aload_n (pc := 13) S dX1_atFirst_13 rfl ?_
    refine zr_getR (pc := 14) S fX1_atFirst_15 dX1_atFirst_14 rfl (Nat.le_of_ble_eq_true rfl) rfl ?_
    refine zr_getI (pc := 17) S fX1_atFirst_44 dX1_atFirst_17 rfl (Nat.le_of_ble_eq_true rfl) rfl ?_
    refine zr_icmp_ge (pc := 20) (tgt := 35) S dX1_atFirst_20 (by decide) (fun c20 => ?_) (fun c20 => ?_)
    · have eq1 : (cc : Int) * 6 + 0 = ((cc * 6 + lfF M (3 - i) : Nat) : Int) := by rw [l0 c20]; omega
      refine zr_iconst (pc := 35) S dX1_atFirst_35 (by unfold zrI; omega) ?_
      refine zr_iadd (pc := 36) S dX1_atFirst_36 (by unfold zrI; omega) ?_
      rw [eq1]
      refine zr_istore_n (pc := 37) S 1 dX1_atFirst_37 rfl (by decide) ?_
      dsimp only [zst1, zst2, zset, zget, zlong]
      refine zr_iinc (pc := 38) S dX1_atFirst_38 rfl (by unfold zrI; omega) (by decide) ?_
      dsimp only [zst1, zst2, zset, zget, zlong]
      rw [e1]
      refine zr_goto (pc := 41) (tgt := 4) S dX1_atFirst_41 (by decide) ?_
      exact q
    · have eq1 : (cc : Int) * 6 + M 34 (3 - i) = ((cc * 6 + lfF M (3 - i) : Nat) : Int) := by rw [l1 c20]; omega
      refine zr_aload_n (pc := 23) S dX1_atFirst_23 rfl ?_
      refine zr_getR (pc := 24) S fX1_atFirst_15 dX1_atFirst_24 rfl (Nat.le_of_ble_eq_true rfl) rfl ?_
      refine zr_getR (pc := 27) S fX1_atFirst_50 dX1_atFirst_27 rfl (Nat.le_of_ble_eq_true rfl) rfl ?_
      refine zr_iload_n (pc := 30) S dX1_atFirst_30 rfl ?_
      refine zr_iaload (pc := 31) S dX1_atFirst_31 rfl (Nat.le_of_ble_eq_true rfl) (by omega) (by omega) ?_
      rw [ej]
      refine zr_goto (pc := 32) (tgt := 36) S dX1_atFirst_32 (by decide) ?_
      refine zr_iadd (pc := 36) S dX1_atFirst_36 (by unfold zrI; omega) ?_
      rw [eq1]
      refine zr_istore_n (pc := 37) S 1 dX1_atFirst_37 rfl (by decide) ?_
      dsimp only [zst1, zst2, zset, zget, zlong]
      refine zr_iinc (pc := 38) S dX1_atFirst_38 rfl (by unfold zrI; omega) (by decide) ?_
      dsimp only [zst1, zst2, zset, zget, zlong]
      rw [e1]
      refine zr_goto (pc := 41) (tgt := 4) S dX1_atFirst_41 (by decide) ?_
      exact q
def sp_X1_atFirst (as : List zV) (M : zM) (Q : Option zV → zM → Prop) : Prop := as = [zR 65] ∧ (ICm M) ∧ Q (some (zI (cdU M 4 : Nat))) (M)
theorem us_X1_atFirst  {M : zM} {Q : Option zV → zM → Prop} (hm : ICm M) (h99 : Q (some (zI (cdU M 4 : Nat))) (M)) : sp_X1_atFirst [zR 65] M Q := ⟨rfl, hm, h99⟩
set_option maxRecDepth 20000 in
set_option maxHeartbeats 4000000 in
theorem m_X1_atFirst (l : Launch) : zC l yX1_atFirst wzX1_atFirst rmX1_atFirst sp_X1_atFirst := by
  refine zMet.of RX1 (by decide +kernel) rfl rfl ?_
  intro E X as M Qp hX S hsp
  obtain ⟨rfl, hm, hQ⟩ := hsp
  refine ⟨Nat.le_of_ble_eq_true rfl, ?_⟩
  dsimp only [zpad, zargs]
  have q := lp_X1_atFirst S hm hQ 4 0 (by omega)
  refine zr_iconst (pc := 0) S dX1_atFirst_0 (by unfold zrI; omega) ?_
  refine zr_istore_n (pc := 1) S 1 dX1_atFirst_1 rfl (by decide) ?_
  dsimp only [zst1, zst2, zset, zget, zlong]
  refine zr_iconst (pc := 2) S dX1_atFirst_2 (by unfold zrI; omega) ?_
  refine zr_istore_n (pc := 3) S 2 dX1_atFirst_3 rfl (by decide) ?_
  dsimp only [zst1, zst2, zset, zget, zlong]
  exact q
end
