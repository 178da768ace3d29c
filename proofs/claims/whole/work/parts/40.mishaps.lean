section
def cutA (od : Nat → Int) (set : Nat) : Nat → Int
  | 0 => 0
  | i + 1 => cutA od set i + (if set.testBit i = true then 0 else max 0 (od i))
def cutP (pa : Nat → Nat) (set : Nat) : Nat → Nat
  | 0 => 0
  | i + 1 => if set.testBit i = true then cutP pa set i ||| pa i else cutP pa set i
def cutB (od : Nat → Int) (ps : Nat) : Nat → Int
  | 0 => 0
  | k + 1 => cutB od ps k + (if ps.testBit k = true then max 0 (-od k) else 0)
def cutF (od : Nat → Int) (pa : Nat → Nat) (n set : Nat) : Int := cutA od set n + cutB od (cutP pa set n) n
theorem cutA_r {od : Nat → Int} {c : Int} {set N : Nat} (h : ∀ i, i < N → -c ≤ od i ∧ od i ≤ c) : ∀ n, n ≤ N → 0 ≤ cutA od set n ∧ cutA od set n ≤ c * n
  | 0, _ => by simp [cutA]
  | n + 1, hn => by
    have a := cutA_r (set := set) h n (by omega)
    have b := h n (by omega)
    have e : c * ((n + 1 : Nat) : Int) = c * n + c := by rw [Int.natCast_add, Int.mul_add]; simp
    simp only [cutA]
    split <;> omega
theorem cutB_r {od : Nat → Int} {c : Int} {ps N : Nat} (h : ∀ i, i < N → -c ≤ od i ∧ od i ≤ c) : ∀ n, n ≤ N → 0 ≤ cutB od ps n ∧ cutB od ps n ≤ c * n
  | 0, _ => by simp [cutB]
  | n + 1, hn => by
    have a := cutB_r (ps := ps) h n (by omega)
    have b := h n (by omega)
    have e : c * ((n + 1 : Nat) : Int) = c * n + c := by rw [Int.natCast_add, Int.mul_add]; simp
    simp only [cutB]
    split <;> omega
theorem cutP_lt {pa : Nat → Nat} {set N b : Nat} (h : ∀ i, i < N → pa i < 2 ^ b) : ∀ n, n ≤ N → cutP pa set n < 2 ^ b
  | 0, _ => by simp only [cutP]; exact Nat.two_pow_pos b
  | n + 1, hn => by
    have a := cutP_lt (set := set) h n (by omega)
    simp only [cutP]
    split
    · exact Nat.or_lt_two_pow a (h n (by omega))
    · exact a
def rmX3_cutOf : Room := { frames := 1, cells := 0, slots := 0, locals := 21 }
abbrev wzX3_cutOf : List Cond := .code yX3_cutOf cX3_cutOf 5 (some .int) :: zW
def rmX3_passingSet : Room := { frames := 3, cells := 0, slots := 0, locals := 75 }
abbrev wzX3_passingSet : List Cond := .code yX3_passingSet cX3_passingSet 4 (some .int) :: zW
theorem fX3_cutOf_18 : zfl wzX3_cutOf RX3 vwCl 18 3 0 := ⟨_, _, _, rfl, (fun w h => List.mem_cons_of_mem _ (zWuX3 w h)), by decide, List.mem_cons_of_mem _ (zWi_9 _ (List.mem_of_getElem? (i := 47) rfl))⟩
theorem fX3_cutOf_26 : zfl wzX3_cutOf RX3 vwCl 26 8 0 := ⟨_, _, _, rfl, (fun w h => List.mem_cons_of_mem _ (zWuX8 w h)), by decide, List.mem_cons_of_mem _ (zWi_9 _ (List.mem_of_getElem? (i := 49) rfl))⟩
theorem fX3_cutOf_32 : zfl wzX3_cutOf RX3 vwCl 32 7 0 := ⟨_, _, _, rfl, (fun w h => List.mem_cons_of_mem _ (zWuX7 w h)), by decide, List.mem_cons_of_mem _ (zWi_10 _ (List.mem_of_getElem? (i := 0) rfl))⟩
theorem fX3_cutOf_15 : zfl wzX3_cutOf RX3 vwCl 15 3 3 := ⟨_, _, _, rfl, (fun w h => List.mem_cons_of_mem _ (zWuX3 w h)), by decide, List.mem_cons_of_mem _ (zWi_9 _ (List.mem_of_getElem? (i := 46) rfl))⟩
theorem fX3_cutOf_9 : zfl wzX3_cutOf RX3 vwCl 9 3 2 := ⟨_, _, _, rfl, (fun w h => List.mem_cons_of_mem _ (zWuX3 w h)), by decide, List.mem_cons_of_mem _ (zWi_10 _ (List.mem_of_getElem? (i := 7) rfl))⟩
theorem kX3_cutOf_47 : zml_mmax wzX3_cutOf RX3 47 := ⟨List.mem_cons_of_mem _ (zWi_23 _ (List.mem_of_getElem? (i := 33) rfl)), List.mem_cons_of_mem _ (zWi_30 _ (List.mem_of_getElem? (i := 2) rfl)), List.mem_cons_of_mem _ (zWi_12 _ (List.mem_of_getElem? (i := 0) rfl)), List.mem_cons_of_mem _ (zWi_0 _ (List.mem_of_getElem? (i := 27) rfl))⟩
theorem fX3_passingSet_22 : zfl wzX3_passingSet RX3 vwCl 22 3 1 := ⟨_, _, _, rfl, (fun w h => List.mem_cons_of_mem _ (zWuX3 w h)), by decide, List.mem_cons_of_mem _ (zWi_9 _ (List.mem_of_getElem? (i := 48) rfl))⟩
theorem fX3_passingSet_18 : zfl wzX3_passingSet RX3 vwCl 18 3 0 := ⟨_, _, _, rfl, (fun w h => List.mem_cons_of_mem _ (zWuX3 w h)), by decide, List.mem_cons_of_mem _ (zWi_9 _ (List.mem_of_getElem? (i := 47) rfl))⟩
theorem fX3_passingSet_26 : zfl wzX3_passingSet RX3 vwCl 26 8 0 := ⟨_, _, _, rfl, (fun w h => List.mem_cons_of_mem _ (zWuX8 w h)), by decide, List.mem_cons_of_mem _ (zWi_9 _ (List.mem_of_getElem? (i := 49) rfl))⟩
theorem fX3_passingSet_32 : zfl wzX3_passingSet RX3 vwCl 32 7 0 := ⟨_, _, _, rfl, (fun w h => List.mem_cons_of_mem _ (zWuX7 w h)), by decide, List.mem_cons_of_mem _ (zWi_10 _ (List.mem_of_getElem? (i := 0) rfl))⟩
theorem fX3_passingSet_87 : zfl wzX3_passingSet RX3 vwCl 87 6 2 := ⟨_, _, _, rfl, (fun w h => List.mem_cons_of_mem _ (zWuX6 w h)), by decide, List.mem_cons_of_mem _ (zWi_10 _ (List.mem_of_getElem? (i := 6) rfl))⟩
theorem kX3_passingSet_83 : ∀ (s9 : State) (a9 : Array Value), (∀ w ∈ wzX3_passingSet, w.before a9 s9 = true) → CallW rmX3_passingSet s9 a9 RX3 RX6 83 yX6_tell cX6_tell 4 none wzX6_tell rmX6_tell 0 0 1 := zcV (zWi_23 _ (List.mem_of_getElem? (i := 39) rfl)) (zWi_16 _ (List.mem_of_getElem? (i := 40) rfl)) (zWi_29 _ (List.mem_of_getElem? (i := 17) rfl)) (zWi_12 _ (List.mem_of_getElem? (i := 18) rfl)) (zWi_5 _ (List.mem_of_getElem? (i := 24) rfl)) (by decide +kernel) rfl rfl ⟨Nat.le_of_ble_eq_true rfl, Nat.le_of_ble_eq_true rfl⟩
theorem lp_X3_cutOf_2 {E : zE} {X : zX} {Qp : Option zV → zM → Prop} {M : zM} {set ps n : Nat} {c a0 : Int} (S : zS (zg E) X cX3_cutOf 5 wzX3_cutOf RX3 (some .int)) (hn : M 2 0 = n) (hn8 : n ≤ 8) (hc : c ≤ 10000000) (ho : ∀ i, i < n → -c ≤ M 57 i ∧ M 57 i ≤ c) (hps : ps < 256) (ha : 0 ≤ a0 ∧ a0 ≤ c * 8) (hc0 : 0 ≤ c) (hQ : Qp (some (zI (a0 + cutB (M 57) ps n))) M) : ∀ (m i : Nat), m + i = n → zK (zg E) rmX3_cutOf 5 (Qp, 0, 0) X (0, 0) 68 [some (zR 56), some (zI set), some (zI (a0 + cutB (M 57) ps i)), some (zI ps), some (zI i)] [] M := by
  intro m
  induction m with
  | zero =>
    intro i hi
    have e : i = n := by omega
    subst e
    refine zr_iload (pc := 68) S dX3_cutOf_68 rfl ?_
    refine zr_aload_n (pc := 70) S dX3_cutOf_70 rfl ?_
    refine zr_getR (pc := 71) S fX3_cutOf_18 dX3_cutOf_71 rfl (Nat.le_of_ble_eq_true rfl) rfl ?_
    refine zr_getR (pc := 74) S fX3_cutOf_26 dX3_cutOf_74 rfl (Nat.le_of_ble_eq_true rfl) rfl ?_
    refine zr_getI (pc := 77) S fX3_cutOf_32 dX3_cutOf_77 rfl (Nat.le_of_ble_eq_true rfl) rfl ?_
    rw [hn]
    refine zr_icmp_ge (pc := 80) (tgt := 114) S dX3_cutOf_80 (by decide) (fun c80 => ?_) (fun c80 => absurd c80 (by omega))
    refine zr_iload_n (pc := 114) S dX3_cutOf_114 rfl ?_
    exact zr_iret (pc := 115) S dX3_cutOf_115 rfl ⟨Nat.le_refl _, Nat.le_refl _⟩ (hQ)
  | succ m ih =>
    intro i hi
    have e : (i : Int).toNat = i := Int.toNat_natCast i
    have o := ho i (by omega)
    have b := cutB_r (ps := ps) ho i (by omega)
    have hcm : c * (i : Int) ≤ c * 8 := Int.mul_le_mul_of_nonneg_left (by omega) hc0
    have t := tb_mod ps i
    have q := ih (i + 1) (by omega)
    simp only [cutB] at q
    rw [← Int.add_assoc] at q
    refine zr_iload (pc := 68) S dX3_cutOf_68 rfl ?_
    refine zr_aload_n (pc := 70) S dX3_cutOf_70 rfl ?_
    refine zr_getR (pc := 71) S fX3_cutOf_18 dX3_cutOf_71 rfl (Nat.le_of_ble_eq_true rfl) rfl ?_
    refine zr_getR (pc := 74) S fX3_cutOf_26 dX3_cutOf_74 rfl (Nat.le_of_ble_eq_true rfl) rfl ?_
    refine zr_getI (pc := 77) S fX3_cutOf_32 dX3_cutOf_77 rfl (Nat.le_of_ble_eq_true rfl) rfl ?_
    rw [hn]
    refine zr_icmp_ge (pc := 80) (tgt := 114) S dX3_cutOf_80 (by decide) (fun c80 => absurd c80 (by omega)) (fun c80 => ?_)
    refine zr_iload_n (pc := 83) S dX3_cutOf_83 rfl ?_
    refine zr_iload (pc := 84) S dX3_cutOf_84 rfl ?_
    refine zr_ishr (pc := 86) S dX3_cutOf_86 (by omega) (by omega) ?_
    rw [e]
    refine zr_iconst (pc := 87) S dX3_cutOf_87 (by unfold zrI; omega) ?_
    refine zr_iandm (pc := 88) S 1 dX3_cutOf_88 (by decide) rfl ?_
    refine zr_iconst (pc := 89) S dX3_cutOf_89 (by unfold zrI; omega) ?_
    refine zr_icmp_ne (pc := 90) (tgt := 108) S dX3_cutOf_90 (by decide) (fun c90 => ?_) (fun c90 => ?_)
    · have hb : ps.testBit i = false := by
        cases hq : ps.testBit i
        · rfl
        · exact absurd (t.mpr hq) c90
      simp only [hb, Bool.false_eq_true, if_false, Int.add_zero] at q
      refine zr_iinc (pc := 108) S dX3_cutOf_108 rfl (by unfold zrI; omega) (by decide) ?_
      dsimp only [zst1, zst2, zset, zget, zlong]
      refine zr_goto (pc := 111) (tgt := 68) S dX3_cutOf_111 (by decide) ?_
      exact q
    · have hb : ps.testBit i = true := t.mp c90
      simp only [hb, if_true] at q
      refine zr_iload_n (pc := 93) S dX3_cutOf_93 rfl ?_
      refine zr_iconst (pc := 94) S dX3_cutOf_94 (by unfold zrI; omega) ?_
      refine zr_aload_n (pc := 95) S dX3_cutOf_95 rfl ?_
      refine zr_getR (pc := 96) S fX3_cutOf_9 dX3_cutOf_96 rfl (Nat.le_of_ble_eq_true rfl) rfl ?_
      refine zr_iload (pc := 99) S dX3_cutOf_99 rfl ?_
      refine zr_iaload (pc := 101) S dX3_cutOf_101 rfl (Nat.le_of_ble_eq_true rfl) (by omega) (by omega) ?_
      rw [e]
      refine zr_ineg (pc := 102) S dX3_cutOf_102 (by unfold zrI; omega) ?_
      refine zr_mmax (pc := 103) S kX3_cutOf_47 dX3_cutOf_103 (Nat.le_of_ble_eq_true rfl) (Nat.le_of_ble_eq_true rfl) ⟨Nat.le_of_ble_eq_true rfl, Nat.le_of_ble_eq_true rfl⟩ ?_
      refine zr_iadd (pc := 106) S dX3_cutOf_106 (by unfold zrI; omega) ?_
      refine zr_istore_n (pc := 107) S 2 dX3_cutOf_107 rfl (by decide) ?_
      dsimp only [zst1, zst2, zset, zget, zlong]
      refine zr_iinc (pc := 108) S dX3_cutOf_108 rfl (by unfold zrI; omega) (by decide) ?_
      dsimp only [zst1, zst2, zset, zget, zlong]
      refine zr_goto (pc := 111) (tgt := 68) S dX3_cutOf_111 (by decide) ?_
      exact q
theorem lp_X3_cutOf_1 {E : zE} {X : zX} {Qp : Option zV → zM → Prop} {M : zM} {set n : Nat} {c : Int} (S : zS (zg E) X cX3_cutOf 5 wzX3_cutOf RX3 (some .int)) (hn : M 2 0 = n) (hn8 : n ≤ 8) (hc : c ≤ 10000000) (hc0 : 0 ≤ c) (ho : ∀ i, i < n → -c ≤ M 57 i ∧ M 57 i ≤ c) (hp : ∀ i, i < n → 0 ≤ M 58 i ∧ M 58 i < 256) (hQ : Qp (some (zI (cutF (M 57) (fun i => (M 58 i).toNat) n set))) M) : ∀ (m i : Nat), m + i = n → zK (zg E) rmX3_cutOf 5 (Qp, 0, 0) X (0, 0) 7 [some (zR 56), some (zI set), some (zI (cutA (M 57) set i)), some (zI (cutP (fun i => (M 58 i).toNat) set i : Nat)), some (zI i)] [] M := by
  have hpl : ∀ i, i < n → (fun i => (M 58 i).toNat) i < 2 ^ 8 := fun i hi => by
    have := hp i hi
    show (M 58 i).toNat < 256
    omega
  intro m
  induction m with
  | zero =>
    intro i hi
    have e : i = n := by omega
    subst e
    have a := cutA_r (set := set) ho i (Nat.le_refl _)
    have hcm : c * (i : Int) ≤ c * 8 := Int.mul_le_mul_of_nonneg_left (by omega) hc0
    have pl := cutP_lt (set := set) hpl i (Nat.le_refl _)
    unfold cutF at hQ
    have q := lp_X3_cutOf_2 S (set := set) hn hn8 hc ho pl ⟨a.1, by omega⟩ hc0 hQ i 0 (by omega)
    simp only [cutB, Int.add_zero] at q
    refine zr_iload (pc := 7) S dX3_cutOf_7 rfl ?_
    refine zr_aload_n (pc := 9) S dX3_cutOf_9 rfl ?_
    refine zr_getR (pc := 10) S fX3_cutOf_18 dX3_cutOf_10 rfl (Nat.le_of_ble_eq_true rfl) rfl ?_
    refine zr_getR (pc := 13) S fX3_cutOf_26 dX3_cutOf_13 rfl (Nat.le_of_ble_eq_true rfl) rfl ?_
    refine zr_getI (pc := 16) S fX3_cutOf_32 dX3_cutOf_16 rfl (Nat.le_of_ble_eq_true rfl) rfl ?_
    rw [hn]
    refine zr_icmp_ge (pc := 19) (tgt := 65) S dX3_cutOf_19 (by decide) (fun c19 => ?_) (fun c19 => absurd c19 (by omega))
    refine zr_iconst (pc := 65) S dX3_cutOf_65 (by unfold zrI; omega) ?_
    refine zr_istore (pc := 66) S dX3_cutOf_66 (by decide) ?_
    dsimp only [zst1, zst2, zset, zget, zlong]
    exact q
  | succ m ih =>
    intro i hi
    have e : (i : Int).toNat = i := Int.toNat_natCast i
    have o := ho i (by omega)
    have p := hp i (by omega)
    have a := cutA_r (set := set) ho i (by omega)
    have hcm : c * (i : Int) ≤ c * 8 := Int.mul_le_mul_of_nonneg_left (by omega) hc0
    have t := tb_mod set i
    have q := ih (i + 1) (by omega)
    simp only [cutA, cutP] at q
    refine zr_iload (pc := 7) S dX3_cutOf_7 rfl ?_
    refine zr_aload_n (pc := 9) S dX3_cutOf_9 rfl ?_
    refine zr_getR (pc := 10) S fX3_cutOf_18 dX3_cutOf_10 rfl (Nat.le_of_ble_eq_true rfl) rfl ?_
    refine zr_getR (pc := 13) S fX3_cutOf_26 dX3_cutOf_13 rfl (Nat.le_of_ble_eq_true rfl) rfl ?_
    refine zr_getI (pc := 16) S fX3_cutOf_32 dX3_cutOf_16 rfl (Nat.le_of_ble_eq_true rfl) rfl ?_
    rw [hn]
    refine zr_icmp_ge (pc := 19) (tgt := 65) S dX3_cutOf_19 (by decide) (fun c19 => absurd c19 (by omega)) (fun c19 => ?_)
    refine zr_iload_n (pc := 22) S dX3_cutOf_22 rfl ?_
    refine zr_iload (pc := 23) S dX3_cutOf_23 rfl ?_
    refine zr_ishr (pc := 25) S dX3_cutOf_25 (by omega) (by omega) ?_
    rw [e]
    refine zr_iconst (pc := 26) S dX3_cutOf_26 (by unfold zrI; omega) ?_
    refine zr_iandm (pc := 27) S 1 dX3_cutOf_27 (by decide) rfl ?_
    refine zr_iconst (pc := 28) S dX3_cutOf_28 (by unfold zrI; omega) ?_
    refine zr_icmp_ne (pc := 29) (tgt := 45) S dX3_cutOf_29 (by decide) (fun c29 => ?_) (fun c29 => ?_)
    · have hb : set.testBit i = false := by
        cases hq : set.testBit i
        · rfl
        · exact absurd (t.mpr hq) c29
      simp only [hb, Bool.false_eq_true, if_false] at q
      refine zr_iload_n (pc := 45) S dX3_cutOf_45 rfl ?_
      refine zr_iconst (pc := 46) S dX3_cutOf_46 (by unfold zrI; omega) ?_
      refine zr_aload_n (pc := 47) S dX3_cutOf_47 rfl ?_
      refine zr_getR (pc := 48) S fX3_cutOf_9 dX3_cutOf_48 rfl (Nat.le_of_ble_eq_true rfl) rfl ?_
      refine zr_iload (pc := 51) S dX3_cutOf_51 rfl ?_
      refine zr_iaload (pc := 53) S dX3_cutOf_53 rfl (Nat.le_of_ble_eq_true rfl) (by omega) (by omega) ?_
      rw [e]
      refine zr_mmax (pc := 54) S kX3_cutOf_47 dX3_cutOf_54 (Nat.le_of_ble_eq_true rfl) (Nat.le_of_ble_eq_true rfl) ⟨Nat.le_of_ble_eq_true rfl, Nat.le_of_ble_eq_true rfl⟩ ?_
      refine zr_iadd (pc := 57) S dX3_cutOf_57 (by unfold zrI; omega) ?_
      refine zr_istore_n (pc := 58) S 2 dX3_cutOf_58 rfl (by decide) ?_
      dsimp only [zst1, zst2, zset, zget, zlong]
      refine zr_iinc (pc := 59) S dX3_cutOf_59 rfl (by unfold zrI; omega) (by decide) ?_
      dsimp only [zst1, zst2, zset, zget, zlong]
      refine zr_goto (pc := 62) (tgt := 7) S dX3_cutOf_62 (by decide) ?_
      exact q
    · have hb : set.testBit i = true := t.mp c29
      simp only [hb, if_true, Int.add_zero] at q
      refine zr_iload_n (pc := 32) S dX3_cutOf_32 rfl ?_
      refine zr_aload_n (pc := 33) S dX3_cutOf_33 rfl ?_
      refine zr_getR (pc := 34) S fX3_cutOf_15 dX3_cutOf_34 rfl (Nat.le_of_ble_eq_true rfl) rfl ?_
      refine zr_iload (pc := 37) S dX3_cutOf_37 rfl ?_
      refine zr_iaload (pc := 39) S dX3_cutOf_39 rfl (Nat.le_of_ble_eq_true rfl) (by omega) (by omega) ?_
      rw [e]
      refine zr_ior (pc := 40) S dX3_cutOf_40 (by omega) (by omega) ?_
      rw [Int.toNat_natCast]
      refine zr_istore_n (pc := 41) S 3 dX3_cutOf_41 rfl (by decide) ?_
      dsimp only [zst1, zst2, zset, zget, zlong]
      refine zr_goto (pc := 42) (tgt := 59) S dX3_cutOf_42 (by decide) ?_
      refine zr_iinc (pc := 59) S dX3_cutOf_59 rfl (by unfold zrI; omega) (by decide) ?_
      dsimp only [zst1, zst2, zset, zget, zlong]
      refine zr_goto (pc := 62) (tgt := 7) S dX3_cutOf_62 (by decide) ?_
      exact q
def sp_X3_cutOf (as : List zV) (M : zM) (Q : Option zV → zM → Prop) : Prop := ∃ (set n : Nat) (c : Int), as = [zR 56, zI set] ∧ (M 2 0 = n) ∧ (n ≤ 8) ∧ (c ≤ 10000000) ∧ (0 ≤ c) ∧ (∀ i, i < n → -c ≤ M 57 i ∧ M 57 i ≤ c) ∧ (∀ i, i < n → 0 ≤ M 58 i ∧ M 58 i < 256) ∧ Q (some (zI (cutF (M 57) (fun i => (M 58 i).toNat) n set))) (M)
theorem us_X3_cutOf {set n : Nat} {c : Int} {M : zM} {Q : Option zV → zM → Prop} (hn : M 2 0 = n) (hn8 : n ≤ 8) (hc : c ≤ 10000000) (hc0 : 0 ≤ c) (ho : ∀ i, i < n → -c ≤ M 57 i ∧ M 57 i ≤ c) (hp : ∀ i, i < n → 0 ≤ M 58 i ∧ M 58 i < 256) (h99 : Q (some (zI (cutF (M 57) (fun i => (M 58 i).toNat) n set))) (M)) : sp_X3_cutOf [zR 56, zI set] M Q := ⟨set, n, c, rfl, hn, hn8, hc, hc0, ho, hp, h99⟩
set_option maxRecDepth 20000 in
set_option maxHeartbeats 4000000 in
theorem m_X3_cutOf (l : Launch) : zC l yX3_cutOf wzX3_cutOf rmX3_cutOf sp_X3_cutOf := by
  refine zMet.of RX3 (by decide +kernel) rfl rfl ?_
  intro E X as M Qp hX S hsp
  obtain ⟨set, n, c, rfl, hn, hn8, hc, hc0, ho, hp, hQ⟩ := hsp
  refine ⟨Nat.le_of_ble_eq_true rfl, ?_⟩
  dsimp only [zpad, zargs]
  have q := lp_X3_cutOf_1 S hn hn8 hc hc0 ho hp hQ n 0 (by omega)
  refine zr_iconst (pc := 0) S dX3_cutOf_0 (by unfold zrI; omega) ?_
  refine zr_istore_n (pc := 1) S 2 dX3_cutOf_1 rfl (by decide) ?_
  dsimp only [zst1, zst2, zset, zget, zlong]
  refine zr_iconst (pc := 2) S dX3_cutOf_2 (by unfold zrI; omega) ?_
  refine zr_istore_n (pc := 3) S 3 dX3_cutOf_3 rfl (by decide) ?_
  dsimp only [zst1, zst2, zset, zget, zlong]
  refine zr_iconst (pc := 4) S dX3_cutOf_4 (by unfold zrI; omega) ?_
  refine zr_istore (pc := 5) S dX3_cutOf_5 (by decide) ?_
  dsimp only [zst1, zst2, zset, zget, zlong]
  exact q
/-- as what a sort passes -/
def pstB (M : zM) (s : Int) (k : Nat) : Bool := decide (0 < cnt3 M s (k + 1))
def pst (M : zM) (s : Int) : Nat := bitsU (pstB M s) (M 2 0).toNat
theorem lp_X3_passingSet {E : zE} {X : zX} {Qp : Option zV → zM → Prop} {M N : zM} {s : Int} (S : zS (zg E) X cX3_passingSet 4 wzX3_passingSet RX3 (some .int)) (hs : ICs M) (hN : offS M N) (hT : ∀ o, o < 9 → N 48 o = cnt3 M s o) (hQ : Qp (some (zI (pst M s : Nat))) N) : ∀ (n k : Nat), (n : Int) + k = M 2 0 → zK (zg E) rmX3_passingSet 4 (Qp, 0, 0) X (0, 0) 12 [some (zR 56), some (zI s), some (zI (bitsU (pstB M s) k : Nat)), some (zI k)] [] N := by
  have h8 := hs.1
  have e2 := hN.ag 2 (by decide)
  intro n
  induction n with
  | zero =>
    intro k hk
    have e : k = (M 2 0).toNat := by omega
    have ev : ((bitsU (pstB M s) k : Nat) : Int) = (pst M s : Nat) := by unfold pst; rw [← e]
    refine zr_iload_n (pc := 12) S dX3_passingSet_12 rfl ?_
    refine zr_aload_n (pc := 13) S dX3_passingSet_13 rfl ?_
    refine zr_getR (pc := 14) S fX3_passingSet_18 dX3_passingSet_14 rfl (Nat.le_of_ble_eq_true rfl) rfl ?_
    refine zr_getR (pc := 17) S fX3_passingSet_26 dX3_passingSet_17 rfl (Nat.le_of_ble_eq_true rfl) rfl ?_
    refine zr_getI (pc := 20) S fX3_passingSet_32 dX3_passingSet_20 rfl (Nat.le_of_ble_eq_true rfl) rfl ?_
    rw [e2]
    refine zr_icmp_ge (pc := 23) (tgt := 54) S dX3_passingSet_23 (by decide) (fun c23 => ?_) (fun c23 => absurd c23 (by omega))
    refine zr_iload_n (pc := 54) S dX3_passingSet_54 rfl ?_
    exact zr_iret (pc := 55) S dX3_passingSet_55 rfl ⟨Nat.le_refl _, Nat.le_refl _⟩ (zqi hQ ev)
  | succ n ih =>
    intro k hk
    have ek : ((k : Int) + 1).toNat = k + 1 := by omega
    have e : (k : Int).toNat = k := Int.toNat_natCast k
    have et := hT (k + 1) (by omega)
    have hl2 : (2 : Int) ^ k ≤ 128 := by
      have : 2 ^ k ≤ 2 ^ 7 := Nat.pow_le_pow_right (by omega) (by omega)
      have e2 : ((2 ^ k : Nat) : Int) = (2 : Int) ^ k := by simp
      omega
    have hl3 : (0 : Int) < 2 ^ k := Int.pow_pos (by omega)
    have e5 : (1 * (2 : Int) ^ k).toNat = 2 ^ k := by
      have e2 : ((2 ^ k : Nat) : Int) = (2 : Int) ^ k := by simp
      omega
    have q := ih (k + 1) (by omega)
    simp only [bitsU] at q
    refine zr_iload_n (pc := 12) S dX3_passingSet_12 rfl ?_
    refine zr_aload_n (pc := 13) S dX3_passingSet_13 rfl ?_
    refine zr_getR (pc := 14) S fX3_passingSet_18 dX3_passingSet_14 rfl (Nat.le_of_ble_eq_true rfl) rfl ?_
    refine zr_getR (pc := 17) S fX3_passingSet_26 dX3_passingSet_17 rfl (Nat.le_of_ble_eq_true rfl) rfl ?_
    refine zr_getI (pc := 20) S fX3_passingSet_32 dX3_passingSet_20 rfl (Nat.le_of_ble_eq_true rfl) rfl ?_
    rw [e2]
    refine zr_icmp_ge (pc := 23) (tgt := 54) S dX3_passingSet_23 (by decide) (fun c23 => absurd c23 (by omega)) (fun c23 => ?_)
    refine zr_aload_n (pc := 26) S dX3_passingSet_26 rfl ?_
    refine zr_getR (pc := 27) S fX3_passingSet_22 dX3_passingSet_27 rfl (Nat.le_of_ble_eq_true rfl) rfl ?_
    refine zr_getR (pc := 30) S fX3_passingSet_87 dX3_passingSet_30 rfl (Nat.le_of_ble_eq_true rfl) rfl ?_
    refine zr_iload_n (pc := 33) S dX3_passingSet_33 rfl ?_
    refine zr_iconst (pc := 34) S dX3_passingSet_34 (by unfold zrI; omega) ?_
    refine zr_iadd (pc := 35) S dX3_passingSet_35 (by unfold zrI; omega) ?_
    refine zr_laload (pc := 36) S dX3_passingSet_36 rfl (Nat.le_of_ble_eq_true rfl) (by omega) (by omega) ?_
    rw [ek, et]
    refine zr_lconst0 (pc := 37) S dX3_passingSet_37 ?_
    refine zr_lcmp_le (pc := 38) (tgt := 48) S dX3_passingSet_38 dX3_passingSet_39 (by decide) (fun c38 => ?_) (fun c38 => ?_)
    · have hb : pstB M s k = false := by unfold pstB; rw [decide_eq_false (by omega)]
      simp only [hb, Bool.false_eq_true, if_false] at q
      refine zr_iinc (pc := 48) S dX3_passingSet_48 rfl (by unfold zrI; omega) (by decide) ?_
      dsimp only [zst1, zst2, zset, zget, zlong]
      refine zr_goto (pc := 51) (tgt := 12) S dX3_passingSet_51 (by decide) ?_
      exact q
    · have hb : pstB M s k = true := by unfold pstB; rw [decide_eq_true c38]
      simp only [hb, if_true] at q
      refine zr_iload_n (pc := 42) S dX3_passingSet_42 rfl ?_
      refine zr_iconst (pc := 43) S dX3_passingSet_43 (by unfold zrI; omega) ?_
      refine zr_iload_n (pc := 44) S dX3_passingSet_44 rfl ?_
      refine zr_ishl (pc := 45) S dX3_passingSet_45 (by decide) (by omega) (by omega) (by rw [e]; omega) ?_
      rw [e]
      refine zr_ior (pc := 46) S dX3_passingSet_46 (by omega) (by omega) ?_
      rw [e5, Int.toNat_natCast]
      refine zr_istore_n (pc := 47) S 2 dX3_passingSet_47 rfl (by decide) ?_
      dsimp only [zst1, zst2, zset, zget, zlong]
      refine zr_iinc (pc := 48) S dX3_passingSet_48 rfl (by unfold zrI; omega) (by decide) ?_
      dsimp only [zst1, zst2, zset, zget, zlong]
      refine zr_goto (pc := 51) (tgt := 12) S dX3_passingSet_51 (by decide) ?_
      exact q
def sp_X3_passingSet (as : List zV) (M : zM) (Q : Option zV → zM → Prop) : Prop := ∃ (s : Int), as = [zR 56, zI s] ∧ (ICg M) ∧ (ICs M) ∧ (0 ≤ s) ∧ (s < 8) ∧ (lrnd M) ∧ (∀ (r : Option zV) (M' : zM), (r = some (zI (pst M s : Nat)) ∧ offS M M') → Q r M')
theorem us_X3_passingSet {s : Int} {M : zM} {Q : Option zV → zM → Prop} (hg : ICg M) (hs : ICs M) (h0 : 0 ≤ s) (h1 : s < 8) (hl : lrnd M) (h99 : (∀ (r : Option zV) (M' : zM), (r = some (zI (pst M s : Nat)) ∧ offS M M') → Q r M')) : sp_X3_passingSet [zR 56, zI s] M Q := ⟨s, rfl, hg, hs, h0, h1, hl, h99⟩
set_option maxRecDepth 20000 in
set_option maxHeartbeats 4000000 in
theorem m_X3_passingSet (l : Launch) : zC l yX3_passingSet wzX3_passingSet rmX3_passingSet sp_X3_passingSet := by
  refine zMet.of RX3 (by decide +kernel) rfl rfl ?_
  intro E X as M Qp hX S hsp
  obtain ⟨s, rfl, hg, hs, h0, h1, hl, hQ⟩ := hsp
  refine ⟨Nat.le_of_ble_eq_true rfl, ?_⟩
  dsimp only [zpad, zargs]
  have h8 := hs.1
  refine zr_aload_n (pc := 0) S dX3_passingSet_0 rfl ?_
  refine zr_getR (pc := 1) S fX3_passingSet_22 dX3_passingSet_1 rfl (Nat.le_of_ble_eq_true rfl) rfl ?_
  refine zr_iload_n (pc := 4) S dX3_passingSet_4 rfl ?_
  refine zr_invV (pc := 5) S [zI _] (m_X6_tell _) kX3_passingSet_83 dX3_passingSet_5 rfl (Nat.le_of_ble_eq_true rfl) rfl (Nat.le_of_ble_eq_true rfl) ⟨Nat.le_of_ble_eq_true rfl, Nat.le_of_ble_eq_true rfl⟩ (us_X6_tell hg hs h0 h1 hl ?_)
  dsimp only [zaft, Option.toList, List.cons_append, List.nil_append, Nat.add_zero]
  rintro r N ⟨rfl, hN, hT⟩
  dsimp only [zaft, Option.toList, List.nil_append]
  refine zr_iconst (pc := 8) S dX3_passingSet_8 (by unfold zrI; omega) ?_
  refine zr_istore_n (pc := 9) S 2 dX3_passingSet_9 rfl (by decide) ?_
  dsimp only [zst1, zst2, zset, zget, zlong]
  refine zr_iconst (pc := 10) S dX3_passingSet_10 (by unfold zrI; omega) ?_
  refine zr_istore_n (pc := 11) S 3 dX3_passingSet_11 rfl (by decide) ?_
  dsimp only [zst1, zst2, zset, zget, zlong]
  exact lp_X3_passingSet S hs hN hT (hQ _ _ ⟨rfl, hN⟩) (M 2 0).toNat 0 (by omega)
end
