section
/-- but for the tally and the passing sets, the same memory -/
def offU (M T : zM) : Prop := ∀ k, k ≠ 187 → k ≠ 186 → k ≠ 193 → T k = M k
theorem offU.y {M T : zM} (h : offU M T) : offY M T := fun k hk => h k (by omega) (by omega) (by omega)
theorem sg0 {E : zE} {X : zX} {Qp : Option zV → zM → Prop} {T V : zM} {n s : Nat} {u4 u5 u6 : Option zV} (S : zS (zg E) X cX12_slugs 7 wzX12_slugs RX12 (some .int)) (hn8 : n ≤ 8) (hs8 : s < 8) (hG : ∀ k, k < 8 → T 187 k = cnt3 V s (k + 1))
    (kk : ∀ P : Nat → Int, (∀ j, j ≠ s → P j = T 193 j) → P s = (bitsU (pstB V s) n : Nat) → zK (zg E) rmX12_slugs 7 (Qp, 0, 0) X (0, 0) 78 [some (zR 180), some (zI n), some (zI s), some (zI n), u4, u5, u6] [] (zrow T 193 P)) : ∀ (r k : Nat) (P : Nat → Int), r + k = n → (∀ j, j ≠ s → P j = T 193 j) → P s = (bitsU (pstB V s) k : Nat) → zK (zg E) rmX12_slugs 7 (Qp, 0, 0) X (0, 0) 40 [some (zR 180), some (zI n), some (zI s), some (zI k), u4, u5, u6] [] (zrow T 193 P) := by
  intro r
  induction r with
  | zero =>
    intro k P hk h1 h2
    obtain rfl : k = n := by omega
    have l := kk P h1 h2
    refine zr_iload_n (pc := 40) S dX12_slugs_40 rfl ?_
    refine zr_iload_n (pc := 41) S dX12_slugs_41 rfl ?_
    refine zr_icmp_ge (pc := 42) (tgt := 78) S dX12_slugs_42 (by decide) (fun c42 => ?_) (fun c42 => absurd c42 (by omega))
    exact l
  | succ r ih =>
    intro k P hk h1 h2
    have e : (k : Int).toNat = k := Int.toNat_natCast k
    have es : (s : Int).toNat = s := Int.toNat_natCast s
    have eg : zrow T 193 P 187 k = cnt3 V s (k + 1) := by rw [zrow_o (by decide), hG k (by omega)]
    have ep : zrow T 193 P 193 s = (bitsU (pstB V s) k : Nat) := by rw [zrow_e, h2]
    have hl2 : (2 : Int) ^ k ≤ 128 := by
      have : 2 ^ k ≤ 2 ^ 7 := Nat.pow_le_pow_right (by omega) (by omega)
      have e2 : ((2 ^ k : Nat) : Int) = (2 : Int) ^ k := by simp
      omega
    have hl3 : (0 : Int) < 2 ^ k := Int.pow_pos (by omega)
    have e5 : (1 * (2 : Int) ^ k).toNat = 2 ^ k := by
      have e2 : ((2 ^ k : Nat) : Int) = (2 : Int) ^ k := by simp
      omega
    have l := ih (k + 1) (rUp P s (bitsU (pstB V s) (k + 1) : Nat)) (by omega) (fun j hj => by rw [rUp_o hj]; exact h1 j hj) rUp_e
    rw [Int.natCast_add, Int.natCast_one] at l
    simp only [bitsU] at l
    have o0 : ((((bitsU (pstB V s) k : Nat) : Int).toNat ||| (0 : Int).toNat : Nat) : Int) = (bitsU (pstB V s) k : Nat) := by rw [Int.toNat_natCast]; simp
    refine zr_iload_n (pc := 40) S dX12_slugs_40 rfl ?_
    refine zr_iload_n (pc := 41) S dX12_slugs_41 rfl ?_
    refine zr_icmp_ge (pc := 42) (tgt := 78) S dX12_slugs_42 (by decide) (fun c42 => absurd c42 (by omega)) (fun c42 => ?_)
    refine zr_aload_n (pc := 45) S dX12_slugs_45 rfl ?_
    refine zr_getR (pc := 46) S fX12_slugs_56 dX12_slugs_46 rfl (Nat.le_of_ble_eq_true rfl) rfl ?_
    refine zr_iload_n (pc := 49) S dX12_slugs_49 rfl ?_
    refine zr_dup2 (pc := 50) S dX12_slugs_50 rfl rfl ?_
    refine zr_iaload (pc := 51) S dX12_slugs_51 rfl (Nat.le_of_ble_eq_true rfl) (by omega) (by omega) ?_
    rw [es, ep]
    refine zr_aload_n (pc := 52) S dX12_slugs_52 rfl ?_
    refine zr_getR (pc := 53) S fX12_slugs_36 dX12_slugs_53 rfl (Nat.le_of_ble_eq_true rfl) rfl ?_
    refine zr_iload_n (pc := 56) S dX12_slugs_56 rfl ?_
    refine zr_laload (pc := 57) S dX12_slugs_57 rfl (Nat.le_of_ble_eq_true rfl) (by omega) (by omega) ?_
    rw [e, eg]
    refine zr_lconst0 (pc := 58) S dX12_slugs_58 ?_
    refine zr_lcmp_le (pc := 59) (tgt := 69) S dX12_slugs_59 dX12_slugs_60 (by decide) (fun c59 => ?_) (fun c59 => ?_)
    · have hb : pstB V s k = false := by unfold pstB; rw [decide_eq_false (by omega)]
      simp only [hb, Bool.false_eq_true, if_false] at l
      refine zr_iconst (pc := 69) S dX12_slugs_69 (by unfold zrI; omega) ?_
      refine zr_ior (pc := 70) S dX12_slugs_70 (by omega) (by omega) ?_
      first | rw [o0] | rw [e5, Int.toNat_natCast]
      refine zr_iastore (pc := 71) S dX12_slugs_71 rfl (Nat.le_of_ble_eq_true rfl) (by omega) (by omega) ?_
      rw [es, zrow_up]
      refine zr_iinc (pc := 72) S dX12_slugs_72 rfl (by unfold zrI; omega) (by decide) ?_
      dsimp only [zst1, zst2, zset, zget, zlong]
      refine zr_goto (pc := 75) (tgt := 40) S dX12_slugs_75 (by decide) ?_
      exact l
    · have hb : pstB V s k = true := by unfold pstB; rw [decide_eq_true c59]
      simp only [hb, if_true] at l
      refine zr_iconst (pc := 63) S dX12_slugs_63 (by unfold zrI; omega) ?_
      refine zr_iload_n (pc := 64) S dX12_slugs_64 rfl ?_
      refine zr_ishl (pc := 65) S dX12_slugs_65 (by decide) (by omega) (by omega) (by rw [e]; omega) ?_
      rw [e]
      refine zr_goto (pc := 66) (tgt := 70) S dX12_slugs_66 (by decide) ?_
      refine zr_ior (pc := 70) S dX12_slugs_70 (by omega) (by omega) ?_
      first | rw [o0] | rw [e5, Int.toNat_natCast]
      refine zr_iastore (pc := 71) S dX12_slugs_71 rfl (Nat.le_of_ble_eq_true rfl) (by omega) (by omega) ?_
      rw [es, zrow_up]
      refine zr_iinc (pc := 72) S dX12_slugs_72 rfl (by unfold zrI; omega) (by decide) ?_
      dsimp only [zst1, zst2, zset, zget, zlong]
      refine zr_goto (pc := 75) (tgt := 40) S dX12_slugs_75 (by decide) ?_
      exact l
theorem sg1 {E : zE} {X : zX} {Qp : Option zV → zM → Prop} {M : zM} {n : Nat} {c : Int} (S : zS (zg E) X cX12_slugs 7 wzX12_slugs RX12 (some .int)) (hn : M 181 0 = n) (hs : ICs (vm M)) (hg : ICg (vm M)) (hk : ICk (M 181)) (hm : M 180 16 = -1) (hc : 16 * c ≤ 1000000) (hc0 : 0 ≤ c) (ho : ∀ i, i < n → -c ≤ M 192 i ∧ M 192 i ≤ c)
    (hQ : ∀ T, offU M T → Qp (some (zI (minU (cutF (M 192) (paV (vm M) (M 192)) n) (2 ^ n - 1)))) T) : ∀ (r i : Nat) (T : zM) (u3 u4 u5 u6 : Option zV), r + i = n → offU M T → (∀ j, j < i → T 193 j = (paV (vm M) (M 192) j : Nat)) → zK (zg E) rmX12_slugs 7 (Qp, 0, 0) X (0, 0) 9 [some (zR 180), some (zI n), some (zI i), u3, u4, u5, u6] [] T := by
  have t8 : 0 ≤ M 181 0 ∧ M 181 0 ≤ 8 := hs.1
  intro r
  induction r with
  | zero =>
    intro i T u3 u4 u5 u6 hi hT hp
    obtain rfl : i = n := by omega
    have eo : T 192 = M 192 := hT _ (by decide) (by decide) (by decide)
    have l := fun u4 u5 u6 => sg2 (E := E) (X := X) (Qp := Qp) (N := T) (od := M 192) (pa := paV (vm M) (M 192)) (n := i) (c := c) S (by omega) hc hc0 (fun j hj => ⟨by rw [eo], ho j hj⟩) (fun j hj => ⟨hp j hj, paV_lt hs _ _⟩) (hQ T hT) (2 ^ i) 0 u4 u5 u6 (by omega)
    simp only [lm] at l
    refine zr_iload_n (pc := 9) S dX12_slugs_9 rfl ?_
    refine zr_iload_n (pc := 10) S dX12_slugs_10 rfl ?_
    refine zr_icmp_ge (pc := 11) (tgt := 84) S dX12_slugs_11 (by decide) (fun c11 => ?_) (fun c11 => absurd c11 (by omega))
    refine zr_ldcw (pc := 84) S (1000000) dX12_slugs_84 (List.mem_cons_of_mem _ (zWi_6 _ (List.mem_of_getElem? (i := 49) rfl))) (by unfold zrI; omega) ?_
    refine zr_istore_n (pc := 87) S 2 dX12_slugs_87 rfl (by decide) ?_
    dsimp only [zst1, zst2, zset, zget, zlong]
    refine zr_iconst (pc := 88) S dX12_slugs_88 (by unfold zrI; omega) ?_
    refine zr_istore_n (pc := 89) S 3 dX12_slugs_89 rfl (by decide) ?_
    dsimp only [zst1, zst2, zset, zget, zlong]
    exact l _ _ _
  | succ r ih =>
    intro i T u3 u4 u5 u6 hi hT hp
    have ei : (i : Int).toNat = i := Int.toNat_natCast i
    have l := fun T hT hp u3 u4 u5 u6 => ih (i + 1) T u3 u4 u5 u6 (by omega) hT hp
    rw [Int.natCast_add, Int.natCast_one] at l
    have hT1 : offU M (zup T 193 i 0) := fun k k1 k2 k3 => by rw [zup_o k k3]; exact hT k k1 k2 k3
    have eo : zup T 193 i 0 192 = M 192 := hT1 _ (by decide) (by decide) (by decide)
    have hp1 : ∀ j, j < i → zup T 193 i 0 193 j = (paV (vm M) (M 192) j : Nat) := fun j hj => by rw [zup_j (by omega)]; exact hp j hj
    have z1 : zup T 193 i 0 193 i = 0 := zup_e
    generalize hz : zup T 193 i 0 = T1 at *
    by_cases c : 0 < M 192 i
    · have ep : paV (vm M) (M 192) i = bitsU (pstB (vm M) i) n := by
        unfold paV
        rw [if_pos c]
        unfold pst
        rw [vm_many, hn, Int.toNat_natCast]
      have ag1 := (hT1.y).ag
      have em : T1 180 = M 180 := hT1 _ (by decide) (by decide) (by decide)
      have et : T1 181 = M 181 := hT1 _ (by decide) (by decide) (by decide)
      have e0 : vv T1 = vm T1 := vv_0 (by rw [em]; exact hm)
      have kk : ∀ G R : Nat → Int, (∀ k, k < 9 → G k = cnt3 (vv T1) i (ocG k)) → zK (zg E) rmX12_slugs 7 (Qp, 0, 0) X (0, 0) 38 [some (zR 180), some (zI n), some (zI i), u3, u4, u5, u6] [] (TM T1 G R) := by
        intro G R hG
        have l0 := sg0 (E := E) (X := X) (Qp := Qp) (T := TM T1 G R) (V := vm M) (n := n) (s := i) (u4 := u4) (u5 := u5) (u6 := u6) S (by omega) (by omega) (fun k hk => by rw [TM_g, hG k (by omega), e0, ag_cnt3 ag1]; unfold ocG; rw [if_neg (by omega)]) (fun P h1 h2 => by
          have l2 := l (zrow (TM T1 G R) 193 P) (fun k k1 k2 k3 => by rw [zrow_o k3, TM_o ⟨k1, k2⟩]; exact hT1 k k1 k2 k3) (fun j hj => by
            rw [zrow_e]
            by_cases e : j = i
            · rw [e, h2, ep]
            · rw [h1 j e, TM_o (by decide)]; exact hp1 j (by omega)) (some (zI n)) u4 u5 u6
          refine zr_iinc (pc := 78) S dX12_slugs_78 rfl (by unfold zrI; omega) (by decide) ?_
          dsimp only [zst1, zst2, zset, zget, zlong]
          refine zr_goto (pc := 81) (tgt := 9) S dX12_slugs_81 (by decide) ?_
          exact l2) n 0 (TM T1 G R 193) (by omega) (fun _ _ => rfl) (by rw [TM_o (by decide), z1]; rfl)
        rw [zrow_s] at l0
        refine zr_iconst (pc := 38) S dX12_slugs_38 (by unfold zrI; omega) ?_
        refine zr_istore_n (pc := 39) S 3 dX12_slugs_39 rfl (by decide) ?_
        dsimp only [zst1, zst2, zset, zget, zlong]
        exact l0
      refine zr_iload_n (pc := 9) S dX12_slugs_9 rfl ?_
      refine zr_iload_n (pc := 10) S dX12_slugs_10 rfl ?_
      refine zr_icmp_ge (pc := 11) (tgt := 84) S dX12_slugs_11 (by decide) (fun c11 => absurd c11 (by omega)) (fun c11 => ?_)
      refine zr_aload_n (pc := 14) S dX12_slugs_14 rfl ?_
      refine zr_getR (pc := 15) S fX12_slugs_56 dX12_slugs_15 rfl (Nat.le_of_ble_eq_true rfl) rfl ?_
      refine zr_iload_n (pc := 18) S dX12_slugs_18 rfl ?_
      refine zr_iconst (pc := 19) S dX12_slugs_19 (by unfold zrI; omega) ?_
      refine zr_iastore (pc := 20) S dX12_slugs_20 rfl (Nat.le_of_ble_eq_true rfl) (by omega) (by omega) ?_
      rw [ei, hz]
      refine zr_aload_n (pc := 21) S dX12_slugs_21 rfl ?_
      refine zr_getR (pc := 22) S fX12_slugs_53 dX12_slugs_22 rfl (Nat.le_of_ble_eq_true rfl) rfl ?_
      try simp only [zup_k, zup_e, ne_eq, Nat.reduceEqDiff, not_false_eq_true, zup_j]
      refine zr_iload_n (pc := 25) S dX12_slugs_25 rfl ?_
      refine zr_iaload (pc := 26) S dX12_slugs_26 rfl (Nat.le_of_ble_eq_true rfl) (by omega) (by omega) ?_
      try simp only [zup_k, zup_e, ne_eq, Nat.reduceEqDiff, not_false_eq_true]
      rw [ei, eo]
      refine zr_if_gt (pc := 27) (tgt := 33) S dX12_slugs_27 (by decide) (fun c27 => ?_) (fun c27 => absurd c27 (by omega))
      refine zr_aload_n (pc := 33) S dX12_slugs_33 rfl ?_
      refine zr_iload_n (pc := 34) S dX12_slugs_34 rfl ?_
      refine zr_invV (pc := 35) S [zI _] (m_X12_tally _) kX12_slugs_261 dX12_slugs_35 rfl (Nat.le_of_ble_eq_true rfl) rfl (Nat.le_of_ble_eq_true rfl) ⟨Nat.le_of_ble_eq_true rfl, Nat.le_of_ble_eq_true rfl⟩ (us_X12_tally (ag1.s hs) (by rw [e0]; exact ag1.g hg) (by rw [et]; exact hk) (by rw [em, hm]; decide) (by omega) (by omega) ?_)
      dsimp only [zaft, Option.toList, List.cons_append, List.nil_append, Nat.add_zero]
      intro G R hG
      exact kk G R hG
    · have ep : paV (vm M) (M 192) i = 0 := by unfold paV; rw [if_neg c]
      have l2 := l T1 hT1 (fun j hj => by
        by_cases e : j = i
        · rw [e, z1, ep]; rfl
        · exact hp1 j (by omega)) u3 u4 u5 u6
      refine zr_iload_n (pc := 9) S dX12_slugs_9 rfl ?_
      refine zr_iload_n (pc := 10) S dX12_slugs_10 rfl ?_
      refine zr_icmp_ge (pc := 11) (tgt := 84) S dX12_slugs_11 (by decide) (fun c11 => absurd c11 (by omega)) (fun c11 => ?_)
      refine zr_aload_n (pc := 14) S dX12_slugs_14 rfl ?_
      refine zr_getR (pc := 15) S fX12_slugs_56 dX12_slugs_15 rfl (Nat.le_of_ble_eq_true rfl) rfl ?_
      refine zr_iload_n (pc := 18) S dX12_slugs_18 rfl ?_
      refine zr_iconst (pc := 19) S dX12_slugs_19 (by unfold zrI; omega) ?_
      refine zr_iastore (pc := 20) S dX12_slugs_20 rfl (Nat.le_of_ble_eq_true rfl) (by omega) (by omega) ?_
      rw [ei, hz]
      refine zr_aload_n (pc := 21) S dX12_slugs_21 rfl ?_
      refine zr_getR (pc := 22) S fX12_slugs_53 dX12_slugs_22 rfl (Nat.le_of_ble_eq_true rfl) rfl ?_
      try simp only [zup_k, zup_e, ne_eq, Nat.reduceEqDiff, not_false_eq_true, zup_j]
      refine zr_iload_n (pc := 25) S dX12_slugs_25 rfl ?_
      refine zr_iaload (pc := 26) S dX12_slugs_26 rfl (Nat.le_of_ble_eq_true rfl) (by omega) (by omega) ?_
      try simp only [zup_k, zup_e, ne_eq, Nat.reduceEqDiff, not_false_eq_true]
      rw [ei, eo]
      refine zr_if_gt (pc := 27) (tgt := 33) S dX12_slugs_27 (by decide) (fun c27 => absurd c27 (by omega)) (fun c27 => ?_)
      refine zr_goto (pc := 30) (tgt := 78) S dX12_slugs_30 (by decide) ?_
      refine zr_iinc (pc := 78) S dX12_slugs_78 rfl (by unfold zrI; omega) (by decide) ?_
      dsimp only [zst1, zst2, zset, zget, zlong]
      refine zr_goto (pc := 81) (tgt := 9) S dX12_slugs_81 (by decide) ?_
      exact l2
def sp_X12_slugs (as : List zV) (M : zM) (Q : Option zV → zM → Prop) : Prop := ∃ (n : Nat) (c : Int), as = [zR 180] ∧ (M 181 0 = n) ∧ (ICs (vm M)) ∧ (ICg (vm M)) ∧ (ICk (M 181)) ∧ (M 180 16 = -1) ∧ (16 * c ≤ 1000000) ∧ (0 ≤ c) ∧ (∀ i, i < n → -c ≤ M 192 i ∧ M 192 i ≤ c) ∧ (∀ T, offU M T → Q (some (zI (minU (cutF (M 192) (paV (vm M) (M 192)) n) (2 ^ n - 1)))) T)
theorem us_X12_slugs {n : Nat} {c : Int} {M : zM} {Q : Option zV → zM → Prop} (hn : M 181 0 = n) (hs : ICs (vm M)) (hg : ICg (vm M)) (hk : ICk (M 181)) (hm : M 180 16 = -1) (hc : 16 * c ≤ 1000000) (hc0 : 0 ≤ c) (ho : ∀ i, i < n → -c ≤ M 192 i ∧ M 192 i ≤ c) (hQ : ∀ T, offU M T → Q (some (zI (minU (cutF (M 192) (paV (vm M) (M 192)) n) (2 ^ n - 1)))) T) : sp_X12_slugs [zR 180] M Q := ⟨n, c, rfl, hn, hs, hg, hk, hm, hc, hc0, ho, hQ⟩
set_option maxRecDepth 20000 in
set_option maxHeartbeats 4000000 in
theorem m_X12_slugs (l : Launch) : zC l yX12_slugs wzX12_slugs rmX12_slugs sp_X12_slugs := by
  refine zMet.of RX12 (by decide +kernel) rfl rfl ?_
  intro E X as M Qp hX S hsp
  obtain ⟨n, c, rfl, hn, hs, hg, hk, hm, hc, hc0, ho, hQ⟩ := hsp
  refine ⟨Nat.le_of_ble_eq_true rfl, ?_⟩
  dsimp only [zpad, zargs]
  have l := fun u3 u4 u5 u6 => sg1 (E := E) (X := X) (Qp := Qp) (M := M) (n := n) (c := c) S hn hs hg hk hm hc hc0 ho hQ n 0 M u3 u4 u5 u6 (by omega) (fun _ _ _ _ => rfl) (fun j hj => absurd hj (by omega))
  refine zr_aload_n (pc := 0) S dX12_slugs_0 rfl ?_
  refine zr_getR (pc := 1) S fX12_slugs_9 dX12_slugs_1 rfl (Nat.le_of_ble_eq_true rfl) rfl ?_
  refine zr_iconst (pc := 4) S dX12_slugs_4 (by unfold zrI; omega) ?_
  refine zr_iaload (pc := 5) S dX12_slugs_5 rfl (Nat.le_of_ble_eq_true rfl) (by omega) (by omega) ?_
  dsimp only [Int.reduceToNat]
  rw [hn]
  refine zr_istore_n (pc := 6) S 1 dX12_slugs_6 rfl (by decide) ?_
  dsimp only [zst1, zst2, zset, zget, zlong]
  refine zr_iconst (pc := 7) S dX12_slugs_7 (by unfold zrI; omega) ?_
  refine zr_istore_n (pc := 8) S 2 dX12_slugs_8 rfl (by decide) ?_
  dsimp only [zst1, zst2, zset, zget, zlong]
  exact l _ _ _ _
end
