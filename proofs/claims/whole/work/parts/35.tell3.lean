section
/-- the nested loops of tell: T is the memory then, N that behind the stretches -/
theorem lp_X6_tell_j {E : zE} {X : zX} {Qp : Option zV → zM → Prop} {M N : zM} {s : Int} {c0 c1 c2 : Nat} {i : Nat} (S : zS (zg E) X cX6_tell 4 wzX6_tell RX6 none) (hg : ICg M) (h0 : blk M N s 0 c0) (h1 : blk M N s 1 c1) (h2 : blk M N s 2 c2) (hl : ∀ n, n < 2 ^ (M 11 0).toNat → N 49 n = gl M n) (hi : i < c0) (hk : ∀ T : zM, (∀ k, k ≠ 48 → T k = N k) → (∀ o, T 48 o = N 48 o + rowI N c1 c2 o i + N 52 i * rowJ N c2 o i c1) → (∀ o, o < 9 → 0 ≤ T 48 o ∧ T 48 o ≤ 17000000 * (17 * i + 17)) → zK (zg E) rmX6_tell 4 (Qp, 0, 0) X (0, 0) 110 [some (zR 47), some (zI s), some (zI i), some (zI (17 + c1 : Nat))] [] T) : ∀ (m j : Nat) (T : zM), m + j = c1 → (∀ k, k ≠ 48 → T k = N k) → (∀ o, T 48 o = N 48 o + rowI N c1 c2 o i + N 52 i * rowJ N c2 o i j) → (∀ o, o < 9 → 0 ≤ T 48 o ∧ T 48 o ≤ 17000000 * (17 * i + j)) → zK (zg E) rmX6_tell 4 (Qp, 0, 0) X (0, 0) 59 [some (zR 47), some (zI s), some (zI i), some (zI (17 + j : Nat))] [] T := by
  have hc0 := h0.2.1
  have hc1 := h1.2.1
  have hc2 := h2.2.1
  have h8 := hg.1
  have hp : 2 ^ (M 11 0).toNat ≤ 256 := by
    have : 2 ^ (M 11 0).toNat ≤ 2 ^ 8 := Nat.pow_le_pow_right (by omega) (by omega)
    omega
  intro m
  induction m with
  | zero =>
    intro j T hj hT hv hb
    have e : j = c1 := by omega
    subst e
    have es := hT 50 (by decide)
    have e1 := h1.1
    have q := hk T hT hv (fun o ho => by have := hb o ho; omega)
    refine zr_iload_n (pc := 59) S dX6_tell_59 rfl ?_
    refine zr_bipush (pc := 60) S dX6_tell_60 ⟨by unfold zrI; omega, by decide⟩ ?_
    refine zr_aload_n (pc := 62) S dX6_tell_62 rfl ?_
    refine zr_getR (pc := 63) S fX6_tell_19 dX6_tell_63 rfl (Nat.le_of_ble_eq_true rfl) rfl ?_
    refine zr_iconst (pc := 66) S dX6_tell_66 (by unfold zrI; omega) ?_
    refine zr_iaload (pc := 67) S dX6_tell_67 rfl (Nat.le_of_ble_eq_true rfl) (by omega) (by omega) ?_
    dsimp only [Int.reduceToNat]
    rw [es, e1]
    refine zr_iadd (pc := 68) S dX6_tell_68 (by unfold zrI; omega) ?_
    refine zr_icmp_ge (pc := 69) (tgt := 110) S dX6_tell_69 (by decide) (fun c69 => ?_) (fun c69 => absurd c69 (by omega))
    exact q
  | succ m ih =>
    intro j T hj hT hv hb
    have es := hT 50 (by decide)
    have eb := hT 51 (by decide)
    have ez := hT 52 (by decide)
    have eo := hT 49 (by decide)
    have e1 := h1.1
    have ei : (i : Int).toNat = i := Int.toNat_natCast i
    have ej : ((17 + j : Nat) : Int).toNat = 17 + j := Int.toNat_natCast _
    have qi := h0.2.2.1 i hi
    rw [show 0 * 17 + i = i by omega] at qi
    have qj := h1.2.2.1 j (by omega)
    rw [show 1 * 17 + j = 17 + j by omega] at qj
    have hbi : bN N i < 2 ^ (M 11 0).toNat := by unfold bN; omega
    have hbj : bN N (17 + j) < 2 ^ (M 11 0).toNat := by unfold bN; omega
    have hor := Nat.or_lt_two_pow hbi hbj
    have prod := zmulr (a := N 52 i) (b := N 52 (17 + j)) (A := 100) (B := 100) (by omega) (by omega) (by omega) (by omega)
    have hrr : ∀ r, r < c2 → 0 ≤ T 51 (34 + r) ∧ T 51 (34 + r) < 256 ∧ 1 ≤ T 52 (34 + r) ∧ T 52 (34 + r) ≤ 100 ∧ -1 ≤ T 49 ((bN N i ||| bN N (17 + j)) ||| (T 51 (34 + r)).toNat) ∧ T 49 ((bN N i ||| bN N (17 + j)) ||| (T 51 (34 + r)).toNat) ≤ 7 := fun r hr => by
      rw [eb, ez, eo]
      have q := h2.2.2.1 r hr
      rw [show 2 * 17 + r = 34 + r by omega] at q
      have hbr : (N 51 (34 + r)).toNat < 2 ^ (M 11 0).toNat := by omega
      rw [hl _ (Nat.or_lt_two_pow hor hbr)]
      have g := gw_r hg (fun g => ((bN N i ||| bN N (17 + j)) ||| (N 51 (34 + r)).toNat).testBit g) 9 0
      unfold gl
      omega
    have eg : ∀ o, sumU (fun r => T 52 (34 + r) * (if adI T (bN N i ||| bN N (17 + j)) r = o then 1 else 0)) c2 = gS N c2 o (bN N i ||| bN N (17 + j)) := fun o => by
      unfold gS adI
      rw [eb, ez, eo]
    have nx : zK (zg E) rmX6_tell 4 (Qp, 0, 0) X (0, 0) 59 [some (zR 47), some (zI s), some (zI i), some (zI (17 + (j + 1) : Nat))] [] (adU T (bN N i ||| bN N (17 + j)) (N 52 i * N 52 (17 + j)) c2) := by
      refine ih (j + 1) _ (by omega) (fun k hk2 => by rw [adU_o hk2]; exact hT k hk2) (fun o => ?_) (fun o ho => ?_)
      · rw [adU_v, eg, hv]
        unfold rowJ
        rw [sumU, Int.mul_add, Int.mul_assoc]
        omega
      · have h9 := hb o ho
        have bb : ∀ c : Nat, c ≤ c2 → 0 ≤ sumU (fun r => T 52 (34 + r) * (if adI T (bN N i ||| bN N (17 + j)) r = o then 1 else 0)) c ∧ sumU (fun r => T 52 (34 + r) * (if adI T (bN N i ||| bN N (17 + j)) r = o then 1 else 0)) c ≤ 100 * c := fun c hc => sumU_r (N := c2) (fun r hr => by
          have := hrr r hr
          show 0 ≤ T 52 (34 + r) * (if adI T (bN N i ||| bN N (17 + j)) r = o then 1 else 0) ∧ T 52 (34 + r) * (if adI T (bN N i ||| bN N (17 + j)) r = o then 1 else 0) ≤ 100
          split
          · omega
          · omega) c hc
        have b2 := bb c2 (Nat.le_refl _)
        have b3 := zmulr (a := N 52 i * N 52 (17 + j)) (b := sumU (fun r => T 52 (34 + r) * (if adI T (bN N i ||| bN N (17 + j)) r = o then 1 else 0)) c2) (A := 10000) (B := 1700) prod.1 (by omega) b2.1 (by omega)
        rw [adU_v]
        omega
    have e34 := h2.1
    refine zr_iload_n (pc := 59) S dX6_tell_59 rfl ?_
    refine zr_bipush (pc := 60) S dX6_tell_60 ⟨by unfold zrI; omega, by decide⟩ ?_
    refine zr_aload_n (pc := 62) S dX6_tell_62 rfl ?_
    refine zr_getR (pc := 63) S fX6_tell_19 dX6_tell_63 rfl (Nat.le_of_ble_eq_true rfl) rfl ?_
    refine zr_iconst (pc := 66) S dX6_tell_66 (by unfold zrI; omega) ?_
    refine zr_iaload (pc := 67) S dX6_tell_67 rfl (Nat.le_of_ble_eq_true rfl) (by omega) (by omega) ?_
    dsimp only [Int.reduceToNat]
    rw [es, e1]
    refine zr_iadd (pc := 68) S dX6_tell_68 (by unfold zrI; omega) ?_
    refine zr_icmp_ge (pc := 69) (tgt := 110) S dX6_tell_69 (by decide) (fun c69 => absurd c69 (by omega)) (fun c69 => ?_)
    refine zr_aload_n (pc := 72) S dX6_tell_72 rfl ?_
    refine zr_aload_n (pc := 73) S dX6_tell_73 rfl ?_
    refine zr_getR (pc := 74) S fX6_tell_22 dX6_tell_74 rfl (Nat.le_of_ble_eq_true rfl) rfl ?_
    refine zr_iload_n (pc := 77) S dX6_tell_77 rfl ?_
    refine zr_iaload (pc := 78) S dX6_tell_78 rfl (Nat.le_of_ble_eq_true rfl) (by omega) (by omega) ?_
    rw [ei, eb]
    refine zr_aload_n (pc := 79) S dX6_tell_79 rfl ?_
    refine zr_getR (pc := 80) S fX6_tell_22 dX6_tell_80 rfl (Nat.le_of_ble_eq_true rfl) rfl ?_
    refine zr_iload_n (pc := 83) S dX6_tell_83 rfl ?_
    refine zr_iaload (pc := 84) S dX6_tell_84 rfl (Nat.le_of_ble_eq_true rfl) (by omega) (by omega) ?_
    rw [ej, eb]
    refine zr_ior (pc := 85) S dX6_tell_85 (by omega) (by omega) ?_
    refine zr_aload_n (pc := 86) S dX6_tell_86 rfl ?_
    refine zr_getR (pc := 87) S fX6_tell_25 dX6_tell_87 rfl (Nat.le_of_ble_eq_true rfl) rfl ?_
    refine zr_iload_n (pc := 90) S dX6_tell_90 rfl ?_
    refine zr_iaload (pc := 91) S dX6_tell_91 rfl (Nat.le_of_ble_eq_true rfl) (by omega) (by omega) ?_
    rw [ei, ez]
    refine zr_i2l (pc := 92) S dX6_tell_92 ?_
    refine zr_aload_n (pc := 93) S dX6_tell_93 rfl ?_
    refine zr_getR (pc := 94) S fX6_tell_25 dX6_tell_94 rfl (Nat.le_of_ble_eq_true rfl) rfl ?_
    refine zr_iload_n (pc := 97) S dX6_tell_97 rfl ?_
    refine zr_iaload (pc := 98) S dX6_tell_98 rfl (Nat.le_of_ble_eq_true rfl) (by omega) (by omega) ?_
    rw [ej, ez]
    refine zr_i2l (pc := 99) S dX6_tell_99 ?_
    refine zr_lmul (pc := 100) S dX6_tell_100 (by unfold zrL; omega) ?_
    refine zr_invV (pc := 101) S [zI _, zL _] (m_X6_addRings _) kX6_tell_93 dX6_tell_101 rfl (Nat.le_of_ble_eq_true rfl) rfl (Nat.le_of_ble_eq_true rfl) ⟨Nat.le_of_ble_eq_true rfl, Nat.le_of_ble_eq_true rfl⟩ (us_X6_addRings (n := bN N i ||| bN N (17 + j)) (c := c2) (B := 17000000 * (17 * i + j)) (by omega) (by rw [es]; exact e34) hc2 prod.1 (by omega) (by omega) hb hrr ?_)
    dsimp only [zaft, Option.toList, List.cons_append, List.nil_append, Nat.add_zero]
    refine zr_iinc (pc := 104) S dX6_tell_104 rfl (by unfold zrI; omega) (by decide) ?_
    dsimp only [zst1, zst2, zset, zget, zlong]
    refine zr_goto (pc := 107) (tgt := 59) S dX6_tell_107 (by decide) ?_
    exact nx
end
