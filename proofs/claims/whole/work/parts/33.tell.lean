section
def rmX6_addRings : Room := { frames := 0, cells := 0, slots := 0, locals := 0 }
abbrev wzX6_addRings : List Cond := .code yX6_addRings cX6_addRings 6 none :: zW
def rmX6_tell : Room := { frames := 2, cells := 0, slots := 0, locals := 52 }
abbrev wzX6_tell : List Cond := .code yX6_tell cX6_tell 4 none :: zW
theorem fX6_addRings_19 : zfl wzX6_addRings RX6 vwCl 19 6 4 := ⟨_, _, _, rfl, (fun w h => List.mem_cons_of_mem _ (zWuX6 w h)), by decide, List.mem_cons_of_mem _ (zWi_10 _ (List.mem_of_getElem? (i := 49) rfl))⟩
theorem fX6_addRings_9 : zfl wzX6_addRings RX6 vwCl 9 6 2 := ⟨_, _, _, rfl, (fun w h => List.mem_cons_of_mem _ (zWuX6 w h)), by decide, List.mem_cons_of_mem _ (zWi_11 _ (List.mem_of_getElem? (i := 11) rfl))⟩
theorem fX6_addRings_15 : zfl wzX6_addRings RX6 vwCl 15 6 3 := ⟨_, _, _, rfl, (fun w h => List.mem_cons_of_mem _ (zWuX6 w h)), by decide, List.mem_cons_of_mem _ (zWi_10 _ (List.mem_of_getElem? (i := 48) rfl))⟩
theorem fX6_addRings_22 : zfl wzX6_addRings RX6 vwCl 22 6 5 := ⟨_, _, _, rfl, (fun w h => List.mem_cons_of_mem _ (zWuX6 w h)), by decide, List.mem_cons_of_mem _ (zWi_11 _ (List.mem_of_getElem? (i := 0) rfl))⟩
theorem fX6_addRings_25 : zfl wzX6_addRings RX6 vwCl 25 6 6 := ⟨_, _, _, rfl, (fun w h => List.mem_cons_of_mem _ (zWuX6 w h)), by decide, List.mem_cons_of_mem _ (zWi_11 _ (List.mem_of_getElem? (i := 1) rfl))⟩
theorem fX6_tell_9 : zfl wzX6_tell RX6 vwCl 9 6 2 := ⟨_, _, _, rfl, (fun w h => List.mem_cons_of_mem _ (zWuX6 w h)), by decide, List.mem_cons_of_mem _ (zWi_11 _ (List.mem_of_getElem? (i := 11) rfl))⟩
theorem fX6_tell_28 : zfl wzX6_tell RX6 vwCl 28 6 0 := ⟨_, _, _, rfl, (fun w h => List.mem_cons_of_mem _ (zWuX6 w h)), by decide, List.mem_cons_of_mem _ (zWi_11 _ (List.mem_of_getElem? (i := 2) rfl))⟩
theorem fX6_tell_19 : zfl wzX6_tell RX6 vwCl 19 6 4 := ⟨_, _, _, rfl, (fun w h => List.mem_cons_of_mem _ (zWuX6 w h)), by decide, List.mem_cons_of_mem _ (zWi_10 _ (List.mem_of_getElem? (i := 49) rfl))⟩
theorem fX6_tell_22 : zfl wzX6_tell RX6 vwCl 22 6 5 := ⟨_, _, _, rfl, (fun w h => List.mem_cons_of_mem _ (zWuX6 w h)), by decide, List.mem_cons_of_mem _ (zWi_11 _ (List.mem_of_getElem? (i := 0) rfl))⟩
theorem fX6_tell_25 : zfl wzX6_tell RX6 vwCl 25 6 6 := ⟨_, _, _, rfl, (fun w h => List.mem_cons_of_mem _ (zWuX6 w h)), by decide, List.mem_cons_of_mem _ (zWi_11 _ (List.mem_of_getElem? (i := 1) rfl))⟩
theorem kX6_tell_76 : ∀ (s9 : State) (a9 : Array Value), (∀ w ∈ wzX6_tell, w.before a9 s9 = true) → CallB rmX6_tell s9 a9 RX6 76 yJ7_fill_d0a16 cJ7_fill_d0a16 5 none wzJ7_fill_d0a16 rmJ7_fill_d0a16 0 0 2 ∧ (Cond.static yJ7_fill_d0a16).before a9 s9 = true := zcS (zWi_24 _ (List.mem_of_getElem? (i := 35) rfl)) (zWi_30 _ (List.mem_of_getElem? (i := 14) rfl)) (zWi_12 _ (List.mem_of_getElem? (i := 7) rfl)) (zWi_0 _ (List.mem_of_getElem? (i := 43) rfl)) (by decide +kernel) rfl rfl ⟨Nat.le_of_ble_eq_true rfl, Nat.le_of_ble_eq_true rfl⟩
theorem kX6_tell_82 : ∀ (s9 : State) (a9 : Array Value), (∀ w ∈ wzX6_tell, w.before a9 s9 = true) → CallW rmX6_tell s9 a9 RX6 RX7 82 yX7_lowOf cX7_lowOf 4 (some .int) wzX7_lowOf rmX7_lowOf 0 0 2 := zcV (zWi_24 _ (List.mem_of_getElem? (i := 36) rfl)) (zWi_16 _ (List.mem_of_getElem? (i := 49) rfl)) (zWi_29 _ (List.mem_of_getElem? (i := 25) rfl)) (zWi_12 _ (List.mem_of_getElem? (i := 19) rfl)) (zWi_5 _ (List.mem_of_getElem? (i := 33) rfl)) (by decide +kernel) rfl rfl ⟨Nat.le_of_ble_eq_true rfl, Nat.le_of_ble_eq_true rfl⟩
theorem kX6_tell_86 : ∀ (s9 : State) (a9 : Array Value), (∀ w ∈ wzX6_tell, w.before a9 s9 = true) → CallW rmX6_tell s9 a9 RX6 RX7 86 yX7_highOf cX7_highOf 4 (some .int) wzX7_highOf rmX7_highOf 0 0 2 := zcV (zWi_24 _ (List.mem_of_getElem? (i := 37) rfl)) (zWi_16 _ (List.mem_of_getElem? (i := 45) rfl)) (zWi_29 _ (List.mem_of_getElem? (i := 22) rfl)) (zWi_12 _ (List.mem_of_getElem? (i := 19) rfl)) (zWi_5 _ (List.mem_of_getElem? (i := 29) rfl)) (by decide +kernel) rfl rfl ⟨Nat.le_of_ble_eq_true rfl, Nat.le_of_ble_eq_true rfl⟩
theorem kX6_tell_89 : ∀ (s9 : State) (a9 : Array Value), (∀ w ∈ wzX6_tell, w.before a9 s9 = true) → CallW rmX6_tell s9 a9 RX6 RX6 89 yX6_stretch cX6_stretch 11 none wzX6_stretch rmX6_stretch 0 0 3 := zcV (zWi_24 _ (List.mem_of_getElem? (i := 38) rfl)) (zWi_16 _ (List.mem_of_getElem? (i := 38) rfl)) (zWi_29 _ (List.mem_of_getElem? (i := 15) rfl)) (zWi_12 _ (List.mem_of_getElem? (i := 18) rfl)) (zWi_5 _ (List.mem_of_getElem? (i := 22) rfl)) (by decide +kernel) rfl rfl ⟨Nat.le_of_ble_eq_true rfl, Nat.le_of_ble_eq_true rfl⟩
theorem kX6_tell_93 : ∀ (s9 : State) (a9 : Array Value), (∀ w ∈ wzX6_tell, w.before a9 s9 = true) → CallW rmX6_tell s9 a9 RX6 RX6 93 yX6_addRings cX6_addRings 6 none wzX6_addRings rmX6_addRings 0 0 2 := zcV (zWi_24 _ (List.mem_of_getElem? (i := 39) rfl)) (zWi_16 _ (List.mem_of_getElem? (i := 30) rfl)) (zWi_29 _ (List.mem_of_getElem? (i := 8) rfl)) (zWi_12 _ (List.mem_of_getElem? (i := 18) rfl)) (zWi_5 _ (List.mem_of_getElem? (i := 14) rfl)) (by decide +kernel) rfl rfl ⟨Nat.le_of_ble_eq_true rfl, Nat.le_of_ble_eq_true rfl⟩
/-- rings are added -/
def adI (N : zM) (n : Nat) (r : Nat) : Nat := (N 49 (n ||| (N 51 (34 + r)).toNat) + 1).toNat
def adU (N : zM) (n : Nat) (w : Int) : Nat → zM
  | 0 => N
  | r + 1 => zup (adU N n w r) 48 (adI N n r) (adU N n w r 48 (adI N n r) + w * N 52 (34 + r))
theorem adU_o {N : zM} {n : Nat} {w : Int} {k : Nat} (h : k ≠ 48) : ∀ r, adU N n w r k = N k
  | 0 => rfl
  | r + 1 => by simp only [adU]; rw [zup_o k h, adU_o h r]
theorem adU_v {N : zM} {n : Nat} {w : Int} (o : Nat) : ∀ r, adU N n w r 48 o = N 48 o + w * sumU (fun r => N 52 (34 + r) * (if adI N n r = o then 1 else 0)) r
  | 0 => by simp [adU, sumU]
  | r + 1 => by
    have a := adU_v (N := N) (n := n) (w := w) o r
    simp only [adU, sumU]
    by_cases h : adI N n r = o
    · rw [if_pos h, h, zup_e, a, Int.mul_one, Int.mul_add]
      omega
    · rw [if_neg h, zup_j (fun q => h q.symm), a, Int.mul_zero, Int.add_zero]
theorem lp_X6_addRings {E : zE} {X : zX} {Qp : Option zV → zM → Prop} {N : zM} {n c : Nat} {w B : Int} (S : zS (zg E) X cX6_addRings 6 wzX6_addRings RX6 none) (hn : n < 256) (hc : N 50 2 = c) (hc17 : c ≤ 17) (hw0 : 0 ≤ w) (hw1 : w ≤ 10000) (hB : B ≤ 1000000000000) (hT : ∀ o, o < 9 → 0 ≤ N 48 o ∧ N 48 o ≤ B) (hb : ∀ r, r < c → 0 ≤ N 51 (34 + r) ∧ N 51 (34 + r) < 256 ∧ 1 ≤ N 52 (34 + r) ∧ N 52 (34 + r) ≤ 100 ∧ -1 ≤ N 49 (n ||| (N 51 (34 + r)).toNat) ∧ N 49 (n ||| (N 51 (34 + r)).toNat) ≤ 7) (hQ : Qp none (adU N n w c)) : ∀ (m i : Nat), m + i = c → (∀ o, o < 9 → 0 ≤ adU N n w i 48 o ∧ adU N n w i 48 o ≤ B + 1000000 * i) → zK (zg E) rmX6_addRings 6 (Qp, 0, 0) X (0, 0) 8 [some (zR 47), some (zI n), some (zL w), none, some (zI 34), some (zI (34 + i : Nat))] [] (adU N n w i) := by
  intro m
  induction m with
  | zero =>
    intro i hi hv
    have e : i = c := by omega
    subst e
    have es : adU N n w i 50 = N 50 := adU_o (by decide) i
    refine zr_iload (pc := 8) S dX6_addRings_8 rfl ?_
    refine zr_iload (pc := 10) S dX6_addRings_10 rfl ?_
    refine zr_aload_n (pc := 12) S dX6_addRings_12 rfl ?_
    refine zr_getR (pc := 13) S fX6_addRings_19 dX6_addRings_13 rfl (Nat.le_of_ble_eq_true rfl) rfl ?_
    refine zr_iconst (pc := 16) S dX6_addRings_16 (by unfold zrI; omega) ?_
    refine zr_iaload (pc := 17) S dX6_addRings_17 rfl (Nat.le_of_ble_eq_true rfl) (by omega) (by omega) ?_
    dsimp only [Int.reduceToNat]
    rw [es, hc]
    refine zr_iadd (pc := 18) S dX6_addRings_18 (by unfold zrI; omega) ?_
    refine zr_icmp_ge (pc := 19) (tgt := 62) S dX6_addRings_19 (by decide) (fun c19 => ?_) (fun c19 => absurd c19 (by omega))
    exact zr_vret (pc := 62) S dX6_addRings_62 rfl ⟨Nat.le_refl _, Nat.le_refl _⟩ (hQ)
  | succ m ih =>
    intro i hi hv
    have es : adU N n w i 50 = N 50 := adU_o (by decide) i
    have eo : adU N n w i 49 = N 49 := adU_o (by decide) i
    have eb : adU N n w i 51 = N 51 := adU_o (by decide) i
    have ez : adU N n w i 52 = N 52 := adU_o (by decide) i
    have e : ((34 + i : Nat) : Int).toNat = 34 + i := Int.toNat_natCast _
    have b := hb i (by omega)
    have hor : n ||| (N 51 (34 + i)).toNat < 256 := Nat.or_lt_two_pow (n := 8) (by omega) (by omega)
    have hi2 : adI N n i < 9 := by unfold adI; omega
    have hvi := hv (adI N n i) hi2
    have hprod := zmulr (a := w) (b := N 52 (34 + i)) (A := 10000) (B := 100) hw0 hw1 (by omega) (by omega)
    have e2 : (N 49 (n ||| (N 51 (34 + i)).toNat) + 1).toNat = adI N n i := rfl
    have q := ih (i + 1) (by omega) (fun o ho => by
      have h1 := hv o ho
      simp only [adU]
      by_cases h : o = adI N n i
      · rw [h, zup_e, ← h]; omega
      · rw [zup_j h]; omega)
    simp only [adU] at q
    refine zr_iload (pc := 8) S dX6_addRings_8 rfl ?_
    refine zr_iload (pc := 10) S dX6_addRings_10 rfl ?_
    refine zr_aload_n (pc := 12) S dX6_addRings_12 rfl ?_
    refine zr_getR (pc := 13) S fX6_addRings_19 dX6_addRings_13 rfl (Nat.le_of_ble_eq_true rfl) rfl ?_
    refine zr_iconst (pc := 16) S dX6_addRings_16 (by unfold zrI; omega) ?_
    refine zr_iaload (pc := 17) S dX6_addRings_17 rfl (Nat.le_of_ble_eq_true rfl) (by omega) (by omega) ?_
    dsimp only [Int.reduceToNat]
    rw [es, hc]
    refine zr_iadd (pc := 18) S dX6_addRings_18 (by unfold zrI; omega) ?_
    refine zr_icmp_ge (pc := 19) (tgt := 62) S dX6_addRings_19 (by decide) (fun c19 => absurd c19 (by omega)) (fun c19 => ?_)
    refine zr_aload_n (pc := 22) S dX6_addRings_22 rfl ?_
    refine zr_getR (pc := 23) S fX6_addRings_9 dX6_addRings_23 rfl (Nat.le_of_ble_eq_true rfl) rfl ?_
    refine zr_aload_n (pc := 26) S dX6_addRings_26 rfl ?_
    refine zr_getR (pc := 27) S fX6_addRings_15 dX6_addRings_27 rfl (Nat.le_of_ble_eq_true rfl) rfl ?_
    refine zr_iload_n (pc := 30) S dX6_addRings_30 rfl ?_
    refine zr_aload_n (pc := 31) S dX6_addRings_31 rfl ?_
    refine zr_getR (pc := 32) S fX6_addRings_22 dX6_addRings_32 rfl (Nat.le_of_ble_eq_true rfl) rfl ?_
    refine zr_iload (pc := 35) S dX6_addRings_35 rfl ?_
    refine zr_iaload (pc := 37) S dX6_addRings_37 rfl (Nat.le_of_ble_eq_true rfl) (by omega) (by omega) ?_
    rw [e, eb]
    refine zr_ior (pc := 38) S dX6_addRings_38 (by omega) (by omega) ?_
    rw [Int.toNat_natCast]
    refine zr_iaload (pc := 39) S dX6_addRings_39 rfl (Nat.le_of_ble_eq_true rfl) (by omega) (by omega) ?_
    rw [Int.toNat_natCast, eo]
    refine zr_iconst (pc := 40) S dX6_addRings_40 (by unfold zrI; omega) ?_
    refine zr_iadd (pc := 41) S dX6_addRings_41 (by unfold zrI; omega) ?_
    refine zr_dup2 (pc := 42) S dX6_addRings_42 rfl rfl ?_
    refine zr_laload (pc := 43) S dX6_addRings_43 rfl (Nat.le_of_ble_eq_true rfl) (by omega) (by omega) ?_
    rw [e2]
    refine zr_lload_n (pc := 44) S dX6_addRings_44 rfl ?_
    refine zr_aload_n (pc := 45) S dX6_addRings_45 rfl ?_
    refine zr_getR (pc := 46) S fX6_addRings_25 dX6_addRings_46 rfl (Nat.le_of_ble_eq_true rfl) rfl ?_
    refine zr_iload (pc := 49) S dX6_addRings_49 rfl ?_
    refine zr_iaload (pc := 51) S dX6_addRings_51 rfl (Nat.le_of_ble_eq_true rfl) (by omega) (by omega) ?_
    rw [e, ez]
    refine zr_i2l (pc := 52) S dX6_addRings_52 ?_
    refine zr_lmul (pc := 53) S dX6_addRings_53 (by unfold zrL; omega) ?_
    refine zr_ladd (pc := 54) S dX6_addRings_54 (by unfold zrL; omega) ?_
    refine zr_lastore (pc := 55) S dX6_addRings_55 rfl (Nat.le_of_ble_eq_true rfl) (by omega) (by omega) ?_
    rw [e2]
    refine zr_iinc (pc := 56) S dX6_addRings_56 rfl (by unfold zrI; omega) (by decide) ?_
    dsimp only [zst1, zst2, zset, zget, zlong]
    refine zr_goto (pc := 59) (tgt := 8) S dX6_addRings_59 (by decide) ?_
    exact q
def sp_X6_addRings (as : List zV) (M : zM) (Q : Option zV → zM → Prop) : Prop := ∃ (n c : Nat) (w B : Int), as = [zR 47, zI n, zL w] ∧ (n < 256) ∧ (M 50 2 = c) ∧ (c ≤ 17) ∧ (0 ≤ w) ∧ (w ≤ 10000) ∧ (B ≤ 1000000000000) ∧ (∀ o, o < 9 → 0 ≤ M 48 o ∧ M 48 o ≤ B) ∧ (∀ r, r < c → 0 ≤ M 51 (34 + r) ∧ M 51 (34 + r) < 256 ∧ 1 ≤ M 52 (34 + r) ∧ M 52 (34 + r) ≤ 100 ∧ -1 ≤ M 49 (n ||| (M 51 (34 + r)).toNat) ∧ M 49 (n ||| (M 51 (34 + r)).toNat) ≤ 7) ∧ Q (none) (adU M n w c)
theorem us_X6_addRings {n c : Nat} {w B : Int} {M : zM} {Q : Option zV → zM → Prop} (hn : n < 256) (hc : M 50 2 = c) (hc17 : c ≤ 17) (hw0 : 0 ≤ w) (hw1 : w ≤ 10000) (hB : B ≤ 1000000000000) (hT : ∀ o, o < 9 → 0 ≤ M 48 o ∧ M 48 o ≤ B) (hb : ∀ r, r < c → 0 ≤ M 51 (34 + r) ∧ M 51 (34 + r) < 256 ∧ 1 ≤ M 52 (34 + r) ∧ M 52 (34 + r) ≤ 100 ∧ -1 ≤ M 49 (n ||| (M 51 (34 + r)).toNat) ∧ M 49 (n ||| (M 51 (34 + r)).toNat) ≤ 7) (h99 : Q (none) (adU M n w c)) : sp_X6_addRings [zR 47, zI n, zL w] M Q := ⟨n, c, w, B, rfl, hn, hc, hc17, hw0, hw1, hB, hT, hb, h99⟩
set_option maxRecDepth 20000 in
set_option maxHeartbeats 4000000 in
theorem m_X6_addRings (l : Launch) : zC l yX6_addRings wzX6_addRings rmX6_addRings sp_X6_addRings := by
  refine zMet.of RX6 (by decide +kernel) rfl rfl ?_
  intro E X as M Qp hX S hsp
  obtain ⟨n, c, w, B, rfl, hn, hc, hc17, hw0, hw1, hB, hT, hb, hQ⟩ := hsp
  refine ⟨Nat.le_of_ble_eq_true rfl, ?_⟩
  dsimp only [zpad, zargs]
  refine zr_bipush (pc := 0) S dX6_addRings_0 ⟨by unfold zrI; omega, by decide⟩ ?_
  refine zr_istore (pc := 2) S dX6_addRings_2 (by decide) ?_
  dsimp only [zst1, zst2, zset, zget, zlong]
  refine zr_iload (pc := 4) S dX6_addRings_4 rfl ?_
  refine zr_istore (pc := 6) S dX6_addRings_6 (by decide) ?_
  dsimp only [zst1, zst2, zset, zget, zlong]
  exact lp_X6_addRings S hn hc hc17 hw0 hw1 hB hT hb hQ c 0 (by omega) (fun o ho => by have := hT o ho; simp only [adU]; omega)
end
