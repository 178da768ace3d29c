section
def rmX12_mostOf (d : Nat) : Room := { frames := d + 8, cells := 0, slots := 0, locals := 26 * d + 188 }
abbrev wzX12_mostOf : List Cond := .code yX12_mostOf cX12_mostOf 7 (some .long) :: zW
def rmX12_without (d : Nat) : Room := { frames := d + 8, cells := 0, slots := 0, locals := 26 * d + 188 }
abbrev wzX12_without : List Cond := .code yX12_without cX12_without 3 (some .long) :: zW
theorem fX12_mostOf_9 : zfl wzX12_mostOf RX12 vwCl 9 12 0 := ⟨_, _, _, rfl, (fun w h => List.mem_cons_of_mem _ (zWuX12 w h)), by decide, List.mem_cons_of_mem _ (zWi_9 _ (List.mem_of_getElem? (i := 39) rfl))⟩
theorem kX12_mostOf_339 (d : Nat) : ∀ (s9 : State) (a9 : Array Value), (∀ w ∈ wzX12_mostOf, w.before a9 s9 = true) → CallW (rmX12_mostOf d) s9 a9 RX12 RX12 339 yX12_served cX12_served 8 (some .boolean) wzX12_served rmX12_served 0 0 3 := zcV (zWi_23 _ (List.mem_of_getElem? (i := 16) rfl)) (zWi_15 _ (List.mem_of_getElem? (i := 15) rfl)) (zWi_28 _ (List.mem_of_getElem? (i := 6) rfl)) (zWi_12 _ (List.mem_of_getElem? (i := 13) rfl)) (zWi_3 _ (List.mem_of_getElem? (i := 47) rfl)) (by decide +kernel) rfl rfl ⟨(by simp only [rmX12_mostOf, rmX12_served]; omega), (by simp only [rmX12_mostOf, rmX12_served]; omega)⟩
theorem kX12_mostOf_343 (d : Nat) : ∀ (s9 : State) (a9 : Array Value), (∀ w ∈ wzX12_mostOf, w.before a9 s9 = true) → CallW (rmX12_mostOf d) s9 a9 RX12 RX12 343 yX12_power cX12_power 5 (some .long) wzX12_power rmX12_power 0 0 1 := zcV (zWi_23 _ (List.mem_of_getElem? (i := 17) rfl)) (zWi_15 _ (List.mem_of_getElem? (i := 4) rfl)) (zWi_27 _ (List.mem_of_getElem? (i := 45) rfl)) (zWi_12 _ (List.mem_of_getElem? (i := 13) rfl)) (zWi_3 _ (List.mem_of_getElem? (i := 36) rfl)) (by decide +kernel) rfl rfl ⟨(by simp only [rmX12_mostOf, rmX12_power]; omega), (by simp only [rmX12_mostOf, rmX12_power]; omega)⟩
theorem kX12_mostOf_346 (d : Nat) : ∀ (s9 : State) (a9 : Array Value), (∀ w ∈ wzX12_mostOf, w.before a9 s9 = true) → CallW (rmX12_mostOf (d + 1)) s9 a9 RX12 RX12 346 yX12_mostOf cX12_mostOf 7 (some .long) wzX12_mostOf (rmX12_mostOf d) 0 0 1 := zcV (zWi_23 _ (List.mem_of_getElem? (i := 18) rfl)) (zWi_14 _ (List.mem_of_getElem? (i := 43) rfl)) (zWi_27 _ (List.mem_of_getElem? (i := 34) rfl)) (zWi_12 _ (List.mem_of_getElem? (i := 13) rfl)) (zWi_3 _ (List.mem_of_getElem? (i := 25) rfl)) (by decide +kernel) rfl rfl ⟨(by simp only [rmX12_mostOf, rmX12_mostOf]; omega), (by simp only [rmX12_mostOf, rmX12_mostOf]; omega)⟩
theorem kX12_mostOf_351 (d : Nat) : ∀ (s9 : State) (a9 : Array Value), (∀ w ∈ wzX12_mostOf, w.before a9 s9 = true) → CallW (rmX12_mostOf (d + 1)) s9 a9 RX12 RX12 351 yX12_without cX12_without 3 (some .long) wzX12_without (rmX12_without d) 0 0 1 := zcV (zWi_23 _ (List.mem_of_getElem? (i := 19) rfl)) (zWi_15 _ (List.mem_of_getElem? (i := 34) rfl)) (zWi_28 _ (List.mem_of_getElem? (i := 25) rfl)) (zWi_12 _ (List.mem_of_getElem? (i := 13) rfl)) (zWi_4 _ (List.mem_of_getElem? (i := 17) rfl)) (by decide +kernel) rfl rfl ⟨(by simp only [rmX12_mostOf, rmX12_without]; omega), (by simp only [rmX12_mostOf, rmX12_without]; omega)⟩
theorem kX12_mostOf_354 : zml_mmaxL wzX12_mostOf RX12 354 := ⟨List.mem_cons_of_mem _ (zWi_23 _ (List.mem_of_getElem? (i := 20) rfl)), List.mem_cons_of_mem _ (zWi_30 _ (List.mem_of_getElem? (i := 4) rfl)), List.mem_cons_of_mem _ (zWi_12 _ (List.mem_of_getElem? (i := 0) rfl)), List.mem_cons_of_mem _ (zWi_0 _ (List.mem_of_getElem? (i := 29) rfl))⟩
theorem fX12_without_59 : zfl wzX12_without RX12 vwCl 59 12 27 := ⟨_, _, _, rfl, (fun w h => List.mem_cons_of_mem _ (zWuX12 w h)), by decide, List.mem_cons_of_mem _ (zWi_9 _ (List.mem_of_getElem? (i := 31) rfl))⟩
theorem kX12_without_346 (d : Nat) : ∀ (s9 : State) (a9 : Array Value), (∀ w ∈ wzX12_without, w.before a9 s9 = true) → CallW (rmX12_without (d + 1)) s9 a9 RX12 RX12 346 yX12_mostOf cX12_mostOf 7 (some .long) wzX12_mostOf (rmX12_mostOf d) 0 0 1 := zcV (zWi_23 _ (List.mem_of_getElem? (i := 18) rfl)) (zWi_14 _ (List.mem_of_getElem? (i := 43) rfl)) (zWi_27 _ (List.mem_of_getElem? (i := 34) rfl)) (zWi_12 _ (List.mem_of_getElem? (i := 13) rfl)) (zWi_3 _ (List.mem_of_getElem? (i := 25) rfl)) (by decide +kernel) rfl rfl ⟨(by simp only [rmX12_without, rmX12_mostOf]; omega), (by simp only [rmX12_without, rmX12_mostOf]; omega)⟩
/-- only the season's scratch has changed, and the rows of the stock below n -/
def sts (M M' : zM) (n : Nat) : Prop := (∀ k, k ≠ 189 → k ≠ 188 → k ≠ 190 → k ≠ 194 → M' k = M k) ∧ ∀ j, 8 * n ≤ j → M' 194 j = M 194 j
theorem sts.rf (M : zM) (n : Nat) : sts M M n := ⟨fun _ _ _ _ _ => rfl, fun _ _ => rfl⟩
theorem sts.tr {A B C : zM} {n : Nat} (h : sts A B n) (g : sts B C n) : sts A C n := ⟨fun k a b c d => (g.1 k a b c d).trans (h.1 k a b c d), fun j hj => (g.2 j hj).trans (h.2 j hj)⟩
theorem sts.w {A B : zM} {n m : Nat} (h : sts A B n) (hm : n ≤ m) : sts A B m := ⟨h.1, fun j hj => h.2 j (by omega)⟩
theorem sts.y {A B : zM} {n : Nat} (h : sts A B n) : offY A B := fun k hk => h.1 k (by omega) (by omega) (by omega) (by omega)
theorem sts_nh {A B : zM} {n : Nat} (h : sts A B n) : nh (B 194) (8 * n) = nh (A 194) (8 * n) := by
  funext k
  unfold nh
  split
  · exact h.2 _ (by omega)
  · rfl
theorem stk.s {A B : zM} {n : Nat} (h : stk A B n) : sts A B (n + 1) := ⟨h.1, fun j hj => h.2 j (by omega)⟩
/-- what the season's sums need -/
def SPm (V M : zM) : Prop := AG V (vm M) ∧ ICs V ∧ ICb V ∧ (M 181 4 = V 1 5) ∧ ∀ b : Nat, (b : Int) < M 181 4 → bqT (M 181) b ∧ 1 ≤ V 29 (V 30 b).toNat
theorem SPm.s {V M M' : zM} {n : Nat} (h : SPm V M) (g : sts M M' n) : SPm V M' := by
  have e : M' 181 = M 181 := g.1 _ (by decide) (by decide) (by decide) (by decide)
  refine ⟨fun k hk => (g.y.ag k hk).trans (h.1 k hk), h.2.1, h.2.2.1, by rw [e]; exact h.2.2.2.1, ?_⟩
  rw [e]
  exact h.2.2.2.2
def rwk (M : zM) (n : Nat) : Prop := ∀ k, k < 8 → 0 ≤ M 194 (8 * n + k) ∧ M 194 (8 * n + k) ≤ 20
theorem sts.r {A B : zM} {n : Nat} (h : sts A B n) (r : rwk A n) : rwk B n := fun k hk => by rw [h.2 _ (by omega)]; exact r k hk
def sp_X12_mostOf (e : Nat) (as : List zV) (M : zM) (Q : Option zV → zM → Prop) : Prop := ∃ (n : Nat) (V : zM), as = [zR 180, zI n] ∧ 2 * n ≤ e ∧ n ≤ 3 ∧ SPm V M ∧ rwk M n ∧ ∀ M', sts M M' n → Q (some (zL (mostR V n (nh (M 194) (8 * n))))) M'
theorem us_X12_mostOf {e n : Nat} {V M : zM} {Q : Option zV → zM → Prop} (h1 : 2 * n ≤ e) (h2 : n ≤ 3) (hS : SPm V M) (hr : rwk M n) (h : ∀ M', sts M M' n → Q (some (zL (mostR V n (nh (M 194) (8 * n))))) M') : sp_X12_mostOf e [zR 180, zI n] M Q := ⟨n, V, rfl, h1, h2, hS, hr, h⟩
def sp_X12_without (e : Nat) (as : List zV) (M : zM) (Q : Option zV → zM → Prop) : Prop := ∃ (n : Nat) (V : zM), as = [zR 180, zI ((n : Int) + 1)] ∧ 2 * n + 1 ≤ e ∧ n < 3 ∧ SPm V M ∧ rwk M (n + 1) ∧ ∀ M', sts M M' (n + 1) → Q (some (zL (mostR V n (nh (M 194) (8 * (n + 1)))))) M'
theorem us_X12_without {e n : Nat} {V M : zM} {Q : Option zV → zM → Prop} (h1 : 2 * n + 1 ≤ e) (h2 : n < 3) (hS : SPm V M) (hr : rwk M (n + 1)) (h : ∀ M', sts M M' (n + 1) → Q (some (zL (mostR V n (nh (M 194) (8 * (n + 1)))))) M') : sp_X12_without e [zR 180, zI ((n : Int) + 1)] M Q := ⟨n, V, rfl, h1, h2, hS, hr, h⟩
theorem wo1 {E : zE} {X : zX} {Qp : Option zV → zM → Prop} {M : zM} {n e : Nat} (S : zS (zg E) X cX12_without 3 wzX12_without RX12 (some .long)) (hn : n < 3)
    (k : ∀ K : Nat → Int, (∀ s, s < 8 → K (8 * n + s) = M 194 (8 * (n + 1) + s)) → (∀ j, 8 * (n + 1) ≤ j → K j = M 194 j) → zK (zg E) (rmX12_without (e + 1)) 3 (Qp, 0, 0) X (0, 0) 38 [some (zR 180), some (zI ((n : Int) + 1)), some (zI 8)] [] (zrow M 194 K)) : ∀ (r i : Nat) (K : Nat → Int), r + i = 8 → (∀ s, s < i → K (8 * n + s) = M 194 (8 * (n + 1) + s)) → (∀ j, 8 * (n + 1) ≤ j → K j = M 194 j) → zK (zg E) (rmX12_without (e + 1)) 3 (Qp, 0, 0) X (0, 0) 2 [some (zR 180), some (zI ((n : Int) + 1)), some (zI i)] [] (zrow M 194 K) := by
  intro r
  induction r with
  | zero =>
    intro i K hi h1 h2
    obtain rfl : i = 8 := by omega
    refine zr_iload_n (pc := 2) S dX12_without_2 rfl ?_
    refine zr_bipush (pc := 3) S dX12_without_3 ⟨by unfold zrI; omega, by decide⟩ ?_
    refine zr_icmp_ge (pc := 5) (tgt := 38) S dX12_without_5 (by decide) (fun c5 => ?_) (fun c5 => absurd c5 (by omega))
    exact k K h1 h2
  | succ r ih =>
    intro i K hi h1 h2
    have l := ih (i + 1) (rUp K (8 * n + i) (M 194 (8 * (n + 1) + i))) (by omega) (fun s hs => by
      by_cases e : s = i
      · subst e; rw [rUp_e]
      · rw [rUp_o (by omega)]; exact h1 s (by omega)) (fun j hj => by rw [rUp_o (by omega)]; exact h2 j hj)
    rw [Int.natCast_add, Int.natCast_one] at l
    have e0 : ((8 : Int) * ((n : Int) + 1 - 1) + (i : Int)).toNat = 8 * n + i := by omega
    have e1 : zrow M 194 K 194 ((8 : Int) * ((n : Int) + 1) + (i : Int)).toNat = M 194 (8 * (n + 1) + i) := by
      rw [zrow_e, show ((8 : Int) * ((n : Int) + 1) + (i : Int)).toNat = 8 * (n + 1) + i by omega, h2 _ (by omega)]
    refine zr_iload_n (pc := 2) S dX12_without_2 rfl ?_
    refine zr_bipush (pc := 3) S dX12_without_3 ⟨by unfold zrI; omega, by decide⟩ ?_
    refine zr_icmp_ge (pc := 5) (tgt := 38) S dX12_without_5 (by decide) (fun c5 => absurd c5 (by omega)) (fun c5 => ?_)
    refine zr_aload_n (pc := 8) S dX12_without_8 rfl ?_
    refine zr_getR (pc := 9) S fX12_without_59 dX12_without_9 rfl (Nat.le_of_ble_eq_true rfl) rfl ?_
    refine zr_bipush (pc := 12) S dX12_without_12 ⟨by unfold zrI; omega, by decide⟩ ?_
    refine zr_iload_n (pc := 14) S dX12_without_14 rfl ?_
    refine zr_iconst (pc := 15) S dX12_without_15 (by unfold zrI; omega) ?_
    refine zr_isub (pc := 16) S dX12_without_16 (by unfold zrI; omega) ?_
    refine zr_imul (pc := 17) S dX12_without_17 (by unfold zrI; omega) ?_
    refine zr_iload_n (pc := 18) S dX12_without_18 rfl ?_
    refine zr_iadd (pc := 19) S dX12_without_19 (by unfold zrI; omega) ?_
    refine zr_aload_n (pc := 20) S dX12_without_20 rfl ?_
    refine zr_getR (pc := 21) S fX12_without_59 dX12_without_21 rfl (Nat.le_of_ble_eq_true rfl) rfl ?_
    refine zr_bipush (pc := 24) S dX12_without_24 ⟨by unfold zrI; omega, by decide⟩ ?_
    refine zr_iload_n (pc := 26) S dX12_without_26 rfl ?_
    refine zr_imul (pc := 27) S dX12_without_27 (by unfold zrI; omega) ?_
    refine zr_iload_n (pc := 28) S dX12_without_28 rfl ?_
    refine zr_iadd (pc := 29) S dX12_without_29 (by unfold zrI; omega) ?_
    refine zr_iaload (pc := 30) S dX12_without_30 rfl (Nat.le_of_ble_eq_true rfl) (by omega) (by omega) ?_
    rw [e1]
    refine zr_iastore (pc := 31) S dX12_without_31 rfl (Nat.le_of_ble_eq_true rfl) (by omega) (by omega) ?_
    rw [e0, zrow_up]
    refine zr_iinc (pc := 32) S dX12_without_32 rfl (by unfold zrI; omega) (by decide) ?_
    dsimp only [zst1, zst2, zset, zget, zlong]
    refine zr_goto (pc := 35) (tgt := 2) S dX12_without_35 (by decide) ?_
    exact l
theorem st_X12_without (l : Launch) (e : Nat) (IH : zC l yX12_mostOf wzX12_mostOf (rmX12_mostOf e) (sp_X12_mostOf e)) : zC l yX12_without wzX12_without (rmX12_without (e + 1)) (sp_X12_without (e + 1)) := by
  refine zMet.of RX12 (by decide +kernel) rfl rfl ?_
  intro E X as M Qp hX S hsp
  obtain ⟨n, V, rfl, h1, h2, hS, hr, hQ⟩ := hsp
  refine ⟨Nat.le_of_ble_eq_true rfl, ?_⟩
  dsimp only [zpad, zargs]
  have IH2 : zC X.2.1 yX12_mostOf wzX12_mostOf (rmX12_mostOf e) (sp_X12_mostOf e) := by rw [hX]; exact IH
  have l := wo1 (E := E) (X := X) (Qp := Qp) (M := M) (n := n) (e := e) S h2 (fun K k1 k2 => by
    have s0 : sts M (zrow M 194 K) (n + 1) := ⟨fun k _ _ _ k4 => zrow_o k4, fun j hj => by rw [zrow_e, k2 j hj]⟩
    have en : nh (zrow M 194 K 194) (8 * n) = nh (M 194) (8 * (n + 1)) := by
      funext k
      unfold nh
      split
      · rw [zrow_e, k1 k (by assumption)]
      · rfl
    have r0 : rwk (zrow M 194 K) n := fun k hk => by rw [zrow_e, k1 k hk]; exact hr k hk
    have e1 : (n : Int) + 1 - 1 = n := by omega
    refine zr_aload_n (pc := 38) S dX12_without_38 rfl ?_
    refine zr_iload_n (pc := 39) S dX12_without_39 rfl ?_
    refine zr_iconst (pc := 40) S dX12_without_40 (by unfold zrI; omega) ?_
    refine zr_isub (pc := 41) S dX12_without_41 (by unfold zrI; omega) ?_
    rw [e1]
    refine zr_invV (pc := 42) S [zI _] IH2 (kX12_without_346 (e)) dX12_without_42 rfl (Nat.le_of_ble_eq_true rfl) rfl (Nat.le_of_ble_eq_true rfl) ⟨Nat.le_of_ble_eq_true rfl, Nat.le_of_ble_eq_true rfl⟩ (us_X12_mostOf (n := n) (V := V) (by omega) (by omega) (hS.s s0) r0 ?_)
    dsimp only [zaft, Option.toList, List.cons_append, List.nil_append, Nat.add_zero]
    intro M' hM'
    rw [en]
    exact zr_lret (pc := 45) S dX12_without_45 rfl ⟨Nat.le_refl _, Nat.le_refl _⟩ (hQ M' (s0.tr (hM'.w (by omega))))) 8 0 (M 194) (by omega) (fun s hs => absurd hs (by omega)) (fun _ _ => rfl)
  rw [zrow_s] at l
  refine zr_iconst (pc := 0) S dX12_without_0 (by unfold zrI; omega) ?_
  refine zr_istore_n (pc := 1) S 2 dX12_without_1 rfl (by decide) ?_
  dsimp only [zst1, zst2, zset, zget, zlong]
  exact l
end
