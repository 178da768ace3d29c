section
def rmX12_sizeOf : Room := { frames := 0, cells := 0, slots := 0, locals := 0 }
abbrev wzX12_sizeOf : List Cond := .code yX12_sizeOf cX12_sizeOf 7 (some .long) :: zW
def rmX12_box (d : Nat) : Room := { frames := d + 4, cells := 0, slots := 0, locals := 30 * d + 89 }
abbrev wzX12_box : List Cond := .code yX12_box cX12_box 11 none :: zW
def rmX12_goes (d : Nat) : Room := { frames := d + 4, cells := 0, slots := 0, locals := 30 * d + 89 }
abbrev wzX12_goes : List Cond := .code yX12_goes cX12_goes 11 none :: zW
theorem fX12_sizeOf_33 : zfl wzX12_sizeOf RX12 vwCl 33 12 19 := ⟨_, _, _, rfl, (fun w h => List.mem_cons_of_mem _ (zWuX12 w h)), by decide, List.mem_cons_of_mem _ (zWi_9 _ (List.mem_of_getElem? (i := 22) rfl))⟩
theorem fX12_box_33 : zfl wzX12_box RX12 vwCl 33 12 19 := ⟨_, _, _, rfl, (fun w h => List.mem_cons_of_mem _ (zWuX12 w h)), by decide, List.mem_cons_of_mem _ (zWi_9 _ (List.mem_of_getElem? (i := 22) rfl))⟩
theorem fX12_box_9 : zfl wzX12_box RX12 vwCl 9 12 0 := ⟨_, _, _, rfl, (fun w h => List.mem_cons_of_mem _ (zWuX12 w h)), by decide, List.mem_cons_of_mem _ (zWi_9 _ (List.mem_of_getElem? (i := 39) rfl))⟩
theorem fX12_box_36 : zfl wzX12_box RX12 vwCl 36 12 20 := ⟨_, _, _, rfl, (fun w h => List.mem_cons_of_mem _ (zWuX12 w h)), by decide, List.mem_cons_of_mem _ (zWi_9 _ (List.mem_of_getElem? (i := 23) rfl))⟩
theorem kX12_box_244 (d : Nat) : ∀ (s9 : State) (a9 : Array Value), (∀ w ∈ wzX12_box, w.before a9 s9 = true) → CallW (rmX12_box d) s9 a9 RX12 RX12 244 yX12_sizeOf cX12_sizeOf 7 (some .long) wzX12_sizeOf rmX12_sizeOf 0 0 6 := zcV (zWi_22 _ (List.mem_of_getElem? (i := 39) rfl)) (zWi_15 _ (List.mem_of_getElem? (i := 17) rfl)) (zWi_28 _ (List.mem_of_getElem? (i := 8) rfl)) (zWi_12 _ (List.mem_of_getElem? (i := 13) rfl)) (zWi_3 _ (List.mem_of_getElem? (i := 49) rfl)) (by decide +kernel) rfl rfl ⟨(by simp only [rmX12_box, rmX12_sizeOf]; omega), (by simp only [rmX12_box, rmX12_sizeOf]; omega)⟩
theorem kX12_box_248 (d : Nat) : ∀ (s9 : State) (a9 : Array Value), (∀ w ∈ wzX12_box, w.before a9 s9 = true) → CallW (rmX12_box d) s9 a9 RX12 RX12 248 yX12_lowOf cX12_lowOf 2 (some .int) wzX12_lowOf rmX12_lowOf 0 0 1 := zcV (zWi_22 _ (List.mem_of_getElem? (i := 40) rfl)) (zWi_14 _ (List.mem_of_getElem? (i := 38) rfl)) (zWi_27 _ (List.mem_of_getElem? (i := 29) rfl)) (zWi_12 _ (List.mem_of_getElem? (i := 13) rfl)) (zWi_3 _ (List.mem_of_getElem? (i := 20) rfl)) (by decide +kernel) rfl rfl ⟨(by simp only [rmX12_box, rmX12_lowOf]; omega), (by simp only [rmX12_box, rmX12_lowOf]; omega)⟩
theorem kX12_box_251 (d : Nat) : ∀ (s9 : State) (a9 : Array Value), (∀ w ∈ wzX12_box, w.before a9 s9 = true) → CallW (rmX12_box d) s9 a9 RX12 RX12 251 yX12_highOf cX12_highOf 2 (some .int) wzX12_highOf rmX12_highOf 0 0 1 := zcV (zWi_22 _ (List.mem_of_getElem? (i := 41) rfl)) (zWi_14 _ (List.mem_of_getElem? (i := 22) rfl)) (zWi_27 _ (List.mem_of_getElem? (i := 14) rfl)) (zWi_12 _ (List.mem_of_getElem? (i := 13) rfl)) (zWi_3 _ (List.mem_of_getElem? (i := 1) rfl)) (by decide +kernel) rfl rfl ⟨(by simp only [rmX12_box, rmX12_highOf]; omega), (by simp only [rmX12_box, rmX12_highOf]; omega)⟩
theorem kX12_box_254 (d : Nat) : ∀ (s9 : State) (a9 : Array Value), (∀ w ∈ wzX12_box, w.before a9 s9 = true) → CallW (rmX12_box (d + 1)) s9 a9 RX12 RX12 254 yX12_goes cX12_goes 11 none wzX12_goes (rmX12_goes d) 0 0 8 := zcV (zWi_22 _ (List.mem_of_getElem? (i := 42) rfl)) (zWi_14 _ (List.mem_of_getElem? (i := 18) rfl)) (zWi_27 _ (List.mem_of_getElem? (i := 10) rfl)) (zWi_12 _ (List.mem_of_getElem? (i := 13) rfl)) (zWi_2 _ (List.mem_of_getElem? (i := 47) rfl)) (by decide +kernel) rfl rfl ⟨(by simp only [rmX12_box, rmX12_goes]; omega), (by simp only [rmX12_box, rmX12_goes]; omega)⟩
theorem kX12_box_123 : zml_mmax wzX12_box RX12 123 := ⟨List.mem_cons_of_mem _ (zWi_22 _ (List.mem_of_getElem? (i := 20) rfl)), List.mem_cons_of_mem _ (zWi_30 _ (List.mem_of_getElem? (i := 2) rfl)), List.mem_cons_of_mem _ (zWi_12 _ (List.mem_of_getElem? (i := 0) rfl)), List.mem_cons_of_mem _ (zWi_0 _ (List.mem_of_getElem? (i := 27) rfl))⟩
theorem kX12_box_228 : zml_mmin wzX12_box RX12 228 := ⟨List.mem_cons_of_mem _ (zWi_22 _ (List.mem_of_getElem? (i := 36) rfl)), List.mem_cons_of_mem _ (zWi_30 _ (List.mem_of_getElem? (i := 3) rfl)), List.mem_cons_of_mem _ (zWi_12 _ (List.mem_of_getElem? (i := 0) rfl)), List.mem_cons_of_mem _ (zWi_0 _ (List.mem_of_getElem? (i := 28) rfl))⟩
theorem fX12_goes_9 : zfl wzX12_goes RX12 vwCl 9 12 0 := ⟨_, _, _, rfl, (fun w h => List.mem_cons_of_mem _ (zWuX12 w h)), by decide, List.mem_cons_of_mem _ (zWi_9 _ (List.mem_of_getElem? (i := 39) rfl))⟩
theorem fX12_goes_36 : zfl wzX12_goes RX12 vwCl 36 12 20 := ⟨_, _, _, rfl, (fun w h => List.mem_cons_of_mem _ (zWuX12 w h)), by decide, List.mem_cons_of_mem _ (zWi_9 _ (List.mem_of_getElem? (i := 23) rfl))⟩
theorem kX12_goes_240 (d : Nat) : ∀ (s9 : State) (a9 : Array Value), (∀ w ∈ wzX12_goes, w.before a9 s9 = true) → CallW (rmX12_goes (d + 1)) s9 a9 RX12 RX12 240 yX12_box cX12_box 11 none wzX12_box (rmX12_box d) 0 0 7 := zcV (zWi_22 _ (List.mem_of_getElem? (i := 38) rfl)) (zWi_13 _ (List.mem_of_getElem? (i := 46) rfl)) (zWi_26 _ (List.mem_of_getElem? (i := 38) rfl)) (zWi_12 _ (List.mem_of_getElem? (i := 13) rfl)) (zWi_2 _ (List.mem_of_getElem? (i := 25) rfl)) (by decide +kernel) rfl rfl ⟨(by simp only [rmX12_goes, rmX12_box]; omega), (by simp only [rmX12_goes, rmX12_box]; omega)⟩
theorem kX12_goes_120 (d : Nat) : ∀ (s9 : State) (a9 : Array Value), (∀ w ∈ wzX12_goes, w.before a9 s9 = true) → CallW (rmX12_goes d) s9 a9 RX12 RX12 120 yX12_isGood cX12_isGood 2 (some .boolean) wzX12_isGood rmX12_isGood 0 0 1 := zcV (zWi_22 _ (List.mem_of_getElem? (i := 19) rfl)) (zWi_14 _ (List.mem_of_getElem? (i := 28) rfl)) (zWi_27 _ (List.mem_of_getElem? (i := 19) rfl)) (zWi_12 _ (List.mem_of_getElem? (i := 13) rfl)) (zWi_3 _ (List.mem_of_getElem? (i := 8) rfl)) (by decide +kernel) rfl rfl ⟨(by simp only [rmX12_goes, rmX12_isGood]; omega), (by simp only [rmX12_goes, rmX12_isGood]; omega)⟩
theorem kX12_goes_244 (d : Nat) : ∀ (s9 : State) (a9 : Array Value), (∀ w ∈ wzX12_goes, w.before a9 s9 = true) → CallW (rmX12_goes d) s9 a9 RX12 RX12 244 yX12_sizeOf cX12_sizeOf 7 (some .long) wzX12_sizeOf rmX12_sizeOf 0 0 6 := zcV (zWi_22 _ (List.mem_of_getElem? (i := 39) rfl)) (zWi_15 _ (List.mem_of_getElem? (i := 17) rfl)) (zWi_28 _ (List.mem_of_getElem? (i := 8) rfl)) (zWi_12 _ (List.mem_of_getElem? (i := 13) rfl)) (zWi_3 _ (List.mem_of_getElem? (i := 49) rfl)) (by decide +kernel) rfl rfl ⟨(by simp only [rmX12_goes, rmX12_sizeOf]; omega), (by simp only [rmX12_goes, rmX12_sizeOf]; omega)⟩
def sp_X12_sizeOf (as : List zV) (M : zM) (Q : Option zV → zM → Prop) : Prop := ∃ (a0 a1 b0 b1 c0 c1 : Int), as = [zR 180, zI a0, zI a1, zI b0, zI b1, zI c0, zI c1] ∧ (0 ≤ a0 ∧ a0 ≤ a1 ∧ a1 ≤ 99) ∧ (0 ≤ b0 ∧ b0 ≤ b1 ∧ b1 ≤ 99) ∧ (0 ≤ c0 ∧ c0 ≤ c1 ∧ c1 ≤ 99) ∧ (∀ x, x ≤ 100 → 0 ≤ M 186 x ∧ M 186 x ≤ 100) ∧ (Q (some (zL ((a1 - a0 + 1) * (b1 - b0 + 1) * (M 186 (c1 + 1).toNat - M 186 c0.toNat)))) M)
theorem us_X12_sizeOf {a0 a1 b0 b1 c0 c1 : Int} {M : zM} {Q : Option zV → zM → Prop} (ha : 0 ≤ a0 ∧ a0 ≤ a1 ∧ a1 ≤ 99) (hb : 0 ≤ b0 ∧ b0 ≤ b1 ∧ b1 ≤ 99) (hc : 0 ≤ c0 ∧ c0 ≤ c1 ∧ c1 ≤ 99) (hr : ∀ x, x ≤ 100 → 0 ≤ M 186 x ∧ M 186 x ≤ 100) (hQ : Q (some (zL ((a1 - a0 + 1) * (b1 - b0 + 1) * (M 186 (c1 + 1).toNat - M 186 c0.toNat)))) M) : sp_X12_sizeOf [zR 180, zI a0, zI a1, zI b0, zI b1, zI c0, zI c1] M Q := ⟨a0, a1, b0, b1, c0, c1, rfl, ha, hb, hc, hr, hQ⟩
set_option maxRecDepth 20000 in
set_option maxHeartbeats 4000000 in
theorem m_X12_sizeOf (l : Launch) : zC l yX12_sizeOf wzX12_sizeOf rmX12_sizeOf sp_X12_sizeOf := by
  refine zMet.of RX12 (by decide +kernel) rfl rfl ?_
  intro E X as M Qp hX S hsp
  obtain ⟨a0, a1, b0, b1, c0, c1, rfl, ha, hb, hc, hr, hQ⟩ := hsp
  refine ⟨Nat.le_of_ble_eq_true rfl, ?_⟩
  dsimp only [zpad, zargs]
  have r1 := hr (c1 + 1).toNat (by omega)
  have r0 := hr c0.toNat (by omega)
  have m1 := zmulr (a := a1 - a0 + 1) (A := 100) (b := b1 - b0 + 1) (B := 100) (by omega) (by omega) (by omega) (by omega)
  have m2 : -1000000 ≤ (a1 - a0 + 1) * (b1 - b0 + 1) * (M 186 (c1 + 1).toNat - M 186 c0.toNat) ∧ (a1 - a0 + 1) * (b1 - b0 + 1) * (M 186 (c1 + 1).toNat - M 186 c0.toNat) ≤ 1000000 := by
    have p1 := zmulr (a := (a1 - a0 + 1) * (b1 - b0 + 1)) (A := 10000) (b := M 186 (c1 + 1).toNat) (B := 100) (by omega) (by omega) (by omega) (by omega)
    have p2 := zmulr (a := (a1 - a0 + 1) * (b1 - b0 + 1)) (A := 10000) (b := M 186 c0.toNat) (B := 100) (by omega) (by omega) (by omega) (by omega)
    rw [Int.mul_sub]
    omega
  refine zr_iload_n (pc := 0) S dX12_sizeOf_0 rfl ?_
  refine zr_iload_n (pc := 1) S dX12_sizeOf_1 rfl ?_
  refine zr_isub (pc := 2) S dX12_sizeOf_2 (by unfold zrI; omega) ?_
  refine zr_iconst (pc := 3) S dX12_sizeOf_3 (by unfold zrI; omega) ?_
  refine zr_iadd (pc := 4) S dX12_sizeOf_4 (by unfold zrI; omega) ?_
  refine zr_i2l (pc := 5) S dX12_sizeOf_5 ?_
  refine zr_iload (pc := 6) S dX12_sizeOf_6 rfl ?_
  refine zr_iload_n (pc := 8) S dX12_sizeOf_8 rfl ?_
  refine zr_isub (pc := 9) S dX12_sizeOf_9 (by unfold zrI; omega) ?_
  refine zr_iconst (pc := 10) S dX12_sizeOf_10 (by unfold zrI; omega) ?_
  refine zr_iadd (pc := 11) S dX12_sizeOf_11 (by unfold zrI; omega) ?_
  refine zr_i2l (pc := 12) S dX12_sizeOf_12 ?_
  refine zr_lmul (pc := 13) S dX12_sizeOf_13 (by unfold zrL; omega) ?_
  refine zr_aload_n (pc := 14) S dX12_sizeOf_14 rfl ?_
  refine zr_getR (pc := 15) S fX12_sizeOf_33 dX12_sizeOf_15 rfl (Nat.le_of_ble_eq_true rfl) rfl ?_
  refine zr_iload (pc := 18) S dX12_sizeOf_18 rfl ?_
  refine zr_iconst (pc := 20) S dX12_sizeOf_20 (by unfold zrI; omega) ?_
  refine zr_iadd (pc := 21) S dX12_sizeOf_21 (by unfold zrI; omega) ?_
  refine zr_iaload (pc := 22) S dX12_sizeOf_22 rfl (Nat.le_of_ble_eq_true rfl) (by omega) (by omega) ?_
  refine zr_aload_n (pc := 23) S dX12_sizeOf_23 rfl ?_
  refine zr_getR (pc := 24) S fX12_sizeOf_33 dX12_sizeOf_24 rfl (Nat.le_of_ble_eq_true rfl) rfl ?_
  refine zr_iload (pc := 27) S dX12_sizeOf_27 rfl ?_
  refine zr_iaload (pc := 29) S dX12_sizeOf_29 rfl (Nat.le_of_ble_eq_true rfl) (by omega) (by omega) ?_
  refine zr_isub (pc := 30) S dX12_sizeOf_30 (by unfold zrI; omega) ?_
  refine zr_i2l (pc := 31) S dX12_sizeOf_31 ?_
  refine zr_lmul (pc := 32) S dX12_sizeOf_32 (by unfold zrL; omega) ?_
  exact zr_lret (pc := 33) S dX12_sizeOf_33 rfl ⟨Nat.le_refl _, Nat.le_refl _⟩ (hQ)
/-- what a count by boxes stands on -/
def BP (V M : zM) (lo hi : Int) : Prop := AG V (vv M) ∧ ICg V ∧ ICs V ∧ ICk (M 181) ∧ -1 ≤ M 180 16 ∧ (0 ≤ lo ∧ hi ≤ 99) ∧ (∀ c0 c1 : Int, 0 ≤ c0 → c0 ≤ c1 → c1 ≤ 99 → M 186 (c1 + 1).toNat - M 186 c0.toNat = rcN V lo hi c0 c1) ∧ ∀ x, x ≤ 100 → 0 ≤ M 186 x ∧ M 186 x ≤ 100
theorem vm_got (M : zM) (G : Nat → Int) : ∀ k, k < 36 → vm (zrow M 187 G) k = vm M k := fun k hk => by
  show vw (zrow M 187 G 181) (zrow M 187 G) k = vw (M 181) M k
  have e : ∀ c, c < 36 → zrow M 187 G c = M c := fun c hc => zrow_o (by omega)
  have et : zrow M 187 G 181 = M 181 := zrow_o (by decide)
  rw [et]
  funext j
  unfold vw
  split <;> first | rfl | (rw [e _ (by omega)])
theorem vv_got (M : zM) (G : Nat → Int) : ∀ k, k < 36 → vv (zrow M 187 G) k = vv M k := fun k hk => by
  have em : zrow M 187 G 180 = M 180 := zrow_o (by decide)
  unfold vv
  rw [em]
  split
  · exact vm_got M G k hk
  · by_cases h1 : k = 14
    · subst h1
      funext j
      by_cases hj : j = (M 180 16).toNat
      · rw [hj, zup_e, zup_e]
      · rw [zup_j hj, zup_j hj, zup_k (by decide), zup_k (by decide), vm_got M G _ (by decide)]
    · rw [zup_o k h1, zup_o k h1]
      by_cases h2 : k = 13
      · subst h2
        funext j
        unfold zup
        rw [if_pos rfl, if_pos rfl, vm_got M G _ (by decide)]
      · rw [zup_o k h2, zup_o k h2]
        exact vm_got M G k hk
theorem BP.g {V M : zM} {lo hi : Int} (h : BP V M lo hi) (G : Nat → Int) : BP V (zrow M 187 G) lo hi := by
  obtain ⟨h1, h2, h3, h4, h5, h6, h7, h8⟩ := h
  have em : zrow M 187 G 180 = M 180 := zrow_o (by decide)
  have et : zrow M 187 G 181 = M 181 := zrow_o (by decide)
  have er : zrow M 187 G 186 = M 186 := zrow_o (by decide)
  exact ⟨fun k hk => by rw [vv_got M G k hk]; exact h1 k hk, h2, h3, by rw [et]; exact h4, by rw [em]; exact h5, h6, by rw [er]; exact h7, by rw [er]; exact h8⟩
theorem BP.v {V M : zM} {lo hi : Int} (h : BP V M lo hi) {g : Nat} (hg : (g : Int) < M 181 1) : V 12 g = M 181 (103 + 7 * g) ∧ V 13 g = vv M 13 g ∧ V 14 g = vv M 14 g ∧ V 15 g = gcode (M 181 (106 + 7 * g)) (M 181 (107 + 7 * g)) ∧ V 16 g = gcode (M 181 (108 + 7 * g)) (M 181 (109 + 7 * g)) := by
  have a := vm_gate hg
  refine ⟨?_, ?_, ?_, ?_, ?_⟩
  · rw [← h.1 _ (by decide), vv_o (by decide), a.1]
  · rw [h.1 _ (by decide)]
  · rw [h.1 _ (by decide)]
  · rw [← h.1 _ (by decide), vv_o (by decide), a.2.2.2.1]
  · rw [← h.1 _ (by decide), vv_o (by decide), a.2.2.2.2]
theorem BP.m {V M : zM} {lo hi : Int} (h : BP V M lo hi) : V 11 0 = M 181 1 ∧ (0 ≤ M 181 1 ∧ M 181 1 ≤ 8) ∧ V 2 0 = M 181 0 ∧ (0 ≤ M 181 0 ∧ M 181 0 ≤ 8) := by
  have e1 : V 11 0 = M 181 1 := by rw [← h.1 _ (by decide), vv_o (by decide)]; rfl
  have e2 : V 2 0 = M 181 0 := by rw [← h.1 _ (by decide), vv_o (by decide)]; rfl
  have a := h.2.1.1
  have b := h.2.2.1.1
  rw [e1] at a
  rw [e2] at b
  exact ⟨e1, a, e2, b⟩
theorem BP.good {V M : zM} {lo hi : Int} (h : BP V M lo hi) (c : Int) : isGood (vm M) c ↔ isGood V c := by
  unfold isGood
  rw [← h.1 2 (by decide), ← h.1 4 (by decide), ← h.1 5 (by decide), ← h.1 6 (by decide), ← h.1 3 (by decide), vv_o (by decide), vv_o (by decide), vv_o (by decide), vv_o (by decide), vv_o (by decide)]
abbrev rgB (a0 a1 : Int) : Prop := 0 ≤ a0 ∧ a0 ≤ 100 ∧ -1 ≤ a1 ∧ a1 ≤ 99
def gotR (M : zM) (C : Int) : Prop := ∀ k, k < 9 → 0 ≤ M 187 k ∧ M 187 k ≤ C
def sp_X12_box (d : Nat) (as : List zV) (M : zM) (Q : Option zV → zM → Prop) : Prop := ∃ (f g : Nat) (V : zM) (lo hi a0 a1 b0 b1 c0 c1 C : Int), as = [zR 180, zI g, zI a0, zI a1, zI b0, zI b1, zI c0, zI c1] ∧ 2 * f ≤ d ∧ BP V M lo hi ∧ (8 < f + g ∧ g ≤ 10) ∧ rgB a0 a1 ∧ rgB b0 b1 ∧ rgB c0 c1 ∧ gotR M C ∧ C + 10000000 * (f + 1) ≤ 1000000000000 ∧ ∀ G, (∀ k, k < 9 → G k = M 187 k + bxS V lo hi (fun w b r => gw V (inG V w b r) f g) k a0 a1 b0 b1 c0 c1) → Q none (zrow M 187 G)
theorem us_X12_box {d f g : Nat} {V M : zM} {lo hi a0 a1 b0 b1 c0 c1 C : Int} {Q : Option zV → zM → Prop} (h1 : 2 * f ≤ d) (h2 : BP V M lo hi) (h3 : 8 < f + g ∧ g ≤ 10) (ha : rgB a0 a1) (hb : rgB b0 b1) (hc : rgB c0 c1) (hG : gotR M C) (hC : C + 10000000 * (f + 1) ≤ 1000000000000) (h : ∀ G, (∀ k, k < 9 → G k = M 187 k + bxS V lo hi (fun w b r => gw V (inG V w b r) f g) k a0 a1 b0 b1 c0 c1) → Q none (zrow M 187 G)) : sp_X12_box d [zR 180, zI g, zI a0, zI a1, zI b0, zI b1, zI c0, zI c1] M Q := ⟨f, g, V, lo, hi, a0, a1, b0, b1, c0, c1, C, rfl, h1, h2, h3, ha, hb, hc, hG, hC, h⟩
def sp_X12_goes (d : Nat) (as : List zV) (M : zM) (Q : Option zV → zM → Prop) : Prop := ∃ (f g : Nat) (y : Int) (V : zM) (lo hi a0 a1 b0 b1 c0 c1 C : Int), as = [zR 180, zI g, zI y, zI a0, zI a1, zI b0, zI b1, zI c0, zI c1] ∧ 2 * f + 1 ≤ d ∧ (y = 3 ∨ y = 5) ∧ BP V M lo hi ∧ (g : Int) < M 181 1 ∧ (8 < f + 1 + g) ∧ rgB a0 a1 ∧ rgB b0 b1 ∧ rgB c0 c1 ∧ gotR M C ∧ C + 10000000 * (f + 1) ≤ 1000000000000 ∧ ∀ G, (∀ k, k < 9 → G k = M 187 k + bxS V lo hi (fun w b r => og V (inG V w b r) f g (if y = 3 then V 15 g else V 16 g)) k a0 a1 b0 b1 c0 c1) → Q none (zrow M 187 G)
theorem us_X12_goes {d f g : Nat} {y : Int} {V M : zM} {lo hi a0 a1 b0 b1 c0 c1 C : Int} {Q : Option zV → zM → Prop} (h1 : 2 * f + 1 ≤ d) (hy : y = 3 ∨ y = 5) (h2 : BP V M lo hi) (hg : (g : Int) < M 181 1) (h3 : 8 < f + 1 + g) (ha : rgB a0 a1) (hb : rgB b0 b1) (hc : rgB c0 c1) (hG : gotR M C) (hC : C + 10000000 * (f + 1) ≤ 1000000000000) (h : ∀ G, (∀ k, k < 9 → G k = M 187 k + bxS V lo hi (fun w b r => og V (inG V w b r) f g (if y = 3 then V 15 g else V 16 g)) k a0 a1 b0 b1 c0 c1) → Q none (zrow M 187 G)) : sp_X12_goes d [zR 180, zI g, zI y, zI a0, zI a1, zI b0, zI b1, zI c0, zI c1] M Q := ⟨f, g, y, V, lo, hi, a0, a1, b0, b1, c0, c1, C, rfl, h1, hy, h2, hg, h3, ha, hb, hc, hG, hC, h⟩
theorem dG_add {M : zM} {x : Nat} {S : Int} {o : Int} (hx : x = ixG o) (k : Nat) : rUp (M 187) x (M 187 x + S) k = M 187 k + dG k o * S := by
  unfold rUp dG
  by_cases h : k = x
  · rw [if_pos h, if_pos (by rw [h, hx]), Int.one_mul, h]
  · rw [if_neg h, if_neg (by rw [← hx]; omega), Int.zero_mul, Int.add_zero]
theorem st_X12_goes (l : Launch) (e : Nat) (IH : zC l yX12_box wzX12_box (rmX12_box e) (sp_X12_box e)) : zC l yX12_goes wzX12_goes (rmX12_goes (e + 1)) (sp_X12_goes (e + 1)) := by
  refine zMet.of RX12 (by decide +kernel) rfl rfl ?_
  intro E X as M Qp hX S hsp
  obtain ⟨f, g, y, V, lo, hi, a0, a1, b0, b1, c0, c1, C, rfl, h1, hy, hB, hg, h3, ha, hb, hc, hG, hC, hQ⟩ := hsp
  refine ⟨Nat.le_of_ble_eq_true rfl, ?_⟩
  dsimp only [zpad, zargs]
  have IH2 : zC X.2.1 yX12_box wzX12_box (rmX12_box e) (sp_X12_box e) := by rw [hX]; exact IH
  have bm := hB.m
  have bv := hB.v hg
  have kk := hB.2.2.2.1 g hg
  have g8 : g < 8 := by omega
  have key : a0 ≤ a1 → b0 ≤ b1 → c0 ≤ c1 → zK (zg E) (rmX12_goes (e + 1)) 11 (Qp, 0, 0) X (0, 0) 21 [some (zR 180), some (zI g), some (zI y), some (zI a0), some (zI a1), some (zI b0), some (zI b1), some (zI c0), some (zI c1), none, none] [] M := by
    intro A B D
    obtain ⟨z, hz, hz5⟩ : ∃ z : Nat, (103 : Int) + 7 * (g : Int) + y = z ∧ z < 200 := ⟨((103 : Int) + 7 * (g : Int) + y).toNat, by omega, by omega⟩
    have ez : ((103 : Int) + 7 * (g : Int) + y).toNat = z := by omega
    have ez1 : ((103 : Int) + 7 * (g : Int) + y + 1).toNat = z + 1 := by omega
    have ecd : (if y = 3 then V 15 g else V 16 g) = gcode (M 181 z) (M 181 (z + 1)) := by
      rcases hy with rfl | rfl
      · rw [if_pos rfl, bv.2.2.2.1]
        congr 2 <;> omega
      · rw [if_neg (by decide), bv.2.2.2.2]
        congr 2 <;> omega
    have kz : (0 ≤ M 181 z ∧ M 181 z ≤ 3) ∧ (0 ≤ M 181 (z + 1) ∧ M 181 (z + 1) ≤ 7) := by
      rcases hy with rfl | rfl
      · rw [show z = 106 + 7 * g by omega, show 106 + 7 * g + 1 = 107 + 7 * g by omega]; exact ⟨kk.1, kk.2.1⟩
      · rw [show z = 108 + 7 * g by omega, show 108 + 7 * g + 1 = 109 + 7 * g by omega]; exact ⟨kk.2.2.1, kk.2.2.2⟩
    rw [ecd] at hQ
    have rr := hB.2.2.2.2.2.2.1 c0 c1 hc.1 D hc.2.2.2
    have leaf : ∀ (o : Int) (x : Nat), x = ixG o → (∀ w b r : Int, og V (inG V w b r) f g (gcode (M 181 z) (M 181 (z + 1))) = o) → Qp none (zup M 187 x (M 187 x + (a1 - a0 + 1) * (b1 - b0 + 1) * (M 186 (c1 + 1).toNat - M 186 c0.toNat))) := by
      intro o x hx ho
      rw [up_zrow]
      refine hQ _ (fun k hk => ?_)
      rw [dG_add hx, bxS_k (z := o) ⟨ha.1, A, ha.2.2.2⟩ ⟨hb.1, B, hb.2.2.2⟩ (fun w b r _ => ho w b r), rr]
    have sr : ∀ x : Nat, x < 9 → zrL (M 187 x + (a1 - a0 + 1) * (b1 - b0 + 1) * (M 186 (c1 + 1).toNat - M 186 c0.toNat)) := fun x hx => by
      have g1 := hG x hx
      have q := bxS_k (V := V) (lo := lo) (hi := hi) (o := fun _ _ _ => 0) (k := 0) (z := 0) (c0 := c0) (c1 := c1) ⟨ha.1, A, ha.2.2.2⟩ ⟨hb.1, B, hb.2.2.2⟩ (fun _ _ _ _ => rfl)
      have q2 := bxS_r V lo hi (fun _ _ _ => 0) 0 a0 a1 b0 b1 c0 c1
      rw [q, show dG 0 0 = 1 from rfl, Int.one_mul, ← rr] at q2
      unfold zrL
      omega
    have e8 : ∀ x : Nat, ((x : Int)).toNat = x := fun x => Int.toNat_natCast x
    by_cases k0 : M 181 z = 0
    · have hcd : gcode (M 181 z) (M 181 (z + 1)) = -2 := by unfold gcode; rw [if_pos k0]
      refine zr_aload_n (pc := 21) S dX12_goes_21 rfl ?_
      refine zr_getR (pc := 22) S fX12_goes_9 dX12_goes_22 rfl (Nat.le_of_ble_eq_true rfl) rfl ?_
      refine zr_bipush (pc := 25) S dX12_goes_25 ⟨by unfold zrI; omega, by decide⟩ ?_
      refine zr_bipush (pc := 27) S dX12_goes_27 ⟨by unfold zrI; omega, by decide⟩ ?_
      refine zr_iload_n (pc := 29) S dX12_goes_29 rfl ?_
      refine zr_imul (pc := 30) S dX12_goes_30 (by unfold zrI; omega) ?_
      refine zr_iadd (pc := 31) S dX12_goes_31 (by unfold zrI; omega) ?_
      refine zr_iload_n (pc := 32) S dX12_goes_32 rfl ?_
      refine zr_iadd (pc := 33) S dX12_goes_33 (by unfold zrI; omega) ?_
      refine zr_iaload (pc := 34) S dX12_goes_34 rfl (Nat.le_of_ble_eq_true rfl) (by omega) (by omega) ?_
      rw [ez]
      refine zr_istore (pc := 35) S dX12_goes_35 (by decide) ?_
      dsimp only [zst1, zst2, zset, zget, zlong]
      refine zr_aload_n (pc := 37) S dX12_goes_37 rfl ?_
      refine zr_getR (pc := 38) S fX12_goes_9 dX12_goes_38 rfl (Nat.le_of_ble_eq_true rfl) rfl ?_
      refine zr_bipush (pc := 41) S dX12_goes_41 ⟨by unfold zrI; omega, by decide⟩ ?_
      refine zr_bipush (pc := 43) S dX12_goes_43 ⟨by unfold zrI; omega, by decide⟩ ?_
      refine zr_iload_n (pc := 45) S dX12_goes_45 rfl ?_
      refine zr_imul (pc := 46) S dX12_goes_46 (by unfold zrI; omega) ?_
      refine zr_iadd (pc := 47) S dX12_goes_47 (by unfold zrI; omega) ?_
      refine zr_iload_n (pc := 48) S dX12_goes_48 rfl ?_
      refine zr_iadd (pc := 49) S dX12_goes_49 (by unfold zrI; omega) ?_
      refine zr_iconst (pc := 50) S dX12_goes_50 (by unfold zrI; omega) ?_
      refine zr_iadd (pc := 51) S dX12_goes_51 (by unfold zrI; omega) ?_
      refine zr_iaload (pc := 52) S dX12_goes_52 rfl (Nat.le_of_ble_eq_true rfl) (by omega) (by omega) ?_
      rw [ez1]
      refine zr_istore (pc := 53) S dX12_goes_53 (by decide) ?_
      dsimp only [zst1, zst2, zset, zget, zlong]
      refine zr_iload (pc := 55) S dX12_goes_55 rfl ?_
      refine zr_if_ne (pc := 57) (tgt := 81) S dX12_goes_57 (by decide) (fun c57 => absurd c57 (by omega)) (fun c57 => ?_)
      refine zr_aload_n (pc := 60) S dX12_goes_60 rfl ?_
      refine zr_iload_n (pc := 61) S dX12_goes_61 rfl ?_
      refine zr_iconst (pc := 62) S dX12_goes_62 (by unfold zrI; omega) ?_
      refine zr_iadd (pc := 63) S dX12_goes_63 (by unfold zrI; omega) ?_
      refine zr_iload_n (pc := 64) S dX12_goes_64 rfl ?_
      refine zr_iload (pc := 65) S dX12_goes_65 rfl ?_
      refine zr_iload (pc := 67) S dX12_goes_67 rfl ?_
      refine zr_iload (pc := 69) S dX12_goes_69 rfl ?_
      refine zr_iload (pc := 71) S dX12_goes_71 rfl ?_
      refine zr_iload (pc := 73) S dX12_goes_73 rfl ?_
      refine zr_invV (pc := 75) S [zI _, zI _, zI _, zI _, zI _, zI _, zI _] IH2 (kX12_goes_240 (e)) dX12_goes_75 rfl (Nat.le_of_ble_eq_true rfl) rfl (Nat.le_of_ble_eq_true rfl) ⟨Nat.le_of_ble_eq_true rfl, Nat.le_of_ble_eq_true rfl⟩ (us_X12_box (f := f) (g := g + 1) (V := V) (C := C) (by omega) hB (by omega) ha hb hc hG hC ?_)
      dsimp only [zaft, Option.toList, List.cons_append, List.nil_append, Nat.add_zero]
      intro G hGk
      refine zr_goto (pc := 78) (tgt := 153) S dX12_goes_78 (by decide) ?_
      exact zr_vret (pc := 153) S dX12_goes_153 rfl ⟨Nat.le_refl _, Nat.le_refl _⟩ (hQ G (fun k hk => by rw [hGk k hk]; unfold og; simp only [if_pos hcd]))
    · by_cases k1 : M 181 z = 1
      · have hcd : gcode (M 181 z) (M 181 (z + 1)) = -3 := by unfold gcode; rw [if_neg k0, if_pos k1]
        refine zr_aload_n (pc := 21) S dX12_goes_21 rfl ?_
        refine zr_getR (pc := 22) S fX12_goes_9 dX12_goes_22 rfl (Nat.le_of_ble_eq_true rfl) rfl ?_
        refine zr_bipush (pc := 25) S dX12_goes_25 ⟨by unfold zrI; omega, by decide⟩ ?_
        refine zr_bipush (pc := 27) S dX12_goes_27 ⟨by unfold zrI; omega, by decide⟩ ?_
        refine zr_iload_n (pc := 29) S dX12_goes_29 rfl ?_
        refine zr_imul (pc := 30) S dX12_goes_30 (by unfold zrI; omega) ?_
        refine zr_iadd (pc := 31) S dX12_goes_31 (by unfold zrI; omega) ?_
        refine zr_iload_n (pc := 32) S dX12_goes_32 rfl ?_
        refine zr_iadd (pc := 33) S dX12_goes_33 (by unfold zrI; omega) ?_
        refine zr_iaload (pc := 34) S dX12_goes_34 rfl (Nat.le_of_ble_eq_true rfl) (by omega) (by omega) ?_
        rw [ez]
        refine zr_istore (pc := 35) S dX12_goes_35 (by decide) ?_
        dsimp only [zst1, zst2, zset, zget, zlong]
        refine zr_aload_n (pc := 37) S dX12_goes_37 rfl ?_
        refine zr_getR (pc := 38) S fX12_goes_9 dX12_goes_38 rfl (Nat.le_of_ble_eq_true rfl) rfl ?_
        refine zr_bipush (pc := 41) S dX12_goes_41 ⟨by unfold zrI; omega, by decide⟩ ?_
        refine zr_bipush (pc := 43) S dX12_goes_43 ⟨by unfold zrI; omega, by decide⟩ ?_
        refine zr_iload_n (pc := 45) S dX12_goes_45 rfl ?_
        refine zr_imul (pc := 46) S dX12_goes_46 (by unfold zrI; omega) ?_
        refine zr_iadd (pc := 47) S dX12_goes_47 (by unfold zrI; omega) ?_
        refine zr_iload_n (pc := 48) S dX12_goes_48 rfl ?_
        refine zr_iadd (pc := 49) S dX12_goes_49 (by unfold zrI; omega) ?_
        refine zr_iconst (pc := 50) S dX12_goes_50 (by unfold zrI; omega) ?_
        refine zr_iadd (pc := 51) S dX12_goes_51 (by unfold zrI; omega) ?_
        refine zr_iaload (pc := 52) S dX12_goes_52 rfl (Nat.le_of_ble_eq_true rfl) (by omega) (by omega) ?_
        rw [ez1]
        refine zr_istore (pc := 53) S dX12_goes_53 (by decide) ?_
        dsimp only [zst1, zst2, zset, zget, zlong]
        refine zr_iload (pc := 55) S dX12_goes_55 rfl ?_
        refine zr_if_ne (pc := 57) (tgt := 81) S dX12_goes_57 (by decide) (fun c57 => ?_) (fun c57 => absurd c57 (by omega))
        refine zr_iload (pc := 81) S dX12_goes_81 rfl ?_
        refine zr_iconst (pc := 83) S dX12_goes_83 (by unfold zrI; omega) ?_
        refine zr_icmp_ne (pc := 84) (tgt := 108) S dX12_goes_84 (by decide) (fun c84 => absurd c84 (by omega)) (fun c84 => ?_)
        refine zr_aload_n (pc := 87) S dX12_goes_87 rfl ?_
        refine zr_iload_n (pc := 88) S dX12_goes_88 rfl ?_
        refine zr_iconst (pc := 89) S dX12_goes_89 (by unfold zrI; omega) ?_
        refine zr_iadd (pc := 90) S dX12_goes_90 (by unfold zrI; omega) ?_
        refine zr_iload_n (pc := 91) S dX12_goes_91 rfl ?_
        refine zr_iload (pc := 92) S dX12_goes_92 rfl ?_
        refine zr_iload (pc := 94) S dX12_goes_94 rfl ?_
        refine zr_iload (pc := 96) S dX12_goes_96 rfl ?_
        refine zr_iload (pc := 98) S dX12_goes_98 rfl ?_
        refine zr_iload (pc := 100) S dX12_goes_100 rfl ?_
        refine zr_invV (pc := 102) S [zI _, zI _, zI _, zI _, zI _, zI _, zI _] IH2 (kX12_goes_240 (e)) dX12_goes_102 rfl (Nat.le_of_ble_eq_true rfl) rfl (Nat.le_of_ble_eq_true rfl) ⟨Nat.le_of_ble_eq_true rfl, Nat.le_of_ble_eq_true rfl⟩ (us_X12_box (f := f) (g := g + 2) (V := V) (C := C) (by omega) hB (by omega) ha hb hc hG hC ?_)
        dsimp only [zaft, Option.toList, List.cons_append, List.nil_append, Nat.add_zero]
        intro G hGk
        refine zr_goto (pc := 105) (tgt := 153) S dX12_goes_105 (by decide) ?_
        exact zr_vret (pc := 153) S dX12_goes_153 rfl ⟨Nat.le_refl _, Nat.le_refl _⟩ (hQ G (fun k hk => by rw [hGk k hk]; unfold og; simp only [hcd, if_neg (show ¬ (-3 : Int) = -2 by decide), if_pos rfl, if_true]))
      · have bg := hB.good (M 181 (z + 1))
        by_cases k2 : M 181 z = 2
        · have hcd : gcode (M 181 z) (M 181 (z + 1)) = M 181 (z + 1) := by unfold gcode; rw [if_neg k0, if_neg k1, if_pos k2]
          have ho : ∀ w b r : Int, og V (inG V w b r) f g (gcode (M 181 z) (M 181 (z + 1))) = if isGood V (M 181 (z + 1)) then M 181 (z + 1) else -1 := fun w b r => by unfold og; rw [hcd, if_neg (by omega), if_neg (by omega)]
          have s1 := sr (M 181 (z + 1)).toNat (by omega)
          have s8 := sr 8 (by omega)
          have l1 := fun hgd : isGood (vm M) (M 181 (z + 1)) => leaf (M 181 (z + 1)) (M 181 (z + 1)).toNat (by unfold ixG; rw [if_neg (by omega)]) (fun w b r => by rw [ho w b r, if_pos (bg.mp hgd)])
          have l8 := fun hgd : ¬ isGood (vm M) (M 181 (z + 1)) => leaf (-1) 8 rfl (fun w b r => by rw [ho w b r, if_neg (fun q => hgd (bg.mpr q))])
          refine zr_aload_n (pc := 21) S dX12_goes_21 rfl ?_
          refine zr_getR (pc := 22) S fX12_goes_9 dX12_goes_22 rfl (Nat.le_of_ble_eq_true rfl) rfl ?_
          refine zr_bipush (pc := 25) S dX12_goes_25 ⟨by unfold zrI; omega, by decide⟩ ?_
          refine zr_bipush (pc := 27) S dX12_goes_27 ⟨by unfold zrI; omega, by decide⟩ ?_
          refine zr_iload_n (pc := 29) S dX12_goes_29 rfl ?_
          refine zr_imul (pc := 30) S dX12_goes_30 (by unfold zrI; omega) ?_
          refine zr_iadd (pc := 31) S dX12_goes_31 (by unfold zrI; omega) ?_
          refine zr_iload_n (pc := 32) S dX12_goes_32 rfl ?_
          refine zr_iadd (pc := 33) S dX12_goes_33 (by unfold zrI; omega) ?_
          refine zr_iaload (pc := 34) S dX12_goes_34 rfl (Nat.le_of_ble_eq_true rfl) (by omega) (by omega) ?_
          rw [ez]
          refine zr_istore (pc := 35) S dX12_goes_35 (by decide) ?_
          dsimp only [zst1, zst2, zset, zget, zlong]
          refine zr_aload_n (pc := 37) S dX12_goes_37 rfl ?_
          refine zr_getR (pc := 38) S fX12_goes_9 dX12_goes_38 rfl (Nat.le_of_ble_eq_true rfl) rfl ?_
          refine zr_bipush (pc := 41) S dX12_goes_41 ⟨by unfold zrI; omega, by decide⟩ ?_
          refine zr_bipush (pc := 43) S dX12_goes_43 ⟨by unfold zrI; omega, by decide⟩ ?_
          refine zr_iload_n (pc := 45) S dX12_goes_45 rfl ?_
          refine zr_imul (pc := 46) S dX12_goes_46 (by unfold zrI; omega) ?_
          refine zr_iadd (pc := 47) S dX12_goes_47 (by unfold zrI; omega) ?_
          refine zr_iload_n (pc := 48) S dX12_goes_48 rfl ?_
          refine zr_iadd (pc := 49) S dX12_goes_49 (by unfold zrI; omega) ?_
          refine zr_iconst (pc := 50) S dX12_goes_50 (by unfold zrI; omega) ?_
          refine zr_iadd (pc := 51) S dX12_goes_51 (by unfold zrI; omega) ?_
          refine zr_iaload (pc := 52) S dX12_goes_52 rfl (Nat.le_of_ble_eq_true rfl) (by omega) (by omega) ?_
          rw [ez1]
          refine zr_istore (pc := 53) S dX12_goes_53 (by decide) ?_
          dsimp only [zst1, zst2, zset, zget, zlong]
          refine zr_iload (pc := 55) S dX12_goes_55 rfl ?_
          refine zr_if_ne (pc := 57) (tgt := 81) S dX12_goes_57 (by decide) (fun c57 => ?_) (fun c57 => absurd c57 (by omega))
          refine zr_iload (pc := 81) S dX12_goes_81 rfl ?_
          refine zr_iconst (pc := 83) S dX12_goes_83 (by unfold zrI; omega) ?_
          refine zr_icmp_ne (pc := 84) (tgt := 108) S dX12_goes_84 (by decide) (fun c84 => ?_) (fun c84 => absurd c84 (by omega))
          refine zr_aload_n (pc := 108) S dX12_goes_108 rfl ?_
          refine zr_getR (pc := 109) S fX12_goes_36 dX12_goes_109 rfl (Nat.le_of_ble_eq_true rfl) rfl ?_
          refine zr_iload (pc := 112) S dX12_goes_112 rfl ?_
          refine zr_iconst (pc := 114) S dX12_goes_114 (by unfold zrI; omega) ?_
          refine zr_icmp_ne (pc := 115) (tgt := 132) S dX12_goes_115 (by decide) (fun c115 => absurd c115 (by omega)) (fun c115 => ?_)
          refine zr_aload_n (pc := 118) S dX12_goes_118 rfl ?_
          refine zr_iload (pc := 119) S dX12_goes_119 rfl ?_
          refine zr_invV (pc := 121) S [zI _] (m_X12_isGood _) (kX12_goes_120 (e + 1)) dX12_goes_121 rfl (Nat.le_of_ble_eq_true rfl) rfl (Nat.le_of_ble_eq_true rfl) ⟨Nat.le_of_ble_eq_true rfl, Nat.le_of_ble_eq_true rfl⟩ (us_X12_isGood bm.2.2.2.1 bm.2.2.2.2 ?_)
          dsimp only [zaft, Option.toList, List.cons_append, List.nil_append, Nat.add_zero]
          refine zr_if_eq (pc := 124) (tgt := 132) S dX12_goes_124 (by decide) (fun c124 => ?_) (fun c124 => ?_)
          · rw [b01_0] at c124
            have fin := l8 c124
            have srr := s8
            refine zr_bipush (pc := 132) S dX12_goes_132 ⟨by unfold zrI; omega, by decide⟩ ?_
            refine zr_dup2 (pc := 134) S dX12_goes_134 rfl rfl ?_
            refine zr_laload (pc := 135) S dX12_goes_135 rfl (Nat.le_of_ble_eq_true rfl) (by omega) (by omega) ?_
            refine zr_aload_n (pc := 136) S dX12_goes_136 rfl ?_
            refine zr_iload_n (pc := 137) S dX12_goes_137 rfl ?_
            refine zr_iload (pc := 138) S dX12_goes_138 rfl ?_
            refine zr_iload (pc := 140) S dX12_goes_140 rfl ?_
            refine zr_iload (pc := 142) S dX12_goes_142 rfl ?_
            refine zr_iload (pc := 144) S dX12_goes_144 rfl ?_
            refine zr_iload (pc := 146) S dX12_goes_146 rfl ?_
            refine zr_invV (pc := 148) S [zI _, zI _, zI _, zI _, zI _, zI _] (m_X12_sizeOf _) (kX12_goes_244 (e + 1)) dX12_goes_148 rfl (Nat.le_of_ble_eq_true rfl) rfl (Nat.le_of_ble_eq_true rfl) ⟨Nat.le_of_ble_eq_true rfl, Nat.le_of_ble_eq_true rfl⟩ (us_X12_sizeOf ⟨ha.1, A, ha.2.2.2⟩ ⟨hb.1, B, hb.2.2.2⟩ ⟨hc.1, D, hc.2.2.2⟩ hB.2.2.2.2.2.2.2 ?_)
            dsimp only [zaft, Option.toList, List.cons_append, List.nil_append, Nat.add_zero]
            refine zr_ladd (pc := 151) S dX12_goes_151 srr ?_
            refine zr_lastore (pc := 152) S dX12_goes_152 rfl (Nat.le_of_ble_eq_true rfl) (by omega) (by omega) ?_
            exact zr_vret (pc := 153) S dX12_goes_153 rfl ⟨Nat.le_refl _, Nat.le_refl _⟩ (fin)
          · rw [b01_0, Classical.not_not] at c124
            have fin := l1 c124
            have srr := s1
            refine zr_iload (pc := 127) S dX12_goes_127 rfl ?_
            refine zr_goto (pc := 129) (tgt := 134) S dX12_goes_129 (by decide) ?_
            refine zr_dup2 (pc := 134) S dX12_goes_134 rfl rfl ?_
            refine zr_laload (pc := 135) S dX12_goes_135 rfl (Nat.le_of_ble_eq_true rfl) (by omega) (by omega) ?_
            refine zr_aload_n (pc := 136) S dX12_goes_136 rfl ?_
            refine zr_iload_n (pc := 137) S dX12_goes_137 rfl ?_
            refine zr_iload (pc := 138) S dX12_goes_138 rfl ?_
            refine zr_iload (pc := 140) S dX12_goes_140 rfl ?_
            refine zr_iload (pc := 142) S dX12_goes_142 rfl ?_
            refine zr_iload (pc := 144) S dX12_goes_144 rfl ?_
            refine zr_iload (pc := 146) S dX12_goes_146 rfl ?_
            refine zr_invV (pc := 148) S [zI _, zI _, zI _, zI _, zI _, zI _] (m_X12_sizeOf _) (kX12_goes_244 (e + 1)) dX12_goes_148 rfl (Nat.le_of_ble_eq_true rfl) rfl (Nat.le_of_ble_eq_true rfl) ⟨Nat.le_of_ble_eq_true rfl, Nat.le_of_ble_eq_true rfl⟩ (us_X12_sizeOf ⟨ha.1, A, ha.2.2.2⟩ ⟨hb.1, B, hb.2.2.2⟩ ⟨hc.1, D, hc.2.2.2⟩ hB.2.2.2.2.2.2.2 ?_)
            dsimp only [zaft, Option.toList, List.cons_append, List.nil_append, Nat.add_zero]
            refine zr_ladd (pc := 151) S dX12_goes_151 srr ?_
            refine zr_lastore (pc := 152) S dX12_goes_152 rfl (Nat.le_of_ble_eq_true rfl) (by omega) (by omega) ?_
            exact zr_vret (pc := 153) S dX12_goes_153 rfl ⟨Nat.le_refl _, Nat.le_refl _⟩ (fin)
        · have hcd : gcode (M 181 z) (M 181 (z + 1)) = -1 := by unfold gcode; rw [if_neg k0, if_neg k1, if_neg k2]
          have ho : ∀ w b r : Int, og V (inG V w b r) f g (gcode (M 181 z) (M 181 (z + 1))) = -1 := fun w b r => by unfold og; rw [hcd, if_neg (by decide), if_neg (by decide), if_neg (fun q => by have := q.1.1; omega)]
          have s8 := sr 8 (by omega)
          have l8 := leaf (-1) 8 rfl ho
          refine zr_aload_n (pc := 21) S dX12_goes_21 rfl ?_
          refine zr_getR (pc := 22) S fX12_goes_9 dX12_goes_22 rfl (Nat.le_of_ble_eq_true rfl) rfl ?_
          refine zr_bipush (pc := 25) S dX12_goes_25 ⟨by unfold zrI; omega, by decide⟩ ?_
          refine zr_bipush (pc := 27) S dX12_goes_27 ⟨by unfold zrI; omega, by decide⟩ ?_
          refine zr_iload_n (pc := 29) S dX12_goes_29 rfl ?_
          refine zr_imul (pc := 30) S dX12_goes_30 (by unfold zrI; omega) ?_
          refine zr_iadd (pc := 31) S dX12_goes_31 (by unfold zrI; omega) ?_
          refine zr_iload_n (pc := 32) S dX12_goes_32 rfl ?_
          refine zr_iadd (pc := 33) S dX12_goes_33 (by unfold zrI; omega) ?_
          refine zr_iaload (pc := 34) S dX12_goes_34 rfl (Nat.le_of_ble_eq_true rfl) (by omega) (by omega) ?_
          rw [ez]
          refine zr_istore (pc := 35) S dX12_goes_35 (by decide) ?_
          dsimp only [zst1, zst2, zset, zget, zlong]
          refine zr_aload_n (pc := 37) S dX12_goes_37 rfl ?_
          refine zr_getR (pc := 38) S fX12_goes_9 dX12_goes_38 rfl (Nat.le_of_ble_eq_true rfl) rfl ?_
          refine zr_bipush (pc := 41) S dX12_goes_41 ⟨by unfold zrI; omega, by decide⟩ ?_
          refine zr_bipush (pc := 43) S dX12_goes_43 ⟨by unfold zrI; omega, by decide⟩ ?_
          refine zr_iload_n (pc := 45) S dX12_goes_45 rfl ?_
          refine zr_imul (pc := 46) S dX12_goes_46 (by unfold zrI; omega) ?_
          refine zr_iadd (pc := 47) S dX12_goes_47 (by unfold zrI; omega) ?_
          refine zr_iload_n (pc := 48) S dX12_goes_48 rfl ?_
          refine zr_iadd (pc := 49) S dX12_goes_49 (by unfold zrI; omega) ?_
          refine zr_iconst (pc := 50) S dX12_goes_50 (by unfold zrI; omega) ?_
          refine zr_iadd (pc := 51) S dX12_goes_51 (by unfold zrI; omega) ?_
          refine zr_iaload (pc := 52) S dX12_goes_52 rfl (Nat.le_of_ble_eq_true rfl) (by omega) (by omega) ?_
          rw [ez1]
          refine zr_istore (pc := 53) S dX12_goes_53 (by decide) ?_
          dsimp only [zst1, zst2, zset, zget, zlong]
          refine zr_iload (pc := 55) S dX12_goes_55 rfl ?_
          refine zr_if_ne (pc := 57) (tgt := 81) S dX12_goes_57 (by decide) (fun c57 => ?_) (fun c57 => absurd c57 (by omega))
          refine zr_iload (pc := 81) S dX12_goes_81 rfl ?_
          refine zr_iconst (pc := 83) S dX12_goes_83 (by unfold zrI; omega) ?_
          refine zr_icmp_ne (pc := 84) (tgt := 108) S dX12_goes_84 (by decide) (fun c84 => ?_) (fun c84 => absurd c84 (by omega))
          refine zr_aload_n (pc := 108) S dX12_goes_108 rfl ?_
          refine zr_getR (pc := 109) S fX12_goes_36 dX12_goes_109 rfl (Nat.le_of_ble_eq_true rfl) rfl ?_
          refine zr_iload (pc := 112) S dX12_goes_112 rfl ?_
          refine zr_iconst (pc := 114) S dX12_goes_114 (by unfold zrI; omega) ?_
          refine zr_icmp_ne (pc := 115) (tgt := 132) S dX12_goes_115 (by decide) (fun c115 => ?_) (fun c115 => absurd c115 (by omega))
          refine zr_bipush (pc := 132) S dX12_goes_132 ⟨by unfold zrI; omega, by decide⟩ ?_
          refine zr_dup2 (pc := 134) S dX12_goes_134 rfl rfl ?_
          refine zr_laload (pc := 135) S dX12_goes_135 rfl (Nat.le_of_ble_eq_true rfl) (by omega) (by omega) ?_
          refine zr_aload_n (pc := 136) S dX12_goes_136 rfl ?_
          refine zr_iload_n (pc := 137) S dX12_goes_137 rfl ?_
          refine zr_iload (pc := 138) S dX12_goes_138 rfl ?_
          refine zr_iload (pc := 140) S dX12_goes_140 rfl ?_
          refine zr_iload (pc := 142) S dX12_goes_142 rfl ?_
          refine zr_iload (pc := 144) S dX12_goes_144 rfl ?_
          refine zr_iload (pc := 146) S dX12_goes_146 rfl ?_
          refine zr_invV (pc := 148) S [zI _, zI _, zI _, zI _, zI _, zI _] (m_X12_sizeOf _) (kX12_goes_244 (e + 1)) dX12_goes_148 rfl (Nat.le_of_ble_eq_true rfl) rfl (Nat.le_of_ble_eq_true rfl) ⟨Nat.le_of_ble_eq_true rfl, Nat.le_of_ble_eq_true rfl⟩ (us_X12_sizeOf ⟨ha.1, A, ha.2.2.2⟩ ⟨hb.1, B, hb.2.2.2⟩ ⟨hc.1, D, hc.2.2.2⟩ hB.2.2.2.2.2.2.2 ?_)
          dsimp only [zaft, Option.toList, List.cons_append, List.nil_append, Nat.add_zero]
          refine zr_ladd (pc := 151) S dX12_goes_151 s8 ?_
          refine zr_lastore (pc := 152) S dX12_goes_152 rfl (Nat.le_of_ble_eq_true rfl) (by omega) (by omega) ?_
          exact zr_vret (pc := 153) S dX12_goes_153 rfl ⟨Nat.le_refl _, Nat.le_refl _⟩ (l8)
  have none9 : (a1 < a0 ∨ b1 < b0 ∨ c1 < c0) → Qp none M := fun h => by
    have := hQ (M 187) (fun k hk => by rw [bxS_e h, Int.add_zero])
    rw [zrow_s] at this
    exact this
  refine zr_iload_n (pc := 0) S dX12_goes_0 rfl ?_
  refine zr_iload (pc := 1) S dX12_goes_1 rfl ?_
  refine zr_icmp_gt (pc := 3) (tgt := 20) S dX12_goes_3 (by decide) (fun c3 => ?_) (fun c3 => ?_)
  · exact zr_vret (pc := 20) S dX12_goes_20 rfl ⟨Nat.le_refl _, Nat.le_refl _⟩ (none9 (by omega))
  · refine zr_iload (pc := 6) S dX12_goes_6 rfl ?_
    refine zr_iload (pc := 8) S dX12_goes_8 rfl ?_
    refine zr_icmp_gt (pc := 10) (tgt := 20) S dX12_goes_10 (by decide) (fun c10 => ?_) (fun c10 => ?_)
    · exact zr_vret (pc := 20) S dX12_goes_20 rfl ⟨Nat.le_refl _, Nat.le_refl _⟩ (none9 (by omega))
    · refine zr_iload (pc := 13) S dX12_goes_13 rfl ?_
      refine zr_iload (pc := 15) S dX12_goes_15 rfl ?_
      refine zr_icmp_le (pc := 17) (tgt := 21) S dX12_goes_17 (by decide) (fun c17 => ?_) (fun c17 => ?_)
      · exact key (by omega) (by omega) (by omega)
      · exact zr_vret (pc := 20) S dX12_goes_20 rfl ⟨Nat.le_refl _, Nat.le_refl _⟩ (none9 (by omega))
theorem gr1 {M : zM} {C : Int} {V : zM} {lo hi a0 a1 b0 b1 c0 c1 : Int} {o : Int → Int → Int → Int} (hG : gotR M C) (G : Nat → Int) (h : ∀ k, k < 9 → G k = M 187 k + bxS V lo hi o k a0 a1 b0 b1 c0 c1) : gotR (zrow M 187 G) (C + 1000000) := fun k hk => by
  have := hG k hk
  have b := bxS_r V lo hi o k a0 a1 b0 b1 c0 c1
  rw [zrow_e, h k hk]
  omega
set_option maxRecDepth 20000 in
set_option maxHeartbeats 4000000 in
theorem st_X12_box (l : Launch) (e : Nat) (IH : zC l yX12_goes wzX12_goes (rmX12_goes e) (sp_X12_goes e)) : zC l yX12_box wzX12_box (rmX12_box (e + 1)) (sp_X12_box (e + 1)) := by
  refine zMet.of RX12 (by decide +kernel) rfl rfl ?_
  intro E X as M Qp hX S hsp
  obtain ⟨f, g, V, lo, hi, a0, a1, b0, b1, c0, c1, C, rfl, h1, hB, h3, ha, hb, hc, hG, hC, hQ⟩ := hsp
  refine ⟨Nat.le_of_ble_eq_true rfl, ?_⟩
  dsimp only [zpad, zargs]
  have IH2 : zC X.2.1 yX12_goes wzX12_goes (rmX12_goes e) (sp_X12_goes e) := by rw [hX]; exact IH
  have bm := hB.m
  have none9 : (∀ k, k < 9 → bxS V lo hi (fun w b r => gw V (inG V w b r) f g) k a0 a1 b0 b1 c0 c1 = 0) → Qp none M := fun h => by
    have := hQ (M 187) (fun k hk => by rw [h k hk, Int.add_zero])
    rw [zrow_s] at this
    exact this
  have r1 : c0 ≤ c1 → 0 ≤ M 186 (c1 + 1).toNat ∧ M 186 (c1 + 1).toNat ≤ 100 := fun _ => hB.2.2.2.2.2.2.2 _ (by omega)
  have r0 : c0 ≤ c1 → 0 ≤ M 186 c0.toNat ∧ M 186 c0.toNat ≤ 100 := fun _ => hB.2.2.2.2.2.2.2 _ (by omega)
  have key : a0 ≤ a1 → b0 ≤ b1 → c0 ≤ c1 → zK (zg E) (rmX12_box (e + 1)) 11 (Qp, 0, 0) X (0, 0) 39 [some (zR 180), some (zI g), some (zI a0), some (zI a1), some (zI b0), some (zI b1), some (zI c0), some (zI c1), none, none, none] [] M := by
    intro A B D
    by_cases hg : (g : Int) < M 181 1
    · obtain ⟨f, rfl⟩ : ∃ n, f = n + 1 := ⟨f - 1, by omega⟩
      have g8 : g < 8 := by omega
      have bv := hB.v hg
      have gv := hB.2.1.2 g g8
      have hgV : (g : Int) < V 11 0 := by rw [bm.1]; exact hg
      have eme : M 181 ((103 : Int) + 7 * (g : Int)).toNat = M 181 (103 + 7 * g) := by congr 1
      refine zr_iload_n (pc := 39) S dX12_box_39 rfl ?_
      refine zr_aload_n (pc := 40) S dX12_box_40 rfl ?_
      refine zr_getR (pc := 41) S fX12_box_9 dX12_box_41 rfl (Nat.le_of_ble_eq_true rfl) rfl ?_
      refine zr_iconst (pc := 44) S dX12_box_44 (by unfold zrI; omega) ?_
      refine zr_iaload (pc := 45) S dX12_box_45 rfl (Nat.le_of_ble_eq_true rfl) (by omega) (by omega) ?_
      refine zr_icmp_lt (pc := 46) (tgt := 74) S dX12_box_46 (by decide) (fun _ => ?_) (fun c => absurd hg (by dsimp only [Int.reduceToNat] at c; omega))
      by_cases cle : V 13 g ≤ V 14 g
      · have gr2 : ∀ (G1 G2 : Nat → Int) {x0 x1 y0 y1 z0 z1 u0 u1 v0 v1 t0 t1 : Int} {o o' : Int → Int → Int → Int}, (∀ k, k < 9 → G1 k = M 187 k + bxS V lo hi o k x0 x1 y0 y1 z0 z1) → (∀ k, k < 9 → G2 k = G1 k + bxS V lo hi o' k u0 u1 v0 v1 t0 t1) → gotR (zrow M 187 G2) (C + 2000000) := by
          intro G1 G2 x0 x1 y0 y1 z0 z1 u0 u1 v0 v1 t0 t1 o o' q1 q2 k hk
          have b1 := bxS_r V lo hi o k x0 x1 y0 y1 z0 z1
          have b2 := bxS_r V lo hi o' k u0 u1 v0 v1 t0 t1
          have := hG k hk
          rw [zrow_e, q2 k hk, q1 k hk]
          omega
        have gr1 : ∀ (G1 : Nat → Int) {x0 x1 y0 y1 z0 z1 : Int} {o : Int → Int → Int → Int}, (∀ k, k < 9 → G1 k = M 187 k + bxS V lo hi o k x0 x1 y0 y1 z0 z1) → gotR (zrow M 187 G1) (C + 1000000) := fun G1 {_ _ _ _ _ _ _} q1 => gr1 hG G1 q1
        have fin : ∀ (G1 G2 G3 : Nat → Int) {x0 x1 y0 y1 z0 z1 u0 u1 v0 v1 t0 t1 p0 p1 q0 q1 s0 s1 : Int}, (∀ k, k < 9 → G1 k = M 187 k + bxS V lo hi (fun w b r => og V (inG V w b r) f g (if (3 : Int) = 3 then V 15 g else V 16 g)) k x0 x1 y0 y1 z0 z1) → (∀ k, k < 9 → G2 k = G1 k + bxS V lo hi (fun w b r => og V (inG V w b r) f g (if (5 : Int) = 3 then V 15 g else V 16 g)) k u0 u1 v0 v1 t0 t1) → (∀ k, k < 9 → G3 k = G2 k + bxS V lo hi (fun w b r => og V (inG V w b r) f g (if (5 : Int) = 3 then V 15 g else V 16 g)) k p0 p1 q0 q1 s0 s1) → (∀ {k : Nat}, bxS V lo hi (fun w b r => gw V (inG V w b r) (f + 1) g) k a0 a1 b0 b1 c0 c1 = bxS V lo hi (fun w b r => og V (inG V w b r) f g (V 15 g)) k x0 x1 y0 y1 z0 z1 + bxS V lo hi (fun w b r => og V (inG V w b r) f g (V 16 g)) k u0 u1 v0 v1 t0 t1 + bxS V lo hi (fun w b r => og V (inG V w b r) f g (V 16 g)) k p0 p1 q0 q1 s0 s1) → Qp none (zrow M 187 G3) := by
          intro G1 G2 G3 x0 x1 y0 y1 z0 z1 u0 u1 v0 v1 t0 t1 p0 p1 q0 q1 s0 s1 e1 e2 e3 ec
          refine hQ G3 (fun k hk => ?_)
          rw [e3 k hk, e2 k hk, e1 k hk, ec, if_pos rfl, if_neg (by decide)]
          omega
        by_cases m0 : M 181 (103 + 7 * g) = 0
        · have mm := m0
          refine zr_aload_n (pc := 74) S dX12_box_74 rfl ?_
          refine zr_getR (pc := 75) S fX12_box_9 dX12_box_75 rfl (Nat.le_of_ble_eq_true rfl) rfl ?_
          refine zr_bipush (pc := 78) S dX12_box_78 ⟨by unfold zrI; omega, by decide⟩ ?_
          refine zr_bipush (pc := 80) S dX12_box_80 ⟨by unfold zrI; omega, by decide⟩ ?_
          refine zr_iload_n (pc := 82) S dX12_box_82 rfl ?_
          refine zr_imul (pc := 83) S dX12_box_83 (by unfold zrI; omega) ?_
          refine zr_iadd (pc := 84) S dX12_box_84 (by unfold zrI; omega) ?_
          refine zr_iaload (pc := 85) S dX12_box_85 rfl (Nat.le_of_ble_eq_true rfl) (by omega) (by omega) ?_
          rw [eme]
          refine zr_istore (pc := 86) S dX12_box_86 (by decide) ?_
          dsimp only [zst1, zst2, zset, zget, zlong]
          refine zr_aload_n (pc := 88) S dX12_box_88 rfl ?_
          refine zr_iload_n (pc := 89) S dX12_box_89 rfl ?_
          refine zr_invV (pc := 90) S [zI _] (m_X12_lowOf _) (kX12_box_248 (e + 1)) dX12_box_90 rfl (Nat.le_of_ble_eq_true rfl) rfl (Nat.le_of_ble_eq_true rfl) ⟨Nat.le_of_ble_eq_true rfl, Nat.le_of_ble_eq_true rfl⟩ (us_X12_lowOf g8 hg hB.2.2.2.2.1 ?_)
          dsimp only [zaft, Option.toList, List.cons_append, List.nil_append, Nat.add_zero]
          rw [← bv.2.1]
          refine zr_istore (pc := 93) S dX12_box_93 (by decide) ?_
          dsimp only [zst1, zst2, zset, zget, zlong]
          refine zr_aload_n (pc := 95) S dX12_box_95 rfl ?_
          refine zr_iload_n (pc := 96) S dX12_box_96 rfl ?_
          refine zr_invV (pc := 97) S [zI _] (m_X12_highOf _) (kX12_box_251 (e + 1)) dX12_box_97 rfl (Nat.le_of_ble_eq_true rfl) rfl (Nat.le_of_ble_eq_true rfl) ⟨Nat.le_of_ble_eq_true rfl, Nat.le_of_ble_eq_true rfl⟩ (us_X12_highOf g8 hg hB.2.2.2.2.1 ?_)
          dsimp only [zaft, Option.toList, List.cons_append, List.nil_append, Nat.add_zero]
          rw [← bv.2.2.1]
          refine zr_istore (pc := 100) S dX12_box_100 (by decide) ?_
          dsimp only [zst1, zst2, zset, zget, zlong]
          refine zr_iload (pc := 102) S dX12_box_102 rfl ?_
          refine zr_iload (pc := 104) S dX12_box_104 rfl ?_
          refine zr_icmp_le (pc := 106) (tgt := 128) S dX12_box_106 (by decide) (fun c106 => ?_) (fun c106 => absurd c106 (by omega))
          refine zr_iload (pc := 128) S dX12_box_128 rfl ?_
          refine zr_if_ne (pc := 130) (tgt := 208) S dX12_box_130 (by decide) (fun c130 => absurd c130 (by omega)) (fun c130 => ?_)
          refine zr_aload_n (pc := 133) S dX12_box_133 rfl ?_
          refine zr_iload_n (pc := 134) S dX12_box_134 rfl ?_
          refine zr_iconst (pc := 135) S dX12_box_135 (by unfold zrI; omega) ?_
          refine zr_iload_n (pc := 136) S dX12_box_136 rfl ?_
          refine zr_iload (pc := 137) S dX12_box_137 rfl ?_
          refine zr_mmax (pc := 139) S kX12_box_123 dX12_box_139 (by simp only [rmX12_box, zdep, zcat2]; omega) (by simp only [rmX12_box, zdep, zcat2]; omega) ⟨Nat.le_of_ble_eq_true rfl, Nat.le_of_ble_eq_true rfl⟩ ?_
          refine zr_iload_n (pc := 142) S dX12_box_142 rfl ?_
          refine zr_iload (pc := 143) S dX12_box_143 rfl ?_
          refine zr_mmin (pc := 145) S kX12_box_228 dX12_box_145 (by simp only [rmX12_box, zdep, zcat2]; omega) (by simp only [rmX12_box, zdep, zcat2]; omega) ⟨Nat.le_of_ble_eq_true rfl, Nat.le_of_ble_eq_true rfl⟩ ?_
          refine zr_iload (pc := 148) S dX12_box_148 rfl ?_
          refine zr_iload (pc := 150) S dX12_box_150 rfl ?_
          refine zr_iload (pc := 152) S dX12_box_152 rfl ?_
          refine zr_iload (pc := 154) S dX12_box_154 rfl ?_
          refine zr_invV (pc := 156) S [zI _, zI _, zI _, zI _, zI _, zI _, zI _, zI _] IH2 (kX12_box_254 (e)) dX12_box_156 rfl (Nat.le_of_ble_eq_true rfl) rfl (Nat.le_of_ble_eq_true rfl) ⟨Nat.le_of_ble_eq_true rfl, Nat.le_of_ble_eq_true rfl⟩ (us_X12_goes (f := f) (g := g) (V := V) (C := C) (by omega) (Or.inl rfl) (hB) (by exact hg) (by omega) ((by omega)) (hb) (hc) (hG) (by omega) ?_)
          dsimp only [zaft, Option.toList, List.cons_append, List.nil_append, Nat.add_zero]
          intro G1 hG1
          refine zr_aload_n (pc := 159) S dX12_box_159 rfl ?_
          refine zr_iload_n (pc := 160) S dX12_box_160 rfl ?_
          refine zr_iconst (pc := 161) S dX12_box_161 (by unfold zrI; omega) ?_
          refine zr_iload_n (pc := 162) S dX12_box_162 rfl ?_
          refine zr_iload_n (pc := 163) S dX12_box_163 rfl ?_
          refine zr_iload (pc := 164) S dX12_box_164 rfl ?_
          refine zr_iconst (pc := 166) S dX12_box_166 (by unfold zrI; omega) ?_
          refine zr_isub (pc := 167) S dX12_box_167 (by unfold zrI; omega) ?_
          refine zr_mmin (pc := 168) S kX12_box_228 dX12_box_168 (by simp only [rmX12_box, zdep, zcat2]; omega) (by simp only [rmX12_box, zdep, zcat2]; omega) ⟨Nat.le_of_ble_eq_true rfl, Nat.le_of_ble_eq_true rfl⟩ ?_
          refine zr_iload (pc := 171) S dX12_box_171 rfl ?_
          refine zr_iload (pc := 173) S dX12_box_173 rfl ?_
          refine zr_iload (pc := 175) S dX12_box_175 rfl ?_
          refine zr_iload (pc := 177) S dX12_box_177 rfl ?_
          refine zr_invV (pc := 179) S [zI _, zI _, zI _, zI _, zI _, zI _, zI _, zI _] IH2 (kX12_box_254 (e)) dX12_box_179 rfl (Nat.le_of_ble_eq_true rfl) rfl (Nat.le_of_ble_eq_true rfl) ⟨Nat.le_of_ble_eq_true rfl, Nat.le_of_ble_eq_true rfl⟩ (us_X12_goes (f := f) (g := g) (V := V) (C := C + 1000000) (by omega) (Or.inr rfl) (hB.g G1) (by rw [zrow_o (by decide)]; exact hg) (by omega) ((by omega)) (hb) (hc) (gr1 G1 hG1) (by omega) ?_)
          dsimp only [zaft, Option.toList, List.cons_append, List.nil_append, Nat.add_zero]
          intro G2 hG2
          rw [zrow_e] at hG2
          rw [zrow_r]
          refine zr_aload_n (pc := 182) S dX12_box_182 rfl ?_
          refine zr_iload_n (pc := 183) S dX12_box_183 rfl ?_
          refine zr_iconst (pc := 184) S dX12_box_184 (by unfold zrI; omega) ?_
          refine zr_iload_n (pc := 185) S dX12_box_185 rfl ?_
          refine zr_iload (pc := 186) S dX12_box_186 rfl ?_
          refine zr_iconst (pc := 188) S dX12_box_188 (by unfold zrI; omega) ?_
          refine zr_iadd (pc := 189) S dX12_box_189 (by unfold zrI; omega) ?_
          refine zr_mmax (pc := 190) S kX12_box_123 dX12_box_190 (by simp only [rmX12_box, zdep, zcat2]; omega) (by simp only [rmX12_box, zdep, zcat2]; omega) ⟨Nat.le_of_ble_eq_true rfl, Nat.le_of_ble_eq_true rfl⟩ ?_
          refine zr_iload_n (pc := 193) S dX12_box_193 rfl ?_
          refine zr_iload (pc := 194) S dX12_box_194 rfl ?_
          refine zr_iload (pc := 196) S dX12_box_196 rfl ?_
          refine zr_iload (pc := 198) S dX12_box_198 rfl ?_
          refine zr_iload (pc := 200) S dX12_box_200 rfl ?_
          refine zr_invV (pc := 202) S [zI _, zI _, zI _, zI _, zI _, zI _, zI _, zI _] IH2 (kX12_box_254 (e)) dX12_box_202 rfl (Nat.le_of_ble_eq_true rfl) rfl (Nat.le_of_ble_eq_true rfl) ⟨Nat.le_of_ble_eq_true rfl, Nat.le_of_ble_eq_true rfl⟩ (us_X12_goes (f := f) (g := g) (V := V) (C := C + 2000000) (by omega) (Or.inr rfl) (hB.g G2) (by rw [zrow_o (by decide)]; exact hg) (by omega) ((by omega)) (hb) (hc) (gr2 G1 G2 hG1 hG2) (by omega) ?_)
          dsimp only [zaft, Option.toList, List.cons_append, List.nil_append, Nat.add_zero]
          intro G3 hG3
          rw [zrow_e] at hG3
          rw [zrow_r]
          refine zr_goto (pc := 205) (tgt := 361) S dX12_box_205 (by decide) ?_
          exact zr_vret (pc := 361) S dX12_box_361 rfl ⟨Nat.le_refl _, Nat.le_refl _⟩ (fin G1 G2 G3 hG1 hG2 hG3 (bxS_cut hB.2.1 hB.2.2.1 g8 hgV cle hB.2.2.2.2.2.1 (fun w b h => by dsimp only; rw [bv.1, mm, if_pos rfl]; refine ⟨?_, ?_, ?_⟩ <;> omega)))
        · by_cases m1 : M 181 (103 + 7 * g) = 1
          · have mm := m1
            refine zr_aload_n (pc := 74) S dX12_box_74 rfl ?_
            refine zr_getR (pc := 75) S fX12_box_9 dX12_box_75 rfl (Nat.le_of_ble_eq_true rfl) rfl ?_
            refine zr_bipush (pc := 78) S dX12_box_78 ⟨by unfold zrI; omega, by decide⟩ ?_
            refine zr_bipush (pc := 80) S dX12_box_80 ⟨by unfold zrI; omega, by decide⟩ ?_
            refine zr_iload_n (pc := 82) S dX12_box_82 rfl ?_
            refine zr_imul (pc := 83) S dX12_box_83 (by unfold zrI; omega) ?_
            refine zr_iadd (pc := 84) S dX12_box_84 (by unfold zrI; omega) ?_
            refine zr_iaload (pc := 85) S dX12_box_85 rfl (Nat.le_of_ble_eq_true rfl) (by omega) (by omega) ?_
            rw [eme]
            refine zr_istore (pc := 86) S dX12_box_86 (by decide) ?_
            dsimp only [zst1, zst2, zset, zget, zlong]
            refine zr_aload_n (pc := 88) S dX12_box_88 rfl ?_
            refine zr_iload_n (pc := 89) S dX12_box_89 rfl ?_
            refine zr_invV (pc := 90) S [zI _] (m_X12_lowOf _) (kX12_box_248 (e + 1)) dX12_box_90 rfl (Nat.le_of_ble_eq_true rfl) rfl (Nat.le_of_ble_eq_true rfl) ⟨Nat.le_of_ble_eq_true rfl, Nat.le_of_ble_eq_true rfl⟩ (us_X12_lowOf g8 hg hB.2.2.2.2.1 ?_)
            dsimp only [zaft, Option.toList, List.cons_append, List.nil_append, Nat.add_zero]
            rw [← bv.2.1]
            refine zr_istore (pc := 93) S dX12_box_93 (by decide) ?_
            dsimp only [zst1, zst2, zset, zget, zlong]
            refine zr_aload_n (pc := 95) S dX12_box_95 rfl ?_
            refine zr_iload_n (pc := 96) S dX12_box_96 rfl ?_
            refine zr_invV (pc := 97) S [zI _] (m_X12_highOf _) (kX12_box_251 (e + 1)) dX12_box_97 rfl (Nat.le_of_ble_eq_true rfl) rfl (Nat.le_of_ble_eq_true rfl) ⟨Nat.le_of_ble_eq_true rfl, Nat.le_of_ble_eq_true rfl⟩ (us_X12_highOf g8 hg hB.2.2.2.2.1 ?_)
            dsimp only [zaft, Option.toList, List.cons_append, List.nil_append, Nat.add_zero]
            rw [← bv.2.2.1]
            refine zr_istore (pc := 100) S dX12_box_100 (by decide) ?_
            dsimp only [zst1, zst2, zset, zget, zlong]
            refine zr_iload (pc := 102) S dX12_box_102 rfl ?_
            refine zr_iload (pc := 104) S dX12_box_104 rfl ?_
            refine zr_icmp_le (pc := 106) (tgt := 128) S dX12_box_106 (by decide) (fun c106 => ?_) (fun c106 => absurd c106 (by omega))
            refine zr_iload (pc := 128) S dX12_box_128 rfl ?_
            refine zr_if_ne (pc := 130) (tgt := 208) S dX12_box_130 (by decide) (fun c130 => ?_) (fun c130 => absurd c130 (by omega))
            refine zr_iload (pc := 208) S dX12_box_208 rfl ?_
            refine zr_iconst (pc := 210) S dX12_box_210 (by unfold zrI; omega) ?_
            refine zr_icmp_ne (pc := 211) (tgt := 289) S dX12_box_211 (by decide) (fun c211 => absurd c211 (by omega)) (fun c211 => ?_)
            refine zr_aload_n (pc := 214) S dX12_box_214 rfl ?_
            refine zr_iload_n (pc := 215) S dX12_box_215 rfl ?_
            refine zr_iconst (pc := 216) S dX12_box_216 (by unfold zrI; omega) ?_
            refine zr_iload_n (pc := 217) S dX12_box_217 rfl ?_
            refine zr_iload_n (pc := 218) S dX12_box_218 rfl ?_
            refine zr_iload (pc := 219) S dX12_box_219 rfl ?_
            refine zr_iload (pc := 221) S dX12_box_221 rfl ?_
            refine zr_mmax (pc := 223) S kX12_box_123 dX12_box_223 (by simp only [rmX12_box, zdep, zcat2]; omega) (by simp only [rmX12_box, zdep, zcat2]; omega) ⟨Nat.le_of_ble_eq_true rfl, Nat.le_of_ble_eq_true rfl⟩ ?_
            refine zr_iload (pc := 226) S dX12_box_226 rfl ?_
            refine zr_iload (pc := 228) S dX12_box_228 rfl ?_
            refine zr_mmin (pc := 230) S kX12_box_228 dX12_box_230 (by simp only [rmX12_box, zdep, zcat2]; omega) (by simp only [rmX12_box, zdep, zcat2]; omega) ⟨Nat.le_of_ble_eq_true rfl, Nat.le_of_ble_eq_true rfl⟩ ?_
            refine zr_iload (pc := 233) S dX12_box_233 rfl ?_
            refine zr_iload (pc := 235) S dX12_box_235 rfl ?_
            refine zr_invV (pc := 237) S [zI _, zI _, zI _, zI _, zI _, zI _, zI _, zI _] IH2 (kX12_box_254 (e)) dX12_box_237 rfl (Nat.le_of_ble_eq_true rfl) rfl (Nat.le_of_ble_eq_true rfl) ⟨Nat.le_of_ble_eq_true rfl, Nat.le_of_ble_eq_true rfl⟩ (us_X12_goes (f := f) (g := g) (V := V) (C := C) (by omega) (Or.inl rfl) (hB) (by exact hg) (by omega) (ha) ((by omega)) (hc) (hG) (by omega) ?_)
            dsimp only [zaft, Option.toList, List.cons_append, List.nil_append, Nat.add_zero]
            intro G1 hG1
            refine zr_aload_n (pc := 240) S dX12_box_240 rfl ?_
            refine zr_iload_n (pc := 241) S dX12_box_241 rfl ?_
            refine zr_iconst (pc := 242) S dX12_box_242 (by unfold zrI; omega) ?_
            refine zr_iload_n (pc := 243) S dX12_box_243 rfl ?_
            refine zr_iload_n (pc := 244) S dX12_box_244 rfl ?_
            refine zr_iload (pc := 245) S dX12_box_245 rfl ?_
            refine zr_iload (pc := 247) S dX12_box_247 rfl ?_
            refine zr_iload (pc := 249) S dX12_box_249 rfl ?_
            refine zr_iconst (pc := 251) S dX12_box_251 (by unfold zrI; omega) ?_
            refine zr_isub (pc := 252) S dX12_box_252 (by unfold zrI; omega) ?_
            refine zr_mmin (pc := 253) S kX12_box_228 dX12_box_253 (by simp only [rmX12_box, zdep, zcat2]; omega) (by simp only [rmX12_box, zdep, zcat2]; omega) ⟨Nat.le_of_ble_eq_true rfl, Nat.le_of_ble_eq_true rfl⟩ ?_
            refine zr_iload (pc := 256) S dX12_box_256 rfl ?_
            refine zr_iload (pc := 258) S dX12_box_258 rfl ?_
            refine zr_invV (pc := 260) S [zI _, zI _, zI _, zI _, zI _, zI _, zI _, zI _] IH2 (kX12_box_254 (e)) dX12_box_260 rfl (Nat.le_of_ble_eq_true rfl) rfl (Nat.le_of_ble_eq_true rfl) ⟨Nat.le_of_ble_eq_true rfl, Nat.le_of_ble_eq_true rfl⟩ (us_X12_goes (f := f) (g := g) (V := V) (C := C + 1000000) (by omega) (Or.inr rfl) (hB.g G1) (by rw [zrow_o (by decide)]; exact hg) (by omega) (ha) ((by omega)) (hc) (gr1 G1 hG1) (by omega) ?_)
            dsimp only [zaft, Option.toList, List.cons_append, List.nil_append, Nat.add_zero]
            intro G2 hG2
            rw [zrow_e] at hG2
            rw [zrow_r]
            refine zr_aload_n (pc := 263) S dX12_box_263 rfl ?_
            refine zr_iload_n (pc := 264) S dX12_box_264 rfl ?_
            refine zr_iconst (pc := 265) S dX12_box_265 (by unfold zrI; omega) ?_
            refine zr_iload_n (pc := 266) S dX12_box_266 rfl ?_
            refine zr_iload_n (pc := 267) S dX12_box_267 rfl ?_
            refine zr_iload (pc := 268) S dX12_box_268 rfl ?_
            refine zr_iload (pc := 270) S dX12_box_270 rfl ?_
            refine zr_iconst (pc := 272) S dX12_box_272 (by unfold zrI; omega) ?_
            refine zr_iadd (pc := 273) S dX12_box_273 (by unfold zrI; omega) ?_
            refine zr_mmax (pc := 274) S kX12_box_123 dX12_box_274 (by simp only [rmX12_box, zdep, zcat2]; omega) (by simp only [rmX12_box, zdep, zcat2]; omega) ⟨Nat.le_of_ble_eq_true rfl, Nat.le_of_ble_eq_true rfl⟩ ?_
            refine zr_iload (pc := 277) S dX12_box_277 rfl ?_
            refine zr_iload (pc := 279) S dX12_box_279 rfl ?_
            refine zr_iload (pc := 281) S dX12_box_281 rfl ?_
            refine zr_invV (pc := 283) S [zI _, zI _, zI _, zI _, zI _, zI _, zI _, zI _] IH2 (kX12_box_254 (e)) dX12_box_283 rfl (Nat.le_of_ble_eq_true rfl) rfl (Nat.le_of_ble_eq_true rfl) ⟨Nat.le_of_ble_eq_true rfl, Nat.le_of_ble_eq_true rfl⟩ (us_X12_goes (f := f) (g := g) (V := V) (C := C + 2000000) (by omega) (Or.inr rfl) (hB.g G2) (by rw [zrow_o (by decide)]; exact hg) (by omega) (ha) ((by omega)) (hc) (gr2 G1 G2 hG1 hG2) (by omega) ?_)
            dsimp only [zaft, Option.toList, List.cons_append, List.nil_append, Nat.add_zero]
            intro G3 hG3
            rw [zrow_e] at hG3
            rw [zrow_r]
            refine zr_goto (pc := 286) (tgt := 361) S dX12_box_286 (by decide) ?_
            exact zr_vret (pc := 361) S dX12_box_361 rfl ⟨Nat.le_refl _, Nat.le_refl _⟩ (fin G1 G2 G3 hG1 hG2 hG3 (bxS_cut hB.2.1 hB.2.2.1 g8 hgV cle hB.2.2.2.2.2.1 (fun w b h => by dsimp only; rw [bv.1, mm, if_neg (by decide), if_pos rfl]; refine ⟨?_, ?_, ?_⟩ <;> omega)))
          · have mm : M 181 (103 + 7 * g) = 2 := by rw [← bv.1]; rw [← bv.1] at m0 m1; omega
            refine zr_aload_n (pc := 74) S dX12_box_74 rfl ?_
            refine zr_getR (pc := 75) S fX12_box_9 dX12_box_75 rfl (Nat.le_of_ble_eq_true rfl) rfl ?_
            refine zr_bipush (pc := 78) S dX12_box_78 ⟨by unfold zrI; omega, by decide⟩ ?_
            refine zr_bipush (pc := 80) S dX12_box_80 ⟨by unfold zrI; omega, by decide⟩ ?_
            refine zr_iload_n (pc := 82) S dX12_box_82 rfl ?_
            refine zr_imul (pc := 83) S dX12_box_83 (by unfold zrI; omega) ?_
            refine zr_iadd (pc := 84) S dX12_box_84 (by unfold zrI; omega) ?_
            refine zr_iaload (pc := 85) S dX12_box_85 rfl (Nat.le_of_ble_eq_true rfl) (by omega) (by omega) ?_
            rw [eme]
            refine zr_istore (pc := 86) S dX12_box_86 (by decide) ?_
            dsimp only [zst1, zst2, zset, zget, zlong]
            refine zr_aload_n (pc := 88) S dX12_box_88 rfl ?_
            refine zr_iload_n (pc := 89) S dX12_box_89 rfl ?_
            refine zr_invV (pc := 90) S [zI _] (m_X12_lowOf _) (kX12_box_248 (e + 1)) dX12_box_90 rfl (Nat.le_of_ble_eq_true rfl) rfl (Nat.le_of_ble_eq_true rfl) ⟨Nat.le_of_ble_eq_true rfl, Nat.le_of_ble_eq_true rfl⟩ (us_X12_lowOf g8 hg hB.2.2.2.2.1 ?_)
            dsimp only [zaft, Option.toList, List.cons_append, List.nil_append, Nat.add_zero]
            rw [← bv.2.1]
            refine zr_istore (pc := 93) S dX12_box_93 (by decide) ?_
            dsimp only [zst1, zst2, zset, zget, zlong]
            refine zr_aload_n (pc := 95) S dX12_box_95 rfl ?_
            refine zr_iload_n (pc := 96) S dX12_box_96 rfl ?_
            refine zr_invV (pc := 97) S [zI _] (m_X12_highOf _) (kX12_box_251 (e + 1)) dX12_box_97 rfl (Nat.le_of_ble_eq_true rfl) rfl (Nat.le_of_ble_eq_true rfl) ⟨Nat.le_of_ble_eq_true rfl, Nat.le_of_ble_eq_true rfl⟩ (us_X12_highOf g8 hg hB.2.2.2.2.1 ?_)
            dsimp only [zaft, Option.toList, List.cons_append, List.nil_append, Nat.add_zero]
            rw [← bv.2.2.1]
            refine zr_istore (pc := 100) S dX12_box_100 (by decide) ?_
            dsimp only [zst1, zst2, zset, zget, zlong]
            refine zr_iload (pc := 102) S dX12_box_102 rfl ?_
            refine zr_iload (pc := 104) S dX12_box_104 rfl ?_
            refine zr_icmp_le (pc := 106) (tgt := 128) S dX12_box_106 (by decide) (fun c106 => ?_) (fun c106 => absurd c106 (by omega))
            refine zr_iload (pc := 128) S dX12_box_128 rfl ?_
            refine zr_if_ne (pc := 130) (tgt := 208) S dX12_box_130 (by decide) (fun c130 => ?_) (fun c130 => absurd c130 (by omega))
            refine zr_iload (pc := 208) S dX12_box_208 rfl ?_
            refine zr_iconst (pc := 210) S dX12_box_210 (by unfold zrI; omega) ?_
            refine zr_icmp_ne (pc := 211) (tgt := 289) S dX12_box_211 (by decide) (fun c211 => ?_) (fun c211 => absurd c211 (by omega))
            refine zr_aload_n (pc := 289) S dX12_box_289 rfl ?_
            refine zr_iload_n (pc := 290) S dX12_box_290 rfl ?_
            refine zr_iconst (pc := 291) S dX12_box_291 (by unfold zrI; omega) ?_
            refine zr_iload_n (pc := 292) S dX12_box_292 rfl ?_
            refine zr_iload_n (pc := 293) S dX12_box_293 rfl ?_
            refine zr_iload (pc := 294) S dX12_box_294 rfl ?_
            refine zr_iload (pc := 296) S dX12_box_296 rfl ?_
            refine zr_iload (pc := 298) S dX12_box_298 rfl ?_
            refine zr_iload (pc := 300) S dX12_box_300 rfl ?_
            refine zr_mmax (pc := 302) S kX12_box_123 dX12_box_302 (by simp only [rmX12_box, zdep, zcat2]; omega) (by simp only [rmX12_box, zdep, zcat2]; omega) ⟨Nat.le_of_ble_eq_true rfl, Nat.le_of_ble_eq_true rfl⟩ ?_
            refine zr_iload (pc := 305) S dX12_box_305 rfl ?_
            refine zr_iload (pc := 307) S dX12_box_307 rfl ?_
            refine zr_mmin (pc := 309) S kX12_box_228 dX12_box_309 (by simp only [rmX12_box, zdep, zcat2]; omega) (by simp only [rmX12_box, zdep, zcat2]; omega) ⟨Nat.le_of_ble_eq_true rfl, Nat.le_of_ble_eq_true rfl⟩ ?_
            refine zr_invV (pc := 312) S [zI _, zI _, zI _, zI _, zI _, zI _, zI _, zI _] IH2 (kX12_box_254 (e)) dX12_box_312 rfl (Nat.le_of_ble_eq_true rfl) rfl (Nat.le_of_ble_eq_true rfl) ⟨Nat.le_of_ble_eq_true rfl, Nat.le_of_ble_eq_true rfl⟩ (us_X12_goes (f := f) (g := g) (V := V) (C := C) (by omega) (Or.inl rfl) (hB) (by exact hg) (by omega) (ha) (hb) ((by omega)) (hG) (by omega) ?_)
            dsimp only [zaft, Option.toList, List.cons_append, List.nil_append, Nat.add_zero]
            intro G1 hG1
            refine zr_aload_n (pc := 315) S dX12_box_315 rfl ?_
            refine zr_iload_n (pc := 316) S dX12_box_316 rfl ?_
            refine zr_iconst (pc := 317) S dX12_box_317 (by unfold zrI; omega) ?_
            refine zr_iload_n (pc := 318) S dX12_box_318 rfl ?_
            refine zr_iload_n (pc := 319) S dX12_box_319 rfl ?_
            refine zr_iload (pc := 320) S dX12_box_320 rfl ?_
            refine zr_iload (pc := 322) S dX12_box_322 rfl ?_
            refine zr_iload (pc := 324) S dX12_box_324 rfl ?_
            refine zr_iload (pc := 326) S dX12_box_326 rfl ?_
            refine zr_iload (pc := 328) S dX12_box_328 rfl ?_
            refine zr_iconst (pc := 330) S dX12_box_330 (by unfold zrI; omega) ?_
            refine zr_isub (pc := 331) S dX12_box_331 (by unfold zrI; omega) ?_
            refine zr_mmin (pc := 332) S kX12_box_228 dX12_box_332 (by simp only [rmX12_box, zdep, zcat2]; omega) (by simp only [rmX12_box, zdep, zcat2]; omega) ⟨Nat.le_of_ble_eq_true rfl, Nat.le_of_ble_eq_true rfl⟩ ?_
            refine zr_invV (pc := 335) S [zI _, zI _, zI _, zI _, zI _, zI _, zI _, zI _] IH2 (kX12_box_254 (e)) dX12_box_335 rfl (Nat.le_of_ble_eq_true rfl) rfl (Nat.le_of_ble_eq_true rfl) ⟨Nat.le_of_ble_eq_true rfl, Nat.le_of_ble_eq_true rfl⟩ (us_X12_goes (f := f) (g := g) (V := V) (C := C + 1000000) (by omega) (Or.inr rfl) (hB.g G1) (by rw [zrow_o (by decide)]; exact hg) (by omega) (ha) (hb) ((by omega)) (gr1 G1 hG1) (by omega) ?_)
            dsimp only [zaft, Option.toList, List.cons_append, List.nil_append, Nat.add_zero]
            intro G2 hG2
            rw [zrow_e] at hG2
            rw [zrow_r]
            refine zr_aload_n (pc := 338) S dX12_box_338 rfl ?_
            refine zr_iload_n (pc := 339) S dX12_box_339 rfl ?_
            refine zr_iconst (pc := 340) S dX12_box_340 (by unfold zrI; omega) ?_
            refine zr_iload_n (pc := 341) S dX12_box_341 rfl ?_
            refine zr_iload_n (pc := 342) S dX12_box_342 rfl ?_
            refine zr_iload (pc := 343) S dX12_box_343 rfl ?_
            refine zr_iload (pc := 345) S dX12_box_345 rfl ?_
            refine zr_iload (pc := 347) S dX12_box_347 rfl ?_
            refine zr_iload (pc := 349) S dX12_box_349 rfl ?_
            refine zr_iconst (pc := 351) S dX12_box_351 (by unfold zrI; omega) ?_
            refine zr_iadd (pc := 352) S dX12_box_352 (by unfold zrI; omega) ?_
            refine zr_mmax (pc := 353) S kX12_box_123 dX12_box_353 (by simp only [rmX12_box, zdep, zcat2]; omega) (by simp only [rmX12_box, zdep, zcat2]; omega) ⟨Nat.le_of_ble_eq_true rfl, Nat.le_of_ble_eq_true rfl⟩ ?_
            refine zr_iload (pc := 356) S dX12_box_356 rfl ?_
            refine zr_invV (pc := 358) S [zI _, zI _, zI _, zI _, zI _, zI _, zI _, zI _] IH2 (kX12_box_254 (e)) dX12_box_358 rfl (Nat.le_of_ble_eq_true rfl) rfl (Nat.le_of_ble_eq_true rfl) ⟨Nat.le_of_ble_eq_true rfl, Nat.le_of_ble_eq_true rfl⟩ (us_X12_goes (f := f) (g := g) (V := V) (C := C + 2000000) (by omega) (Or.inr rfl) (hB.g G2) (by rw [zrow_o (by decide)]; exact hg) (by omega) (ha) (hb) ((by omega)) (gr2 G1 G2 hG1 hG2) (by omega) ?_)
            dsimp only [zaft, Option.toList, List.cons_append, List.nil_append, Nat.add_zero]
            intro G3 hG3
            rw [zrow_e] at hG3
            rw [zrow_r]
            exact zr_vret (pc := 361) S dX12_box_361 rfl ⟨Nat.le_refl _, Nat.le_refl _⟩ (fin G1 G2 G3 hG1 hG2 hG3 (bxS_cut hB.2.1 hB.2.2.1 g8 hgV cle hB.2.2.2.2.2.1 (fun w b h => by dsimp only; rw [bv.1, mm, if_neg (by decide), if_neg (by decide)]; refine ⟨?_, ?_, ?_⟩ <;> omega)))
      · refine zr_aload_n (pc := 74) S dX12_box_74 rfl ?_
        refine zr_getR (pc := 75) S fX12_box_9 dX12_box_75 rfl (Nat.le_of_ble_eq_true rfl) rfl ?_
        refine zr_bipush (pc := 78) S dX12_box_78 ⟨by unfold zrI; omega, by decide⟩ ?_
        refine zr_bipush (pc := 80) S dX12_box_80 ⟨by unfold zrI; omega, by decide⟩ ?_
        refine zr_iload_n (pc := 82) S dX12_box_82 rfl ?_
        refine zr_imul (pc := 83) S dX12_box_83 (by unfold zrI; omega) ?_
        refine zr_iadd (pc := 84) S dX12_box_84 (by unfold zrI; omega) ?_
        refine zr_iaload (pc := 85) S dX12_box_85 rfl (Nat.le_of_ble_eq_true rfl) (by omega) (by omega) ?_
        rw [eme]
        refine zr_istore (pc := 86) S dX12_box_86 (by decide) ?_
        dsimp only [zst1, zst2, zset, zget, zlong]
        refine zr_aload_n (pc := 88) S dX12_box_88 rfl ?_
        refine zr_iload_n (pc := 89) S dX12_box_89 rfl ?_
        refine zr_invV (pc := 90) S [zI _] (m_X12_lowOf _) (kX12_box_248 (e + 1)) dX12_box_90 rfl (Nat.le_of_ble_eq_true rfl) rfl (Nat.le_of_ble_eq_true rfl) ⟨Nat.le_of_ble_eq_true rfl, Nat.le_of_ble_eq_true rfl⟩ (us_X12_lowOf g8 hg hB.2.2.2.2.1 ?_)
        dsimp only [zaft, Option.toList, List.cons_append, List.nil_append, Nat.add_zero]
        rw [← bv.2.1]
        refine zr_istore (pc := 93) S dX12_box_93 (by decide) ?_
        dsimp only [zst1, zst2, zset, zget, zlong]
        refine zr_aload_n (pc := 95) S dX12_box_95 rfl ?_
        refine zr_iload_n (pc := 96) S dX12_box_96 rfl ?_
        refine zr_invV (pc := 97) S [zI _] (m_X12_highOf _) (kX12_box_251 (e + 1)) dX12_box_97 rfl (Nat.le_of_ble_eq_true rfl) rfl (Nat.le_of_ble_eq_true rfl) ⟨Nat.le_of_ble_eq_true rfl, Nat.le_of_ble_eq_true rfl⟩ (us_X12_highOf g8 hg hB.2.2.2.2.1 ?_)
        dsimp only [zaft, Option.toList, List.cons_append, List.nil_append, Nat.add_zero]
        rw [← bv.2.2.1]
        refine zr_istore (pc := 100) S dX12_box_100 (by decide) ?_
        dsimp only [zst1, zst2, zset, zget, zlong]
        refine zr_iload (pc := 102) S dX12_box_102 rfl ?_
        refine zr_iload (pc := 104) S dX12_box_104 rfl ?_
        refine zr_icmp_le (pc := 106) (tgt := 128) S dX12_box_106 (by decide) (fun c106 => absurd c106 (by omega)) (fun c106 => ?_)
        refine zr_aload_n (pc := 109) S dX12_box_109 rfl ?_
        refine zr_iload_n (pc := 110) S dX12_box_110 rfl ?_
        refine zr_iconst (pc := 111) S dX12_box_111 (by unfold zrI; omega) ?_
        refine zr_iload_n (pc := 112) S dX12_box_112 rfl ?_
        refine zr_iload_n (pc := 113) S dX12_box_113 rfl ?_
        refine zr_iload (pc := 114) S dX12_box_114 rfl ?_
        refine zr_iload (pc := 116) S dX12_box_116 rfl ?_
        refine zr_iload (pc := 118) S dX12_box_118 rfl ?_
        refine zr_iload (pc := 120) S dX12_box_120 rfl ?_
        refine zr_invV (pc := 122) S [zI _, zI _, zI _, zI _, zI _, zI _, zI _, zI _] IH2 (kX12_box_254 (e)) dX12_box_122 rfl (Nat.le_of_ble_eq_true rfl) rfl (Nat.le_of_ble_eq_true rfl) ⟨Nat.le_of_ble_eq_true rfl, Nat.le_of_ble_eq_true rfl⟩ (us_X12_goes (f := f) (g := g) (V := V) (C := C) (by omega) (Or.inr rfl) hB hg (by omega) ha hb hc hG (by omega) ?_)
        dsimp only [zaft, Option.toList, List.cons_append, List.nil_append, Nat.add_zero]
        intro G1 hG1
        refine zr_goto (pc := 125) (tgt := 361) S dX12_box_125 (by decide) ?_
        exact zr_vret (pc := 361) S dX12_box_361 rfl ⟨Nat.le_refl _, Nat.le_refl _⟩ (hQ G1 (fun k hk => by rw [hG1 k hk, if_neg (by decide), bxS_no hB.2.1 hB.2.2.1 g8 hgV (by omega) hB.2.2.2.2.2.1]))
    · have rr := hB.2.2.2.2.2.2.1 c0 c1 hc.1 D hc.2.2.2
      have gwn : ∀ p, gw V p f g = -1 := fun p => by
        cases f with
        | zero => rfl
        | succ f => simp only [gw]; rw [bm.1, if_neg hg]
      have fin : Qp none (zup M 187 8 (M 187 8 + (a1 - a0 + 1) * (b1 - b0 + 1) * (M 186 (c1 + 1).toNat - M 186 c0.toNat))) := by
        rw [up_zrow]
        refine hQ _ (fun k hk => ?_)
        rw [dG_add (x := 8) (o := -1) rfl, bxS_k (z := -1) ⟨ha.1, A, ha.2.2.2⟩ ⟨hb.1, B, hb.2.2.2⟩ (fun w b r _ => gwn _), rr]
      have srr : zrL (M 187 8 + (a1 - a0 + 1) * (b1 - b0 + 1) * (M 186 (c1 + 1).toNat - M 186 c0.toNat)) := by
        have g1 := hG 8 (by omega)
        have q := bxS_k (V := V) (lo := lo) (hi := hi) (o := fun _ _ _ => 0) (k := 0) (z := 0) (c0 := c0) (c1 := c1) ⟨ha.1, A, ha.2.2.2⟩ ⟨hb.1, B, hb.2.2.2⟩ (fun _ _ _ _ => rfl)
        have q2 := bxS_r V lo hi (fun _ _ _ => 0) 0 a0 a1 b0 b1 c0 c1
        rw [q, show dG 0 0 = 1 from rfl, Int.one_mul, ← rr] at q2
        unfold zrL
        omega
      refine zr_iload_n (pc := 39) S dX12_box_39 rfl ?_
      refine zr_aload_n (pc := 40) S dX12_box_40 rfl ?_
      refine zr_getR (pc := 41) S fX12_box_9 dX12_box_41 rfl (Nat.le_of_ble_eq_true rfl) rfl ?_
      refine zr_iconst (pc := 44) S dX12_box_44 (by unfold zrI; omega) ?_
      refine zr_iaload (pc := 45) S dX12_box_45 rfl (Nat.le_of_ble_eq_true rfl) (by omega) (by omega) ?_
      dsimp only [Int.reduceToNat]
      refine zr_icmp_lt (pc := 46) (tgt := 74) S dX12_box_46 (by decide) (fun c46 => absurd c46 (by omega)) (fun c46 => ?_)
      refine zr_aload_n (pc := 49) S dX12_box_49 rfl ?_
      refine zr_getR (pc := 50) S fX12_box_36 dX12_box_50 rfl (Nat.le_of_ble_eq_true rfl) rfl ?_
      refine zr_bipush (pc := 53) S dX12_box_53 ⟨by unfold zrI; omega, by decide⟩ ?_
      refine zr_dup2 (pc := 55) S dX12_box_55 rfl rfl ?_
      refine zr_laload (pc := 56) S dX12_box_56 rfl (Nat.le_of_ble_eq_true rfl) (by omega) (by omega) ?_
      dsimp only [Int.reduceToNat]
      refine zr_aload_n (pc := 57) S dX12_box_57 rfl ?_
      refine zr_iload_n (pc := 58) S dX12_box_58 rfl ?_
      refine zr_iload_n (pc := 59) S dX12_box_59 rfl ?_
      refine zr_iload (pc := 60) S dX12_box_60 rfl ?_
      refine zr_iload (pc := 62) S dX12_box_62 rfl ?_
      refine zr_iload (pc := 64) S dX12_box_64 rfl ?_
      refine zr_iload (pc := 66) S dX12_box_66 rfl ?_
      refine zr_invV (pc := 68) S [zI _, zI _, zI _, zI _, zI _, zI _] (m_X12_sizeOf _) (kX12_box_244 (e + 1)) dX12_box_68 rfl (Nat.le_of_ble_eq_true rfl) rfl (Nat.le_of_ble_eq_true rfl) ⟨Nat.le_of_ble_eq_true rfl, Nat.le_of_ble_eq_true rfl⟩ (us_X12_sizeOf ⟨ha.1, A, ha.2.2.2⟩ ⟨hb.1, B, hb.2.2.2⟩ ⟨hc.1, D, hc.2.2.2⟩ hB.2.2.2.2.2.2.2 ?_)
      dsimp only [zaft, Option.toList, List.cons_append, List.nil_append, Nat.add_zero]
      refine zr_ladd (pc := 71) S dX12_box_71 srr ?_
      refine zr_lastore (pc := 72) S dX12_box_72 rfl (Nat.le_of_ble_eq_true rfl) (by omega) (by omega) ?_
      exact zr_vret (pc := 73) S dX12_box_73 rfl ⟨Nat.le_refl _, Nat.le_refl _⟩ (fin)
  refine zr_iload_n (pc := 0) S dX12_box_0 rfl ?_
  refine zr_iload_n (pc := 1) S dX12_box_1 rfl ?_
  refine zr_icmp_gt (pc := 2) (tgt := 38) S dX12_box_2 (by decide) (fun c2 => ?_) (fun c2 => ?_)
  · exact zr_vret (pc := 38) S dX12_box_38 rfl ⟨Nat.le_refl _, Nat.le_refl _⟩ (none9 (fun k hk => by first | exact bxS_e (by omega) | exact bxS_z (by rw [← hB.2.2.2.2.2.2.1 c0 c1 hc.1 (by omega) hc.2.2.2]; omega)))
  · refine zr_iload (pc := 5) S dX12_box_5 rfl ?_
    refine zr_iload (pc := 7) S dX12_box_7 rfl ?_
    refine zr_icmp_gt (pc := 9) (tgt := 38) S dX12_box_9 (by decide) (fun c9 => ?_) (fun c9 => ?_)
    · exact zr_vret (pc := 38) S dX12_box_38 rfl ⟨Nat.le_refl _, Nat.le_refl _⟩ (none9 (fun k hk => by first | exact bxS_e (by omega) | exact bxS_z (by rw [← hB.2.2.2.2.2.2.1 c0 c1 hc.1 (by omega) hc.2.2.2]; omega)))
    · refine zr_iload (pc := 12) S dX12_box_12 rfl ?_
      refine zr_iload (pc := 14) S dX12_box_14 rfl ?_
      refine zr_icmp_gt (pc := 16) (tgt := 38) S dX12_box_16 (by decide) (fun c16 => ?_) (fun c16 => ?_)
      · exact zr_vret (pc := 38) S dX12_box_38 rfl ⟨Nat.le_refl _, Nat.le_refl _⟩ (none9 (fun k hk => by first | exact bxS_e (by omega) | exact bxS_z (by rw [← hB.2.2.2.2.2.2.1 c0 c1 hc.1 (by omega) hc.2.2.2]; omega)))
      · refine zr_aload_n (pc := 19) S dX12_box_19 rfl ?_
        refine zr_getR (pc := 20) S fX12_box_33 dX12_box_20 rfl (Nat.le_of_ble_eq_true rfl) rfl ?_
        refine zr_iload (pc := 23) S dX12_box_23 rfl ?_
        refine zr_iconst (pc := 25) S dX12_box_25 (by unfold zrI; omega) ?_
        refine zr_iadd (pc := 26) S dX12_box_26 (by unfold zrI; omega) ?_
        refine zr_iaload (pc := 27) S dX12_box_27 rfl (Nat.le_of_ble_eq_true rfl) (by omega) (by omega) ?_
        refine zr_aload_n (pc := 28) S dX12_box_28 rfl ?_
        refine zr_getR (pc := 29) S fX12_box_33 dX12_box_29 rfl (Nat.le_of_ble_eq_true rfl) rfl ?_
        refine zr_iload (pc := 32) S dX12_box_32 rfl ?_
        refine zr_iaload (pc := 34) S dX12_box_34 rfl (Nat.le_of_ble_eq_true rfl) (by omega) (by omega) ?_
        refine zr_icmp_ne (pc := 35) (tgt := 39) S dX12_box_35 (by decide) (fun c35 => ?_) (fun c35 => ?_)
        · exact key (by omega) (by omega) (by omega)
        · exact zr_vret (pc := 38) S dX12_box_38 rfl ⟨Nat.le_refl _, Nat.le_refl _⟩ (none9 (fun k hk => by first | exact bxS_e (by omega) | exact bxS_z (by rw [← hB.2.2.2.2.2.2.1 c0 c1 hc.1 (by omega) hc.2.2.2]; omega)))
theorem m_X12_both (l : Launch) : ∀ e, zC l yX12_box wzX12_box (rmX12_box e) (sp_X12_box e) ∧ zC l yX12_goes wzX12_goes (rmX12_goes e) (sp_X12_goes e) := by
  intro e
  induction e with
  | zero =>
    constructor
    · refine zMet.of RX12 (by decide +kernel) rfl rfl ?_
      intro E X as M Qp hX S hsp
      obtain ⟨f, g, V, lo, hi, a0, a1, b0, b1, c0, c1, C, rfl, h1, hB, h3, ha, hb, hc, hG, hC, hQ⟩ := hsp
      refine ⟨Nat.le_of_ble_eq_true rfl, ?_⟩
      dsimp only [zpad, zargs]
      have f0 : f = 0 := by omega
      subst f0
      have bm := hB.m
      have hg : ¬ (g : Int) < M 181 1 := by omega
      have none9 : (∀ k, k < 9 → bxS V lo hi (fun w b r => gw V (inG V w b r) 0 g) k a0 a1 b0 b1 c0 c1 = 0) → Qp none M := fun h => by
        have := hQ (M 187) (fun k hk => by rw [h k hk, Int.add_zero])
        rw [zrow_s] at this
        exact this
      have key : a0 ≤ a1 → b0 ≤ b1 → c0 ≤ c1 → zK (zg E) (rmX12_box 0) 11 (Qp, 0, 0) X (0, 0) 39 [some (zR 180), some (zI g), some (zI a0), some (zI a1), some (zI b0), some (zI b1), some (zI c0), some (zI c1), none, none, none] [] M := by
        intro A B D
        have rr := hB.2.2.2.2.2.2.1 c0 c1 hc.1 D hc.2.2.2
        have fin : Qp none (zup M 187 8 (M 187 8 + (a1 - a0 + 1) * (b1 - b0 + 1) * (M 186 (c1 + 1).toNat - M 186 c0.toNat))) := by
          rw [up_zrow]
          refine hQ _ (fun k hk => ?_)
          rw [dG_add (x := 8) (o := -1) rfl, bxS_k (z := -1) ⟨ha.1, A, ha.2.2.2⟩ ⟨hb.1, B, hb.2.2.2⟩ (fun w b r _ => rfl), rr]
        have srr : zrL (M 187 8 + (a1 - a0 + 1) * (b1 - b0 + 1) * (M 186 (c1 + 1).toNat - M 186 c0.toNat)) := by
          have g1 := hG 8 (by omega)
          have q := bxS_k (V := V) (lo := lo) (hi := hi) (o := fun _ _ _ => 0) (k := 0) (z := 0) (c0 := c0) (c1 := c1) ⟨ha.1, A, ha.2.2.2⟩ ⟨hb.1, B, hb.2.2.2⟩ (fun _ _ _ _ => rfl)
          have q2 := bxS_r V lo hi (fun _ _ _ => 0) 0 a0 a1 b0 b1 c0 c1
          rw [q, show dG 0 0 = 1 from rfl, Int.one_mul, ← rr] at q2
          unfold zrL
          omega
        refine zr_iload_n (pc := 39) S dX12_box_39 rfl ?_
        refine zr_aload_n (pc := 40) S dX12_box_40 rfl ?_
        refine zr_getR (pc := 41) S fX12_box_9 dX12_box_41 rfl (Nat.le_of_ble_eq_true rfl) rfl ?_
        refine zr_iconst (pc := 44) S dX12_box_44 (by unfold zrI; omega) ?_
        refine zr_iaload (pc := 45) S dX12_box_45 rfl (Nat.le_of_ble_eq_true rfl) (by omega) (by omega) ?_
        dsimp only [Int.reduceToNat]
        refine zr_icmp_lt (pc := 46) (tgt := 74) S dX12_box_46 (by decide) (fun c46 => absurd c46 (by omega)) (fun c46 => ?_)
        refine zr_aload_n (pc := 49) S dX12_box_49 rfl ?_
        refine zr_getR (pc := 50) S fX12_box_36 dX12_box_50 rfl (Nat.le_of_ble_eq_true rfl) rfl ?_
        refine zr_bipush (pc := 53) S dX12_box_53 ⟨by unfold zrI; omega, by decide⟩ ?_
        refine zr_dup2 (pc := 55) S dX12_box_55 rfl rfl ?_
        refine zr_laload (pc := 56) S dX12_box_56 rfl (Nat.le_of_ble_eq_true rfl) (by omega) (by omega) ?_
        dsimp only [Int.reduceToNat]
        refine zr_aload_n (pc := 57) S dX12_box_57 rfl ?_
        refine zr_iload_n (pc := 58) S dX12_box_58 rfl ?_
        refine zr_iload_n (pc := 59) S dX12_box_59 rfl ?_
        refine zr_iload (pc := 60) S dX12_box_60 rfl ?_
        refine zr_iload (pc := 62) S dX12_box_62 rfl ?_
        refine zr_iload (pc := 64) S dX12_box_64 rfl ?_
        refine zr_iload (pc := 66) S dX12_box_66 rfl ?_
        refine zr_invV (pc := 68) S [zI _, zI _, zI _, zI _, zI _, zI _] (m_X12_sizeOf _) (kX12_box_244 (0)) dX12_box_68 rfl (Nat.le_of_ble_eq_true rfl) rfl (Nat.le_of_ble_eq_true rfl) ⟨Nat.le_of_ble_eq_true rfl, Nat.le_of_ble_eq_true rfl⟩ (us_X12_sizeOf ⟨ha.1, A, ha.2.2.2⟩ ⟨hb.1, B, hb.2.2.2⟩ ⟨hc.1, D, hc.2.2.2⟩ hB.2.2.2.2.2.2.2 ?_)
        dsimp only [zaft, Option.toList, List.cons_append, List.nil_append, Nat.add_zero]
        refine zr_ladd (pc := 71) S dX12_box_71 srr ?_
        refine zr_lastore (pc := 72) S dX12_box_72 rfl (Nat.le_of_ble_eq_true rfl) (by omega) (by omega) ?_
        exact zr_vret (pc := 73) S dX12_box_73 rfl ⟨Nat.le_refl _, Nat.le_refl _⟩ (fin)
      have r1 : c0 ≤ c1 → 0 ≤ M 186 (c1 + 1).toNat ∧ M 186 (c1 + 1).toNat ≤ 100 := fun _ => hB.2.2.2.2.2.2.2 _ (by omega)
      refine zr_iload_n (pc := 0) S dX12_box_0 rfl ?_
      refine zr_iload_n (pc := 1) S dX12_box_1 rfl ?_
      refine zr_icmp_gt (pc := 2) (tgt := 38) S dX12_box_2 (by decide) (fun c2 => ?_) (fun c2 => ?_)
      · exact zr_vret (pc := 38) S dX12_box_38 rfl ⟨Nat.le_refl _, Nat.le_refl _⟩ (none9 (fun k hk => by first | exact bxS_e (by omega) | exact bxS_z (by rw [← hB.2.2.2.2.2.2.1 c0 c1 hc.1 (by omega) hc.2.2.2]; omega)))
      · refine zr_iload (pc := 5) S dX12_box_5 rfl ?_
        refine zr_iload (pc := 7) S dX12_box_7 rfl ?_
        refine zr_icmp_gt (pc := 9) (tgt := 38) S dX12_box_9 (by decide) (fun c9 => ?_) (fun c9 => ?_)
        · exact zr_vret (pc := 38) S dX12_box_38 rfl ⟨Nat.le_refl _, Nat.le_refl _⟩ (none9 (fun k hk => by first | exact bxS_e (by omega) | exact bxS_z (by rw [← hB.2.2.2.2.2.2.1 c0 c1 hc.1 (by omega) hc.2.2.2]; omega)))
        · refine zr_iload (pc := 12) S dX12_box_12 rfl ?_
          refine zr_iload (pc := 14) S dX12_box_14 rfl ?_
          refine zr_icmp_gt (pc := 16) (tgt := 38) S dX12_box_16 (by decide) (fun c16 => ?_) (fun c16 => ?_)
          · exact zr_vret (pc := 38) S dX12_box_38 rfl ⟨Nat.le_refl _, Nat.le_refl _⟩ (none9 (fun k hk => by first | exact bxS_e (by omega) | exact bxS_z (by rw [← hB.2.2.2.2.2.2.1 c0 c1 hc.1 (by omega) hc.2.2.2]; omega)))
          · refine zr_aload_n (pc := 19) S dX12_box_19 rfl ?_
            refine zr_getR (pc := 20) S fX12_box_33 dX12_box_20 rfl (Nat.le_of_ble_eq_true rfl) rfl ?_
            refine zr_iload (pc := 23) S dX12_box_23 rfl ?_
            refine zr_iconst (pc := 25) S dX12_box_25 (by unfold zrI; omega) ?_
            refine zr_iadd (pc := 26) S dX12_box_26 (by unfold zrI; omega) ?_
            refine zr_iaload (pc := 27) S dX12_box_27 rfl (Nat.le_of_ble_eq_true rfl) (by omega) (by omega) ?_
            refine zr_aload_n (pc := 28) S dX12_box_28 rfl ?_
            refine zr_getR (pc := 29) S fX12_box_33 dX12_box_29 rfl (Nat.le_of_ble_eq_true rfl) rfl ?_
            refine zr_iload (pc := 32) S dX12_box_32 rfl ?_
            refine zr_iaload (pc := 34) S dX12_box_34 rfl (Nat.le_of_ble_eq_true rfl) (by omega) (by omega) ?_
            refine zr_icmp_ne (pc := 35) (tgt := 39) S dX12_box_35 (by decide) (fun c35 => ?_) (fun c35 => ?_)
            · exact key (by omega) (by omega) (by omega)
            · exact zr_vret (pc := 38) S dX12_box_38 rfl ⟨Nat.le_refl _, Nat.le_refl _⟩ (none9 (fun k hk => by first | exact bxS_e (by omega) | exact bxS_z (by rw [← hB.2.2.2.2.2.2.1 c0 c1 hc.1 (by omega) hc.2.2.2]; omega)))
    · refine zMet.of RX12 (by decide +kernel) rfl rfl ?_
      intro E X as M Qp hX S hsp
      obtain ⟨f, g, y, V, lo, hi, a0, a1, b0, b1, c0, c1, C, rfl, h1, hy, hB, hg, h3, ha, hb, hc, hG, hC, hQ⟩ := hsp
      omega
  | succ e ih => exact ⟨st_X12_box l e ih.2, st_X12_goes l e ih.1⟩
theorem m_X12_box (l : Launch) (e : Nat) : zC l yX12_box wzX12_box (rmX12_box e) (sp_X12_box e) := (m_X12_both l e).1
theorem m_X12_goes (l : Launch) (e : Nat) : zC l yX12_goes wzX12_goes (rmX12_goes e) (sp_X12_goes e) := (m_X12_both l e).2
end
