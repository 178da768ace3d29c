section
variable {G : zG} {R : Room} {nL : Nat} {q : zq} {X : zX} {b : Nat × Nat} {cc : ByteArray} {Ts : List Cond} {own : String} {ret : Option FieldType} {pc : Nat} {ls : List (Option zV)} {st : List zV} {M : zM}
theorem zr_ldcw (S : zS G X cc nL Ts own ret) {i : Nat} (n : Int) (hd : decode cc pc = .ok (.ldc_w i, 3)) (hw : Cond.constant own i (Int32.ofInt n) ∈ Ts) (hn : zrI n) (k : zK G R nL q X b (pc + 3) ls (zI n :: st) M) : zK G R nL q X b pc ls st M := by
  intro ho hl hM H locs arr hP hS hh
  exact lv_ldcw S.1.1 S.1.2.1 S.1.2.2.2.1 (S.1.2.2.2.2 _ hw) hd (k (zokc (v := zI n) hn ho) hl hM H locs arr hP hS hh)
end
section
def rmX12_at : Room := { frames := 0, cells := 0, slots := 0, locals := 0 }
abbrev wzX12_at : List Cond := .code yX12_at cX12_at 3 (some .int) :: zW
def rmX12_layChange : Room := { frames := 5, cells := 0, slots := 0, locals := 110 }
abbrev wzX12_layChange : List Cond := .code yX12_layChange cX12_layChange 7 none :: zW
def rmX12_changes : Room := { frames := 6, cells := 0, slots := 0, locals := 136 }
abbrev wzX12_changes : List Cond := .code yX12_changes cX12_changes 6 (some .int) :: zW
def rmX12_haveTubes : Room := { frames := 1, cells := 0, slots := 0, locals := 21 }
abbrev wzX12_haveTubes : List Cond := .code yX12_haveTubes cX12_haveTubes 2 none :: zW
theorem fX12_layChange_41 : zfl wzX12_layChange RX12 vwCl 41 12 21 := ⟨_, _, _, rfl, (fun w h => List.mem_cons_of_mem _ (zWuX12 w h)), by decide, List.mem_cons_of_mem _ (zWi_9 _ (List.mem_of_getElem? (i := 25) rfl))⟩
theorem fX12_layChange_44 : zfl wzX12_layChange RX12 vwCl 44 12 22 := ⟨_, _, _, rfl, (fun w h => List.mem_cons_of_mem _ (zWuX12 w h)), by decide, List.mem_cons_of_mem _ (zWi_9 _ (List.mem_of_getElem? (i := 26) rfl))⟩
theorem kX12_layChange_302 : ∀ (s9 : State) (a9 : Array Value), (∀ w ∈ wzX12_layChange, w.before a9 s9 = true) → CallW rmX12_layChange s9 a9 RX12 RX12 302 yX12_at cX12_at 3 (some .int) wzX12_at rmX12_at 0 0 2 := zcV (zWi_23 _ (List.mem_of_getElem? (i := 4) rfl)) (zWi_13 _ (List.mem_of_getElem? (i := 41) rfl)) (zWi_26 _ (List.mem_of_getElem? (i := 33) rfl)) (zWi_12 _ (List.mem_of_getElem? (i := 13) rfl)) (zWi_2 _ (List.mem_of_getElem? (i := 20) rfl)) (by decide +kernel) rfl rfl ⟨Nat.le_of_ble_eq_true rfl, Nat.le_of_ble_eq_true rfl⟩
theorem kX12_layChange_264 : ∀ (s9 : State) (a9 : Array Value), (∀ w ∈ wzX12_layChange, w.before a9 s9 = true) → CallW rmX12_layChange s9 a9 RX12 RX12 264 yX12_valueOf cX12_valueOf 2 (some .int) wzX12_valueOf rmX12_valueOf 0 0 1 := zcV (zWi_22 _ (List.mem_of_getElem? (i := 45) rfl)) (zWi_15 _ (List.mem_of_getElem? (i := 31) rfl)) (zWi_28 _ (List.mem_of_getElem? (i := 22) rfl)) (zWi_12 _ (List.mem_of_getElem? (i := 13) rfl)) (zWi_4 _ (List.mem_of_getElem? (i := 13) rfl)) (by decide +kernel) rfl rfl ⟨Nat.le_of_ble_eq_true rfl, Nat.le_of_ble_eq_true rfl⟩
theorem kX12_layChange_228 : zml_mmin wzX12_layChange RX12 228 := ⟨List.mem_cons_of_mem _ (zWi_22 _ (List.mem_of_getElem? (i := 36) rfl)), List.mem_cons_of_mem _ (zWi_30 _ (List.mem_of_getElem? (i := 3) rfl)), List.mem_cons_of_mem _ (zWi_12 _ (List.mem_of_getElem? (i := 0) rfl)), List.mem_cons_of_mem _ (zWi_0 _ (List.mem_of_getElem? (i := 28) rfl))⟩
theorem fX12_changes_41 : zfl wzX12_changes RX12 vwCl 41 12 21 := ⟨_, _, _, rfl, (fun w h => List.mem_cons_of_mem _ (zWuX12 w h)), by decide, List.mem_cons_of_mem _ (zWi_9 _ (List.mem_of_getElem? (i := 25) rfl))⟩
theorem fX12_changes_44 : zfl wzX12_changes RX12 vwCl 44 12 22 := ⟨_, _, _, rfl, (fun w h => List.mem_cons_of_mem _ (zWuX12 w h)), by decide, List.mem_cons_of_mem _ (zWi_9 _ (List.mem_of_getElem? (i := 26) rfl))⟩
theorem fX12_changes_47 : zfl wzX12_changes RX12 vwCl 47 12 23 := ⟨_, _, _, rfl, (fun w h => List.mem_cons_of_mem _ (zWuX12 w h)), by decide, List.mem_cons_of_mem _ (zWi_9 _ (List.mem_of_getElem? (i := 27) rfl))⟩
theorem kX12_changes_305 : ∀ (s9 : State) (a9 : Array Value), (∀ w ∈ wzX12_changes, w.before a9 s9 = true) → CallW rmX12_changes s9 a9 RX12 RX12 305 yX12_layChange cX12_layChange 7 none wzX12_layChange rmX12_layChange 0 0 1 := zcV (zWi_23 _ (List.mem_of_getElem? (i := 5) rfl)) (zWi_14 _ (List.mem_of_getElem? (i := 33) rfl)) (zWi_27 _ (List.mem_of_getElem? (i := 24) rfl)) (zWi_12 _ (List.mem_of_getElem? (i := 13) rfl)) (zWi_3 _ (List.mem_of_getElem? (i := 15) rfl)) (by decide +kernel) rfl rfl ⟨Nat.le_of_ble_eq_true rfl, Nat.le_of_ble_eq_true rfl⟩
theorem kX12_changes_302 : ∀ (s9 : State) (a9 : Array Value), (∀ w ∈ wzX12_changes, w.before a9 s9 = true) → CallW rmX12_changes s9 a9 RX12 RX12 302 yX12_at cX12_at 3 (some .int) wzX12_at rmX12_at 0 0 2 := zcV (zWi_23 _ (List.mem_of_getElem? (i := 4) rfl)) (zWi_13 _ (List.mem_of_getElem? (i := 41) rfl)) (zWi_26 _ (List.mem_of_getElem? (i := 33) rfl)) (zWi_12 _ (List.mem_of_getElem? (i := 13) rfl)) (zWi_2 _ (List.mem_of_getElem? (i := 20) rfl)) (by decide +kernel) rfl rfl ⟨Nat.le_of_ble_eq_true rfl, Nat.le_of_ble_eq_true rfl⟩
theorem kX12_changes_264 : ∀ (s9 : State) (a9 : Array Value), (∀ w ∈ wzX12_changes, w.before a9 s9 = true) → CallW rmX12_changes s9 a9 RX12 RX12 264 yX12_valueOf cX12_valueOf 2 (some .int) wzX12_valueOf rmX12_valueOf 0 0 1 := zcV (zWi_22 _ (List.mem_of_getElem? (i := 45) rfl)) (zWi_15 _ (List.mem_of_getElem? (i := 31) rfl)) (zWi_28 _ (List.mem_of_getElem? (i := 22) rfl)) (zWi_12 _ (List.mem_of_getElem? (i := 13) rfl)) (zWi_4 _ (List.mem_of_getElem? (i := 13) rfl)) (by decide +kernel) rfl rfl ⟨Nat.le_of_ble_eq_true rfl, Nat.le_of_ble_eq_true rfl⟩
theorem kX12_changes_228 : zml_mmin wzX12_changes RX12 228 := ⟨List.mem_cons_of_mem _ (zWi_22 _ (List.mem_of_getElem? (i := 36) rfl)), List.mem_cons_of_mem _ (zWi_30 _ (List.mem_of_getElem? (i := 3) rfl)), List.mem_cons_of_mem _ (zWi_12 _ (List.mem_of_getElem? (i := 0) rfl)), List.mem_cons_of_mem _ (zWi_0 _ (List.mem_of_getElem? (i := 28) rfl))⟩
theorem fX12_haveTubes_44 : zfl wzX12_haveTubes RX12 vwCl 44 12 22 := ⟨_, _, _, rfl, (fun w h => List.mem_cons_of_mem _ (zWuX12 w h)), by decide, List.mem_cons_of_mem _ (zWi_9 _ (List.mem_of_getElem? (i := 26) rfl))⟩
theorem fX12_haveTubes_9 : zfl wzX12_haveTubes RX12 vwCl 9 12 0 := ⟨_, _, _, rfl, (fun w h => List.mem_cons_of_mem _ (zWuX12 w h)), by decide, List.mem_cons_of_mem _ (zWi_9 _ (List.mem_of_getElem? (i := 39) rfl))⟩
theorem kX12_haveTubes_293 : ∀ (s9 : State) (a9 : Array Value), (∀ w ∈ wzX12_haveTubes, w.before a9 s9 = true) → CallW rmX12_haveTubes s9 a9 RX12 RX12 293 yX12_tubeAt cX12_tubeAt 2 (some .int) wzX12_tubeAt rmX12_tubeAt 0 0 1 := zcV (zWi_23 _ (List.mem_of_getElem? (i := 2) rfl)) (zWi_15 _ (List.mem_of_getElem? (i := 30) rfl)) (zWi_28 _ (List.mem_of_getElem? (i := 21) rfl)) (zWi_12 _ (List.mem_of_getElem? (i := 13) rfl)) (zWi_4 _ (List.mem_of_getElem? (i := 12) rfl)) (by decide +kernel) rfl rfl ⟨Nat.le_of_ble_eq_true rfl, Nat.le_of_ble_eq_true rfl⟩
def sp_X12_at (as : List zV) (M : zM) (Q : Option zV → zM → Prop) : Prop := ∃ (s n : Int), as = [zR 180, zI s, zI n] ∧ (0 ≤ s ∧ s ≤ 8) ∧ (0 ≤ n ∧ n ≤ 4800) ∧ (Q (some (zI (4801 * s + n))) M)
theorem us_X12_at {s n : Int} {M : zM} {Q : Option zV → zM → Prop} (h0 : 0 ≤ s ∧ s ≤ 8) (h1 : 0 ≤ n ∧ n ≤ 4800) (hQ : Q (some (zI (4801 * s + n))) M) : sp_X12_at [zR 180, zI s, zI n] M Q := ⟨s, n, rfl, h0, h1, hQ⟩
set_option maxRecDepth 20000 in
set_option maxHeartbeats 4000000 in
theorem m_X12_at (l : Launch) : zC l yX12_at wzX12_at rmX12_at sp_X12_at := by
  refine zMet.of RX12 (by decide +kernel) rfl rfl ?_
  intro E X as M Qp hX S hsp
  obtain ⟨s, n, rfl, h0, h1, hQ⟩ := hsp
  refine ⟨Nat.le_of_ble_eq_true rfl, ?_⟩
  dsimp only [zpad, zargs]
  refine zr_sipush (pc := 0) S dX12_at_0 ⟨by unfold zrI; omega, by decide⟩ ?_
  refine zr_iload_n (pc := 3) S dX12_at_3 rfl ?_
  refine zr_imul (pc := 4) S dX12_at_4 (by unfold zrI; omega) ?_
  refine zr_iload_n (pc := 5) S dX12_at_5 rfl ?_
  refine zr_iadd (pc := 6) S dX12_at_6 (by unfold zrI; omega) ?_
  exact zr_iret (pc := 7) S dX12_at_7 rfl ⟨Nat.le_refl _, Nat.le_refl _⟩ (hQ)
abbrev FM (M : zM) (F : Nat → Int) : zM := zrow M 188 F
theorem FM_vm (M : zM) (F : Nat → Int) : AG (vm M) (vm (FM M F)) := vm_zr (by decide) (by decide)
theorem FM_e {M : zM} {F : Nat → Int} : FM M F 188 = F := zrow_e
theorem FM_o {M : zM} {F : Nat → Int} {k : Nat} (h : k ≠ 188) : FM M F k = M k := zrow_o h
abbrev cH (M : zM) (k : Nat) : Nat := (M 189 k).toNat
abbrev FWok (M : zM) (F : Nat → Int) (top j : Nat) : Prop := ∀ i, i ≤ j → ∀ s, s ≤ top → F (4801 * (8 - i) + s) = (fwD (cH M) (vW (vm M)) i s : Nat)
theorem nmx_st {c w s n : Nat} (h : n + 1 ≤ nmx c w s) : 0 < w ∧ n + 1 ≤ c ∧ (n + 1) * w ≤ s := by
  have r := nmx_r c w s
  unfold nmx at h
  split at h
  · omega
  · rename_i hw
    refine ⟨by omega, by omega, ?_⟩
    have : (n + 1) * w ≤ s / w * w := Nat.mul_le_mul_right _ (by omega)
    have := Nat.div_mul_le_self s w
    omega
theorem nmx_en {c w s : Nat} (hw : 0 < w) : ¬ nmx c w s + 1 ≤ c ∨ s < (nmx c w s + 1) * w := by
  unfold nmx
  rw [if_neg (by omega)]
  by_cases h : c ≤ s / w
  · left; omega
  · right
    rw [Nat.min_eq_right (by omega)]
    exact (Nat.div_lt_iff_lt_mul hw).mp (Nat.lt_succ_self _)
end
