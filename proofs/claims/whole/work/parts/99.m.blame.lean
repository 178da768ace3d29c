section
def rmX12_blames : Room := { frames := 0, cells := 0, slots := 0, locals := 0 }
abbrev wzX12_blames : List Cond := .code yX12_blames cX12_blames 2 none :: zW
theorem fX12_blames_163 : zfl wzX12_blames RX12 vwCl 163 12 12 := ⟨_, _, _, rfl, (fun w h => List.mem_cons_of_mem _ (zWuX12 w h)), by decide, List.mem_cons_of_mem _ (zWi_9 _ (List.mem_of_getElem? (i := 13) rfl))⟩
theorem fX12_blames_148 : zfl wzX12_blames RX12 vwCl 148 12 10 := ⟨_, _, _, rfl, (fun w h => List.mem_cons_of_mem _ (zWuX12 w h)), by decide, List.mem_cons_of_mem _ (zWi_9 _ (List.mem_of_getElem? (i := 10) rfl))⟩
theorem pX12_blames_163 : zfp wzX12_blames RX12 vwCl 163 12 12 := ⟨_, _, _, _, rfl, (fun w h => List.mem_cons_of_mem _ (zWuX12 w h)), by decide, List.mem_cons_of_mem _ (zWi_9 _ (List.mem_of_getElem? (i := 13) rfl)), tyX12_ok, nmX12, rfl, by decide +kernel⟩
theorem fX12_blames_145 : zfl wzX12_blames RX12 vwCl 145 12 9 := ⟨_, _, _, rfl, (fun w h => List.mem_cons_of_mem _ (zWuX12 w h)), by decide, List.mem_cons_of_mem _ (zWi_9 _ (List.mem_of_getElem? (i := 9) rfl))⟩
theorem pX12_blames_166 : zfp wzX12_blames RX12 vwCl 166 12 13 := ⟨_, _, _, _, rfl, (fun w h => List.mem_cons_of_mem _ (zWuX12 w h)), by decide, List.mem_cons_of_mem _ (zWi_9 _ (List.mem_of_getElem? (i := 14) rfl)), tyX12_ok, nmX12, rfl, by decide +kernel⟩
def blM (M : zM) (k : Int) : zM := if M 180 12 = 0 then zup (zup M 180 12 (if M 180 10 = 4 then 1 else k)) 180 13 (M 180 9) else M
def sp_X12_blames (as : List zV) (M : zM) (Q : Option zV → zM → Prop) : Prop := ∃ (k : Int), as = [zR 180, zI k] ∧ (Q none (blM M k))
theorem us_X12_blames {k : Int} {M : zM} {Q : Option zV → zM → Prop} (hQ : Q none (blM M k)) : sp_X12_blames [zR 180, zI k] M Q := ⟨k, rfl, hQ⟩
set_option maxRecDepth 20000 in
set_option maxHeartbeats 4000000 in
theorem m_X12_blames (l : Launch) : zC l yX12_blames wzX12_blames rmX12_blames sp_X12_blames := by
  refine zMet.of RX12 (by decide +kernel) rfl rfl ?_
  intro E X as M Qp hX S hsp
  obtain ⟨k, rfl, hQ⟩ := hsp
  refine ⟨Nat.le_of_ble_eq_true rfl, ?_⟩
  dsimp only [zpad, zargs]
  unfold blM at hQ
  refine zr_aload_n (pc := 0) S dX12_blames_0 rfl ?_
  refine zr_getI (pc := 1) S fX12_blames_163 dX12_blames_1 rfl (Nat.le_of_ble_eq_true rfl) rfl ?_
  refine zr_if_eq (pc := 4) (tgt := 8) S dX12_blames_4 (by decide) (fun c4 => ?_) (fun c4 => ?_)
  · rw [if_pos c4] at hQ
    refine zr_aload_n (pc := 8) S dX12_blames_8 rfl ?_
    refine zr_aload_n (pc := 9) S dX12_blames_9 rfl ?_
    refine zr_getI (pc := 10) S fX12_blames_148 dX12_blames_10 rfl (Nat.le_of_ble_eq_true rfl) rfl ?_
    refine zr_iconst (pc := 13) S dX12_blames_13 (by unfold zrI; omega) ?_
    refine zr_icmp_ne (pc := 14) (tgt := 21) S dX12_blames_14 (by decide) (fun c14 => ?_) (fun c14 => ?_)
    · rw [if_neg c14] at hQ
      refine zr_iload_n (pc := 21) S dX12_blames_21 rfl ?_
      refine zr_putI (pc := 22) S pX12_blames_163 dX12_blames_22 rfl (Nat.le_of_ble_eq_true rfl) rfl ?_
      refine zr_aload_n (pc := 25) S dX12_blames_25 rfl ?_
      refine zr_aload_n (pc := 26) S dX12_blames_26 rfl ?_
      refine zr_getI (pc := 27) S fX12_blames_145 dX12_blames_27 rfl (Nat.le_of_ble_eq_true rfl) rfl ?_
      try simp only [zup_k, zup_e, ne_eq, Nat.reduceEqDiff, not_false_eq_true, zup_j]
      refine zr_putI (pc := 30) S pX12_blames_166 dX12_blames_30 rfl (Nat.le_of_ble_eq_true rfl) rfl ?_
      exact zr_vret (pc := 33) S dX12_blames_33 rfl ⟨Nat.le_refl _, Nat.le_refl _⟩ (hQ)
    · rw [if_pos c14] at hQ
      refine zr_iconst (pc := 17) S dX12_blames_17 (by unfold zrI; omega) ?_
      refine zr_goto (pc := 18) (tgt := 22) S dX12_blames_18 (by decide) ?_
      refine zr_putI (pc := 22) S pX12_blames_163 dX12_blames_22 rfl (Nat.le_of_ble_eq_true rfl) rfl ?_
      refine zr_aload_n (pc := 25) S dX12_blames_25 rfl ?_
      refine zr_aload_n (pc := 26) S dX12_blames_26 rfl ?_
      refine zr_getI (pc := 27) S fX12_blames_145 dX12_blames_27 rfl (Nat.le_of_ble_eq_true rfl) rfl ?_
      try simp only [zup_k, zup_e, ne_eq, Nat.reduceEqDiff, not_false_eq_true, zup_j]
      refine zr_putI (pc := 30) S pX12_blames_166 dX12_blames_30 rfl (Nat.le_of_ble_eq_true rfl) rfl ?_
      exact zr_vret (pc := 33) S dX12_blames_33 rfl ⟨Nat.le_refl _, Nat.le_refl _⟩ (hQ)
  · rw [if_neg c4] at hQ
    exact zr_vret (pc := 7) S dX12_blames_7 rfl ⟨Nat.le_refl _, Nat.le_refl _⟩ (hQ)
end
