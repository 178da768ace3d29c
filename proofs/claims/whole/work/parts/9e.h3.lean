section
theorem cdA_i {k : Nat} {c : Int} (h : cdA k = some c) : (k = 3001 ∧ c = 1) := by
  unfold cdA at h
  split at h
  · cases h; exact ⟨rfl, rfl⟩
  · cases h
theorem cdN_i {k : Nat} {c : Int} (h : cdN k = some c) : (k = 3000 ∧ c = 1) := by
  unfold cdN at h
  split at h
  · cases h; exact ⟨rfl, rfl⟩
  · cases h
theorem cdB_i {k : Nat} {c : Int} (h : cdB k = some c) : (k = 3000 ∧ c = 1) ∨ (k = 3001 ∧ c = 2) := by
  unfold cdB at h
  split at h
  · cases h; exact Or.inl ⟨rfl, rfl⟩
  · cases h; exact Or.inr ⟨rfl, rfl⟩
  · cases h
theorem cdW_i {k : Nat} {c : Int} (h : cdW k = some c) : (k = 3000 ∧ c = 1) ∨ (k = 3002 ∧ c = 2) ∨ (k = 3003 ∧ c = 3) := by
  unfold cdW at h
  split at h
  · cases h; exact Or.inl ⟨rfl, rfl⟩
  · cases h; exact Or.inr (Or.inl ⟨rfl, rfl⟩)
  · cases h; exact Or.inr (Or.inr ⟨rfl, rfl⟩)
  · cases h
theorem cdP_i {k : Nat} {c : Int} (h : cdP k = some c) : (k = 3000 ∧ c = 1) ∨ (k = 3002 ∧ c = 2) ∨ (k = 3001 ∧ c = 3) := by
  unfold cdP at h
  split at h
  · cases h; exact Or.inl ⟨rfl, rfl⟩
  · cases h; exact Or.inr (Or.inl ⟨rfl, rfl⟩)
  · cases h; exact Or.inr (Or.inr ⟨rfl, rfl⟩)
  · cases h
theorem cdR_i {k : Nat} {c : Int} (h : cdR k = some c) : (k = 3000 ∧ c = 1) ∨ (k = 3002 ∧ c = 2) := by
  unfold cdR at h
  split at h
  · cases h; exact Or.inl ⟨rfl, rfl⟩
  · cases h; exact Or.inr ⟨rfl, rfl⟩
  · cases h
def rmL_sort : Room := { frames := 8, cells := 2, slots := 12, locals := 133 }
abbrev wzL_sort : List Cond := .codeWith yL_sort cL_sort 6 (some .int) [(0, 12, 15, 13)] :: zW
theorem kL_sort_7 : ∀ (s9 : State) (a9 : Array Value), (∀ w ∈ wzL_sort, w.before a9 s9 = true) → CallW rmL_sort s9 a9 RL RX11 7 yX11_sort cX11_sort 4 (some .int) wzX11_sort rmX11_sort 2 12 3 := zcV (zWi_20 _ (List.mem_of_getElem? (i := 18) rfl)) (zWi_13 _ (List.mem_of_getElem? (i := 30) rfl)) (zWi_26 _ (List.mem_of_getElem? (i := 22) rfl)) (zWi_12 _ (List.mem_of_getElem? (i := 12) rfl)) (zWi_2 _ (List.mem_of_getElem? (i := 7) rfl)) (by decide +kernel) rfl rfl ⟨Nat.le_of_ble_eq_true rfl, Nat.le_of_ble_eq_true rfl⟩
theorem hL_sort_1 : zHd cL_sort wzL_sort RL 6 7 1 1 := ⟨[], [], ⟨0, 12, 15, 13⟩, rfl, (fun z hz => absurd hz List.not_mem_nil), by decide, by decide, List.mem_cons_of_mem _ (zWi_0 _ (List.mem_of_getElem? (i := 4) rfl)), by decide +kernel, ⟨by decide, by decide⟩, Or.inl ⟨5, by decide, dL_sort_15, dL_sort_17, dL_sort_18⟩⟩
def sp_L_sort (as : List zV) (M : zM) (Q : Option zV → zM → Prop) : Prop := ∃ (p0 p1 p2 : Int), as = [zR 0, zI p0, zI p1, zI p2, zR 201] ∧ sp_X11_sort [zR 0, zI p0, zI p1, zI p2] M (hp cdA (fun k N => Q (some (zI k)) N))
set_option maxRecDepth 20000 in
set_option maxHeartbeats 4000000 in
theorem m_L_sort (l : Launch) : zCx l yL_sort wzL_sort rmL_sort 2 sp_L_sort := by
  refine zMet.ofH RL (by decide +kernel) rfl rfl ?_
  intro E X as M Qp hX S hsp
  obtain ⟨p0, p1, p2, rfl, hsp⟩ := hsp
  refine ⟨Nat.le_of_ble_eq_true rfl, ?_⟩
  dsimp only [zpad, zargs]
  refine zr_aload (pc := 0) S dL_sort_0 rfl ?_
  refine zr_iconst (pc := 2) S dL_sort_2 (by unfold zrI; omega) ?_
  refine zr_aload_n (pc := 3) S dL_sort_3 rfl ?_
  refine zr_iload_n (pc := 4) S dL_sort_4 rfl ?_
  refine zr_iload_n (pc := 5) S dL_sort_5 rfl ?_
  refine zr_iload_n (pc := 6) S dL_sort_6 rfl ?_
  refine zr_invVH (pc := 7) S [zI _, zI _, zI _] (m_X11_sort _) kL_sort_7 dL_sort_7 rfl (Nat.le_of_ble_eq_true rfl) rfl (Nat.le_of_ble_eq_true rfl) ⟨Nat.le_of_ble_eq_true rfl, Nat.le_of_ble_eq_true rfl⟩ rfl (mo_X11_sort (fun v N hv => ?_) (fun k N hk hv => ?_) hsp)
  · refine zr_i2l (pc := 10) S dL_sort_10 ?_
    refine zr_lastore (pc := 11) S dL_sort_11 rfl (Nat.le_of_ble_eq_true rfl) (by omega) (by omega) ?_
    refine zr_goto (pc := 12) (tgt := 19) S dL_sort_12 (by decide) ?_
    refine zr_iconst (pc := 19) S dL_sort_19 (by unfold zrI; omega) ?_
    exact zr_iret (pc := 20) S dL_sort_20 rfl ⟨Nat.le_of_ble_eq_true rfl, Nat.le_of_ble_eq_true rfl⟩ (hv)
  · obtain ⟨c, hc, hq⟩ := hv
    rcases cdA_i hc with ⟨rfl, rfl⟩
    · exact ⟨fun h => absurd h (by decide), fun _ => ⟨_, hL_sort_1, hq, (Nat.le_of_ble_eq_true rfl), (Nat.le_of_ble_eq_true rfl)⟩⟩
def rmL_span : Room := { frames := 9, cells := 3, slots := 18, locals := 155 }
abbrev wzL_span : List Cond := .codeWith yL_span cL_span 6 (some .int) [(0, 9, 12, 19), (0, 9, 16, 13)] :: zW
theorem kL_span_15 : ∀ (s9 : State) (a9 : Array Value), (∀ w ∈ wzL_span, w.before a9 s9 = true) → CallW rmL_span s9 a9 RL RX11 15 yX11_span cX11_span 5 none wzX11_span rmX11_span 3 18 4 := zcV (zWi_18 _ (List.mem_of_getElem? (i := 15) rfl)) (zWi_13 _ (List.mem_of_getElem? (i := 31) rfl)) (zWi_26 _ (List.mem_of_getElem? (i := 23) rfl)) (zWi_12 _ (List.mem_of_getElem? (i := 12) rfl)) (zWi_2 _ (List.mem_of_getElem? (i := 8) rfl)) (by decide +kernel) rfl rfl ⟨Nat.le_of_ble_eq_true rfl, Nat.le_of_ble_eq_true rfl⟩
theorem hL_span_1 : zHd cL_span wzL_span RL 6 6 0 1 := ⟨[], [⟨0, 9, 16, 13⟩], ⟨0, 9, 12, 19⟩, rfl, (fun z hz => absurd hz List.not_mem_nil), by decide, by decide, List.mem_cons_of_mem _ (zWi_0 _ (List.mem_of_getElem? (i := 8) rfl)), by decide +kernel, ⟨by decide, by decide⟩, Or.inl ⟨5, by decide, dL_span_12, dL_span_14, dL_span_15⟩⟩
theorem hL_span_2 : zHd cL_span wzL_span RL 6 6 1 2 := ⟨[⟨0, 9, 12, 19⟩], [], ⟨0, 9, 16, 13⟩, rfl, (List.forall_mem_cons.mpr ⟨⟨by decide, _, List.mem_cons_of_mem _ (zWi_0 _ (List.mem_of_getElem? (i := 8) rfl)), by decide +kernel⟩, (fun z hz => absurd hz List.not_mem_nil)⟩), by decide, by decide, List.mem_cons_of_mem _ (zWi_0 _ (List.mem_of_getElem? (i := 4) rfl)), by decide +kernel, ⟨by decide, by decide⟩, Or.inl ⟨5, by decide, dL_span_16, dL_span_18, dL_span_19⟩⟩
def sp_L_span (as : List zV) (M : zM) (Q : Option zV → zM → Prop) : Prop := ∃ (p0 p1 p2 p3 : Int), as = [zR 0, zI p0, zI p1, zI p2, zI p3] ∧ sp_X11_span [zR 0, zI p0, zI p1, zI p2, zI p3] M (hp cdB (fun k N => Q (some (zI k)) N))
set_option maxRecDepth 20000 in
set_option maxHeartbeats 4000000 in
theorem m_L_span (l : Launch) : zCx l yL_span wzL_span rmL_span 3 sp_L_span := by
  refine zMet.ofH RL (by decide +kernel) rfl rfl ?_
  intro E X as M Qp hX S hsp
  obtain ⟨p0, p1, p2, p3, rfl, hsp⟩ := hsp
  refine ⟨Nat.le_of_ble_eq_true rfl, ?_⟩
  dsimp only [zpad, zargs]
  refine zr_aload_n (pc := 0) S dL_span_0 rfl ?_
  refine zr_iload_n (pc := 1) S dL_span_1 rfl ?_
  refine zr_iload_n (pc := 2) S dL_span_2 rfl ?_
  refine zr_iload_n (pc := 3) S dL_span_3 rfl ?_
  refine zr_iload (pc := 4) S dL_span_4 rfl ?_
  refine zr_invVH (pc := 6) S [zI _, zI _, zI _, zI _] (m_X11_span _) kL_span_15 dL_span_6 rfl (Nat.le_of_ble_eq_true rfl) rfl (Nat.le_of_ble_eq_true rfl) ⟨Nat.le_of_ble_eq_true rfl, Nat.le_of_ble_eq_true rfl⟩ rfl (mo_X11_span (fun N hv => ?_) (fun k N hk hv => ?_) hsp)
  · refine zr_goto (pc := 9) (tgt := 20) S dL_span_9 (by decide) ?_
    refine zr_iconst (pc := 20) S dL_span_20 (by unfold zrI; omega) ?_
    exact zr_iret (pc := 21) S dL_span_21 rfl ⟨Nat.le_of_ble_eq_true rfl, Nat.le_of_ble_eq_true rfl⟩ (hv)
  · obtain ⟨c, hc, hq⟩ := hv
    rcases cdB_i hc with ⟨rfl, rfl⟩ | ⟨rfl, rfl⟩
    · exact ⟨fun h => absurd h (by decide), fun _ => ⟨_, hL_span_1, hq, (Nat.le_of_ble_eq_true rfl), (Nat.le_of_ble_eq_true rfl)⟩⟩
    · exact ⟨fun h => absurd h (by decide), fun _ => ⟨_, hL_span_2, hq, (Nat.le_of_ble_eq_true rfl), (Nat.le_of_ble_eq_true rfl)⟩⟩
def rmL_wear : Room := { frames := 9, cells := 2, slots := 12, locals := 153 }
abbrev wzL_wear : List Cond := .codeWith yL_wear cL_wear 5 (some .int) [(0, 10, 13, 19), (0, 10, 17, 13)] :: zW
theorem kL_wear_21 : ∀ (s9 : State) (a9 : Array Value), (∀ w ∈ wzL_wear, w.before a9 s9 = true) → CallW rmL_wear s9 a9 RL RX11 21 yX11_wear cX11_wear 3 (some .int) wzX11_wear rmX11_wear 2 12 2 := zcV (zWi_18 _ (List.mem_of_getElem? (i := 49) rfl)) (zWi_13 _ (List.mem_of_getElem? (i := 37) rfl)) (zWi_26 _ (List.mem_of_getElem? (i := 29) rfl)) (zWi_12 _ (List.mem_of_getElem? (i := 12) rfl)) (zWi_2 _ (List.mem_of_getElem? (i := 15) rfl)) (by decide +kernel) rfl rfl ⟨Nat.le_of_ble_eq_true rfl, Nat.le_of_ble_eq_true rfl⟩
theorem hL_wear_1 : zHd cL_wear wzL_wear RL 5 5 0 1 := ⟨[], [⟨0, 10, 17, 13⟩], ⟨0, 10, 13, 19⟩, rfl, (fun z hz => absurd hz List.not_mem_nil), by decide, by decide, List.mem_cons_of_mem _ (zWi_0 _ (List.mem_of_getElem? (i := 8) rfl)), by decide +kernel, ⟨by decide, by decide⟩, Or.inl ⟨4, by decide, dL_wear_13, dL_wear_15, dL_wear_16⟩⟩
theorem hL_wear_2 : zHd cL_wear wzL_wear RL 5 5 1 2 := ⟨[⟨0, 10, 13, 19⟩], [], ⟨0, 10, 17, 13⟩, rfl, (List.forall_mem_cons.mpr ⟨⟨by decide, _, List.mem_cons_of_mem _ (zWi_0 _ (List.mem_of_getElem? (i := 8) rfl)), by decide +kernel⟩, (fun z hz => absurd hz List.not_mem_nil)⟩), by decide, by decide, List.mem_cons_of_mem _ (zWi_0 _ (List.mem_of_getElem? (i := 4) rfl)), by decide +kernel, ⟨by decide, by decide⟩, Or.inl ⟨4, by decide, dL_wear_17, dL_wear_19, dL_wear_20⟩⟩
def sp_L_wear (as : List zV) (M : zM) (Q : Option zV → zM → Prop) : Prop := ∃ (p0 p1 : Int), as = [zR 0, zI p0, zI p1, zR 201] ∧ sp_X11_wear [zR 0, zI p0, zI p1] M (hp cdB (fun k N => Q (some (zI k)) N))
set_option maxRecDepth 20000 in
set_option maxHeartbeats 4000000 in
theorem m_L_wear (l : Launch) : zCx l yL_wear wzL_wear rmL_wear 2 sp_L_wear := by
  refine zMet.ofH RL (by decide +kernel) rfl rfl ?_
  intro E X as M Qp hX S hsp
  obtain ⟨p0, p1, rfl, hsp⟩ := hsp
  refine ⟨Nat.le_of_ble_eq_true rfl, ?_⟩
  dsimp only [zpad, zargs]
  refine zr_aload_n (pc := 0) S dL_wear_0 rfl ?_
  refine zr_iconst (pc := 1) S dL_wear_1 (by unfold zrI; omega) ?_
  refine zr_aload_n (pc := 2) S dL_wear_2 rfl ?_
  refine zr_iload_n (pc := 3) S dL_wear_3 rfl ?_
  refine zr_iload_n (pc := 4) S dL_wear_4 rfl ?_
  refine zr_invVH (pc := 5) S [zI _, zI _] (m_X11_wear _) kL_wear_21 dL_wear_5 rfl (Nat.le_of_ble_eq_true rfl) rfl (Nat.le_of_ble_eq_true rfl) ⟨Nat.le_of_ble_eq_true rfl, Nat.le_of_ble_eq_true rfl⟩ rfl (mo_X11_wear (fun v N hv => ?_) (fun k N hk hv => ?_) hsp)
  · refine zr_i2l (pc := 8) S dL_wear_8 ?_
    refine zr_lastore (pc := 9) S dL_wear_9 rfl (Nat.le_of_ble_eq_true rfl) (by omega) (by omega) ?_
    refine zr_goto (pc := 10) (tgt := 21) S dL_wear_10 (by decide) ?_
    refine zr_iconst (pc := 21) S dL_wear_21 (by unfold zrI; omega) ?_
    exact zr_iret (pc := 22) S dL_wear_22 rfl ⟨Nat.le_of_ble_eq_true rfl, Nat.le_of_ble_eq_true rfl⟩ (hv)
  · obtain ⟨c, hc, hq⟩ := hv
    rcases cdB_i hc with ⟨rfl, rfl⟩ | ⟨rfl, rfl⟩
    · exact ⟨fun h => absurd h (by decide), fun _ => ⟨_, hL_wear_1, hq, (Nat.le_of_ble_eq_true rfl), (Nat.le_of_ble_eq_true rfl)⟩⟩
    · exact ⟨fun h => absurd h (by decide), fun _ => ⟨_, hL_wear_2, hq, (Nat.le_of_ble_eq_true rfl), (Nat.le_of_ble_eq_true rfl)⟩⟩
def rmL_flow : Room := { frames := 9, cells := 2, slots := 12, locals := 153 }
abbrev wzL_flow : List Cond := .codeWith yL_flow cL_flow 5 (some .int) [(0, 10, 13, 19), (0, 10, 17, 13)] :: zW
theorem kL_flow_25 : ∀ (s9 : State) (a9 : Array Value), (∀ w ∈ wzL_flow, w.before a9 s9 = true) → CallW rmL_flow s9 a9 RL RX11 25 yX11_flow cX11_flow 3 (some .int) wzX11_flow rmX11_flow 2 12 2 := zcV (zWi_19 _ (List.mem_of_getElem? (i := 24) rfl)) (zWi_13 _ (List.mem_of_getElem? (i := 2) rfl)) (zWi_25 _ (List.mem_of_getElem? (i := 45) rfl)) (zWi_12 _ (List.mem_of_getElem? (i := 12) rfl)) (zWi_1 _ (List.mem_of_getElem? (i := 27) rfl)) (by decide +kernel) rfl rfl ⟨Nat.le_of_ble_eq_true rfl, Nat.le_of_ble_eq_true rfl⟩
theorem hL_flow_1 : zHd cL_flow wzL_flow RL 5 5 0 1 := ⟨[], [⟨0, 10, 17, 13⟩], ⟨0, 10, 13, 19⟩, rfl, (fun z hz => absurd hz List.not_mem_nil), by decide, by decide, List.mem_cons_of_mem _ (zWi_0 _ (List.mem_of_getElem? (i := 8) rfl)), by decide +kernel, ⟨by decide, by decide⟩, Or.inl ⟨4, by decide, dL_flow_13, dL_flow_15, dL_flow_16⟩⟩
theorem hL_flow_2 : zHd cL_flow wzL_flow RL 5 5 1 2 := ⟨[⟨0, 10, 13, 19⟩], [], ⟨0, 10, 17, 13⟩, rfl, (List.forall_mem_cons.mpr ⟨⟨by decide, _, List.mem_cons_of_mem _ (zWi_0 _ (List.mem_of_getElem? (i := 8) rfl)), by decide +kernel⟩, (fun z hz => absurd hz List.not_mem_nil)⟩), by decide, by decide, List.mem_cons_of_mem _ (zWi_0 _ (List.mem_of_getElem? (i := 4) rfl)), by decide +kernel, ⟨by decide, by decide⟩, Or.inl ⟨4, by decide, dL_flow_17, dL_flow_19, dL_flow_20⟩⟩
def sp_L_flow (as : List zV) (M : zM) (Q : Option zV → zM → Prop) : Prop := ∃ (p0 p1 : Int), as = [zR 0, zI p0, zI p1, zR 201] ∧ sp_X11_flow [zR 0, zI p0, zI p1] M (hp cdB (fun k N => Q (some (zI k)) N))
set_option maxRecDepth 20000 in
set_option maxHeartbeats 4000000 in
theorem m_L_flow (l : Launch) : zCx l yL_flow wzL_flow rmL_flow 2 sp_L_flow := by
  refine zMet.ofH RL (by decide +kernel) rfl rfl ?_
  intro E X as M Qp hX S hsp
  obtain ⟨p0, p1, rfl, hsp⟩ := hsp
  refine ⟨Nat.le_of_ble_eq_true rfl, ?_⟩
  dsimp only [zpad, zargs]
  refine zr_aload_n (pc := 0) S dL_flow_0 rfl ?_
  refine zr_iconst (pc := 1) S dL_flow_1 (by unfold zrI; omega) ?_
  refine zr_aload_n (pc := 2) S dL_flow_2 rfl ?_
  refine zr_iload_n (pc := 3) S dL_flow_3 rfl ?_
  refine zr_iload_n (pc := 4) S dL_flow_4 rfl ?_
  refine zr_invVH (pc := 5) S [zI _, zI _] (m_X11_flow _) kL_flow_25 dL_flow_5 rfl (Nat.le_of_ble_eq_true rfl) rfl (Nat.le_of_ble_eq_true rfl) ⟨Nat.le_of_ble_eq_true rfl, Nat.le_of_ble_eq_true rfl⟩ rfl (mo_X11_flow (fun v N hv => ?_) (fun k N hk hv => ?_) hsp)
  · refine zr_i2l (pc := 8) S dL_flow_8 ?_
    refine zr_lastore (pc := 9) S dL_flow_9 rfl (Nat.le_of_ble_eq_true rfl) (by omega) (by omega) ?_
    refine zr_goto (pc := 10) (tgt := 21) S dL_flow_10 (by decide) ?_
    refine zr_iconst (pc := 21) S dL_flow_21 (by unfold zrI; omega) ?_
    exact zr_iret (pc := 22) S dL_flow_22 rfl ⟨Nat.le_of_ble_eq_true rfl, Nat.le_of_ble_eq_true rfl⟩ (hv)
  · obtain ⟨c, hc, hq⟩ := hv
    rcases cdB_i hc with ⟨rfl, rfl⟩ | ⟨rfl, rfl⟩
    · exact ⟨fun h => absurd h (by decide), fun _ => ⟨_, hL_flow_1, hq, (Nat.le_of_ble_eq_true rfl), (Nat.le_of_ble_eq_true rfl)⟩⟩
    · exact ⟨fun h => absurd h (by decide), fun _ => ⟨_, hL_flow_2, hq, (Nat.le_of_ble_eq_true rfl), (Nat.le_of_ble_eq_true rfl)⟩⟩
def rmL_set : Room := { frames := 8, cells := 5, slots := 30, locals := 132 }
abbrev wzL_set : List Cond := .codeWith yL_set cL_set 5 (some .int) [(0, 10, 13, 19), (0, 10, 17, 13)] :: zW
theorem kL_set_28 : ∀ (s9 : State) (a9 : Array Value), (∀ w ∈ wzL_set, w.before a9 s9 = true) → CallW rmL_set s9 a9 RL RX11 28 yX11_set cX11_set 3 (some .int) wzX11_set rmX11_set 5 30 2 := zcV (zWi_19 _ (List.mem_of_getElem? (i := 44) rfl)) (zWi_13 _ (List.mem_of_getElem? (i := 29) rfl)) (zWi_26 _ (List.mem_of_getElem? (i := 21) rfl)) (zWi_12 _ (List.mem_of_getElem? (i := 12) rfl)) (zWi_2 _ (List.mem_of_getElem? (i := 6) rfl)) (by decide +kernel) rfl rfl ⟨Nat.le_of_ble_eq_true rfl, Nat.le_of_ble_eq_true rfl⟩
theorem hL_set_1 : zHd cL_set wzL_set RL 5 5 0 1 := ⟨[], [⟨0, 10, 17, 13⟩], ⟨0, 10, 13, 19⟩, rfl, (fun z hz => absurd hz List.not_mem_nil), by decide, by decide, List.mem_cons_of_mem _ (zWi_0 _ (List.mem_of_getElem? (i := 8) rfl)), by decide +kernel, ⟨by decide, by decide⟩, Or.inl ⟨4, by decide, dL_set_13, dL_set_15, dL_set_16⟩⟩
theorem hL_set_2 : zHd cL_set wzL_set RL 5 5 1 2 := ⟨[⟨0, 10, 13, 19⟩], [], ⟨0, 10, 17, 13⟩, rfl, (List.forall_mem_cons.mpr ⟨⟨by decide, _, List.mem_cons_of_mem _ (zWi_0 _ (List.mem_of_getElem? (i := 8) rfl)), by decide +kernel⟩, (fun z hz => absurd hz List.not_mem_nil)⟩), by decide, by decide, List.mem_cons_of_mem _ (zWi_0 _ (List.mem_of_getElem? (i := 4) rfl)), by decide +kernel, ⟨by decide, by decide⟩, Or.inl ⟨4, by decide, dL_set_17, dL_set_19, dL_set_20⟩⟩
def sp_L_set (as : List zV) (M : zM) (Q : Option zV → zM → Prop) : Prop := ∃ (p0 p1 : Int), as = [zR 0, zI p0, zI p1, zR 201] ∧ sp_X11_set [zR 0, zI p0, zI p1] M (hp cdB (fun k N => Q (some (zI k)) N))
set_option maxRecDepth 20000 in
set_option maxHeartbeats 4000000 in
theorem m_L_set (l : Launch) : zCx l yL_set wzL_set rmL_set 5 sp_L_set := by
  refine zMet.ofH RL (by decide +kernel) rfl rfl ?_
  intro E X as M Qp hX S hsp
  obtain ⟨p0, p1, rfl, hsp⟩ := hsp
  refine ⟨Nat.le_of_ble_eq_true rfl, ?_⟩
  dsimp only [zpad, zargs]
  refine zr_aload_n (pc := 0) S dL_set_0 rfl ?_
  refine zr_iconst (pc := 1) S dL_set_1 (by unfold zrI; omega) ?_
  refine zr_aload_n (pc := 2) S dL_set_2 rfl ?_
  refine zr_iload_n (pc := 3) S dL_set_3 rfl ?_
  refine zr_iload_n (pc := 4) S dL_set_4 rfl ?_
  refine zr_invVH (pc := 5) S [zI _, zI _] (m_X11_set _) kL_set_28 dL_set_5 rfl (Nat.le_of_ble_eq_true rfl) rfl (Nat.le_of_ble_eq_true rfl) ⟨Nat.le_of_ble_eq_true rfl, Nat.le_of_ble_eq_true rfl⟩ rfl (mo_X11_set (fun v N hv => ?_) (fun k N hk hv => ?_) hsp)
  · refine zr_i2l (pc := 8) S dL_set_8 ?_
    refine zr_lastore (pc := 9) S dL_set_9 rfl (Nat.le_of_ble_eq_true rfl) (by omega) (by omega) ?_
    refine zr_goto (pc := 10) (tgt := 21) S dL_set_10 (by decide) ?_
    refine zr_iconst (pc := 21) S dL_set_21 (by unfold zrI; omega) ?_
    exact zr_iret (pc := 22) S dL_set_22 rfl ⟨Nat.le_of_ble_eq_true rfl, Nat.le_of_ble_eq_true rfl⟩ (hv)
  · obtain ⟨c, hc, hq⟩ := hv
    rcases cdB_i hc with ⟨rfl, rfl⟩ | ⟨rfl, rfl⟩
    · exact ⟨fun h => absurd h (by decide), fun _ => ⟨_, hL_set_1, hq, (Nat.le_of_ble_eq_true rfl), (Nat.le_of_ble_eq_true rfl)⟩⟩
    · exact ⟨fun h => absurd h (by decide), fun _ => ⟨_, hL_set_2, hq, (Nat.le_of_ble_eq_true rfl), (Nat.le_of_ble_eq_true rfl)⟩⟩
def rmL_good : Room := { frames := 9, cells := 1, slots := 6, locals := 152 }
abbrev wzL_good : List Cond := .codeWith yL_good cL_good 4 (some .int) [(0, 16, 19, 19)] :: zW
theorem kL_good_31 : ∀ (s9 : State) (a9 : Array Value), (∀ w ∈ wzL_good, w.before a9 s9 = true) → CallW rmL_good s9 a9 RL RX11 31 yX11_good cX11_good 2 (some .boolean) wzX11_good rmX11_good 1 6 1 := zcV (zWi_20 _ (List.mem_of_getElem? (i := 7) rfl)) (zWi_13 _ (List.mem_of_getElem? (i := 5) rfl)) (zWi_25 _ (List.mem_of_getElem? (i := 48) rfl)) (zWi_12 _ (List.mem_of_getElem? (i := 12) rfl)) (zWi_1 _ (List.mem_of_getElem? (i := 30) rfl)) (by decide +kernel) rfl rfl ⟨Nat.le_of_ble_eq_true rfl, Nat.le_of_ble_eq_true rfl⟩
theorem hL_good_1 : zHd cL_good wzL_good RL 4 4 0 1 := ⟨[], [], ⟨0, 16, 19, 19⟩, rfl, (fun z hz => absurd hz List.not_mem_nil), by decide, by decide, List.mem_cons_of_mem _ (zWi_0 _ (List.mem_of_getElem? (i := 8) rfl)), by decide +kernel, ⟨by decide, by decide⟩, Or.inr ⟨3, by decide, dL_good_19, dL_good_20, dL_good_21⟩⟩
def sp_L_good (as : List zV) (M : zM) (Q : Option zV → zM → Prop) : Prop := ∃ (p0 : Int), as = [zR 0, zI p0, zR 201] ∧ sp_X11_good [zR 0, zI p0] M (hp cdN (fun k N => Q (some (zI k)) N))
set_option maxRecDepth 20000 in
set_option maxHeartbeats 4000000 in
theorem m_L_good (l : Launch) : zCx l yL_good wzL_good rmL_good 1 sp_L_good := by
  refine zMet.ofH RL (by decide +kernel) rfl rfl ?_
  intro E X as M Qp hX S hsp
  obtain ⟨p0, rfl, hsp⟩ := hsp
  refine ⟨Nat.le_of_ble_eq_true rfl, ?_⟩
  dsimp only [zpad, zargs]
  refine zr_aload_n (pc := 0) S dL_good_0 rfl ?_
  refine zr_iconst (pc := 1) S dL_good_1 (by unfold zrI; omega) ?_
  refine zr_aload_n (pc := 2) S dL_good_2 rfl ?_
  refine zr_iload_n (pc := 3) S dL_good_3 rfl ?_
  refine zr_invVH (pc := 4) S [zI _] (m_X11_good _) kL_good_31 dL_good_4 rfl (Nat.le_of_ble_eq_true rfl) rfl (Nat.le_of_ble_eq_true rfl) ⟨Nat.le_of_ble_eq_true rfl, Nat.le_of_ble_eq_true rfl⟩ rfl (mo_X11_good (fun v N h01 hv => ?_) (fun k N hk hv => ?_) hsp)
  · refine zr_if_eq (pc := 7) (tgt := 14) S dL_good_7 (by decide) (fun c7 => ?_) (fun c7 => ?_)
    · subst c7
      refine zr_lconst0 (pc := 14) S dL_good_14 ?_
      refine zr_lastore (pc := 15) S dL_good_15 rfl (Nat.le_of_ble_eq_true rfl) (by omega) (by omega) ?_
      refine zr_goto (pc := 16) (tgt := 22) S dL_good_16 (by decide) ?_
      refine zr_iconst (pc := 22) S dL_good_22 (by unfold zrI; omega) ?_
      exact zr_iret (pc := 23) S dL_good_23 rfl ⟨Nat.le_of_ble_eq_true rfl, Nat.le_of_ble_eq_true rfl⟩ (hv)
    · obtain rfl : v = 1 := by omega
      refine zr_lconst1 (pc := 10) S dL_good_10 ?_
      refine zr_goto (pc := 11) (tgt := 15) S dL_good_11 (by decide) ?_
      refine zr_lastore (pc := 15) S dL_good_15 rfl (Nat.le_of_ble_eq_true rfl) (by omega) (by omega) ?_
      refine zr_goto (pc := 16) (tgt := 22) S dL_good_16 (by decide) ?_
      refine zr_iconst (pc := 22) S dL_good_22 (by unfold zrI; omega) ?_
      exact zr_iret (pc := 23) S dL_good_23 rfl ⟨Nat.le_of_ble_eq_true rfl, Nat.le_of_ble_eq_true rfl⟩ (hv)
  · obtain ⟨c, hc, hq⟩ := hv
    rcases cdN_i hc with ⟨rfl, rfl⟩
    · exact ⟨fun h => absurd h (by decide), fun _ => ⟨_, hL_good_1, hq, (Nat.le_of_ble_eq_true rfl), (Nat.le_of_ble_eq_true rfl)⟩⟩
def rmL_text : Room := { frames := 9, cells := 1, slots := 6, locals := 193 }
abbrev wzL_text : List Cond := .codeWith yL_text cL_text 4 (some .int) [(0, 9, 12, 13)] :: zW
theorem kL_text_35 : ∀ (s9 : State) (a9 : Array Value), (∀ w ∈ wzL_text, w.before a9 s9 = true) → CallW rmL_text s9 a9 RL RX11 35 yX11_text cX11_text 2 (some .int) wzX11_text rmX11_text 1 6 1 := zcV (zWi_20 _ (List.mem_of_getElem? (i := 8) rfl)) (zWi_13 _ (List.mem_of_getElem? (i := 33) rfl)) (zWi_26 _ (List.mem_of_getElem? (i := 25) rfl)) (zWi_12 _ (List.mem_of_getElem? (i := 12) rfl)) (zWi_2 _ (List.mem_of_getElem? (i := 11) rfl)) (by decide +kernel) rfl rfl ⟨Nat.le_of_ble_eq_true rfl, Nat.le_of_ble_eq_true rfl⟩
theorem hL_text_1 : zHd cL_text wzL_text RL 4 4 1 1 := ⟨[], [], ⟨0, 9, 12, 13⟩, rfl, (fun z hz => absurd hz List.not_mem_nil), by decide, by decide, List.mem_cons_of_mem _ (zWi_0 _ (List.mem_of_getElem? (i := 4) rfl)), by decide +kernel, ⟨by decide, by decide⟩, Or.inr ⟨3, by decide, dL_text_12, dL_text_13, dL_text_14⟩⟩
def sp_L_text (as : List zV) (M : zM) (Q : Option zV → zM → Prop) : Prop := ∃ (p0 : Int), as = [zR 0, zI p0, zR 201] ∧ sp_X11_text [zR 0, zI p0] M (hp cdA (fun k N => Q (some (zI k)) N))
set_option maxRecDepth 20000 in
set_option maxHeartbeats 4000000 in
theorem m_L_text (l : Launch) : zCx l yL_text wzL_text rmL_text 1 sp_L_text := by
  refine zMet.ofH RL (by decide +kernel) rfl rfl ?_
  intro E X as M Qp hX S hsp
  obtain ⟨p0, rfl, hsp⟩ := hsp
  refine ⟨Nat.le_of_ble_eq_true rfl, ?_⟩
  dsimp only [zpad, zargs]
  refine zr_aload_n (pc := 0) S dL_text_0 rfl ?_
  refine zr_iconst (pc := 1) S dL_text_1 (by unfold zrI; omega) ?_
  refine zr_aload_n (pc := 2) S dL_text_2 rfl ?_
  refine zr_iload_n (pc := 3) S dL_text_3 rfl ?_
  refine zr_invVH (pc := 4) S [zI _] (m_X11_text _) kL_text_35 dL_text_4 rfl (Nat.le_of_ble_eq_true rfl) rfl (Nat.le_of_ble_eq_true rfl) ⟨Nat.le_of_ble_eq_true rfl, Nat.le_of_ble_eq_true rfl⟩ rfl (mo_X11_text (fun v N hv => ?_) (fun k N hk hv => ?_) hsp)
  · refine zr_i2l (pc := 7) S dL_text_7 ?_
    refine zr_lastore (pc := 8) S dL_text_8 rfl (Nat.le_of_ble_eq_true rfl) (by omega) (by omega) ?_
    refine zr_goto (pc := 9) (tgt := 15) S dL_text_9 (by decide) ?_
    refine zr_iconst (pc := 15) S dL_text_15 (by unfold zrI; omega) ?_
    exact zr_iret (pc := 16) S dL_text_16 rfl ⟨Nat.le_of_ble_eq_true rfl, Nat.le_of_ble_eq_true rfl⟩ (hv)
  · obtain ⟨c, hc, hq⟩ := hv
    rcases cdA_i hc with ⟨rfl, rfl⟩
    · exact ⟨fun h => absurd h (by decide), fun _ => ⟨_, hL_text_1, hq, (Nat.le_of_ble_eq_true rfl), (Nat.le_of_ble_eq_true rfl)⟩⟩
def rmL_gate : Room := { frames := 9, cells := 2, slots := 12, locals := 153 }
abbrev wzL_gate : List Cond := .codeWith yL_gate cL_gate 5 (some .int) [(0, 10, 13, 19), (0, 10, 17, 13)] :: zW
theorem kL_gate_39 : ∀ (s9 : State) (a9 : Array Value), (∀ w ∈ wzL_gate, w.before a9 s9 = true) → CallW rmL_gate s9 a9 RL RX11 39 yX11_gate cX11_gate 3 (some .int) wzX11_gate rmX11_gate 2 12 2 := zcV (zWi_20 _ (List.mem_of_getElem? (i := 9) rfl)) (zWi_13 _ (List.mem_of_getElem? (i := 3) rfl)) (zWi_25 _ (List.mem_of_getElem? (i := 46) rfl)) (zWi_12 _ (List.mem_of_getElem? (i := 12) rfl)) (zWi_1 _ (List.mem_of_getElem? (i := 28) rfl)) (by decide +kernel) rfl rfl ⟨Nat.le_of_ble_eq_true rfl, Nat.le_of_ble_eq_true rfl⟩
theorem hL_gate_1 : zHd cL_gate wzL_gate RL 5 5 0 1 := ⟨[], [⟨0, 10, 17, 13⟩], ⟨0, 10, 13, 19⟩, rfl, (fun z hz => absurd hz List.not_mem_nil), by decide, by decide, List.mem_cons_of_mem _ (zWi_0 _ (List.mem_of_getElem? (i := 8) rfl)), by decide +kernel, ⟨by decide, by decide⟩, Or.inl ⟨4, by decide, dL_gate_13, dL_gate_15, dL_gate_16⟩⟩
theorem hL_gate_2 : zHd cL_gate wzL_gate RL 5 5 1 2 := ⟨[⟨0, 10, 13, 19⟩], [], ⟨0, 10, 17, 13⟩, rfl, (List.forall_mem_cons.mpr ⟨⟨by decide, _, List.mem_cons_of_mem _ (zWi_0 _ (List.mem_of_getElem? (i := 8) rfl)), by decide +kernel⟩, (fun z hz => absurd hz List.not_mem_nil)⟩), by decide, by decide, List.mem_cons_of_mem _ (zWi_0 _ (List.mem_of_getElem? (i := 4) rfl)), by decide +kernel, ⟨by decide, by decide⟩, Or.inl ⟨4, by decide, dL_gate_17, dL_gate_19, dL_gate_20⟩⟩
def sp_L_gate (as : List zV) (M : zM) (Q : Option zV → zM → Prop) : Prop := ∃ (p0 p1 : Int), as = [zR 0, zI p0, zI p1, zR 201] ∧ sp_X11_gate [zR 0, zI p0, zI p1] M (hp cdB (fun k N => Q (some (zI k)) N))
set_option maxRecDepth 20000 in
set_option maxHeartbeats 4000000 in
theorem m_L_gate (l : Launch) : zCx l yL_gate wzL_gate rmL_gate 2 sp_L_gate := by
  refine zMet.ofH RL (by decide +kernel) rfl rfl ?_
  intro E X as M Qp hX S hsp
  obtain ⟨p0, p1, rfl, hsp⟩ := hsp
  refine ⟨Nat.le_of_ble_eq_true rfl, ?_⟩
  dsimp only [zpad, zargs]
  refine zr_aload_n (pc := 0) S dL_gate_0 rfl ?_
  refine zr_iconst (pc := 1) S dL_gate_1 (by unfold zrI; omega) ?_
  refine zr_aload_n (pc := 2) S dL_gate_2 rfl ?_
  refine zr_iload_n (pc := 3) S dL_gate_3 rfl ?_
  refine zr_iload_n (pc := 4) S dL_gate_4 rfl ?_
  refine zr_invVH (pc := 5) S [zI _, zI _] (m_X11_gate _) kL_gate_39 dL_gate_5 rfl (Nat.le_of_ble_eq_true rfl) rfl (Nat.le_of_ble_eq_true rfl) ⟨Nat.le_of_ble_eq_true rfl, Nat.le_of_ble_eq_true rfl⟩ rfl (mo_X11_gate (fun v N hv => ?_) (fun k N hk hv => ?_) hsp)
  · refine zr_i2l (pc := 8) S dL_gate_8 ?_
    refine zr_lastore (pc := 9) S dL_gate_9 rfl (Nat.le_of_ble_eq_true rfl) (by omega) (by omega) ?_
    refine zr_goto (pc := 10) (tgt := 21) S dL_gate_10 (by decide) ?_
    refine zr_iconst (pc := 21) S dL_gate_21 (by unfold zrI; omega) ?_
    exact zr_iret (pc := 22) S dL_gate_22 rfl ⟨Nat.le_of_ble_eq_true rfl, Nat.le_of_ble_eq_true rfl⟩ (hv)
  · obtain ⟨c, hc, hq⟩ := hv
    rcases cdB_i hc with ⟨rfl, rfl⟩ | ⟨rfl, rfl⟩
    · exact ⟨fun h => absurd h (by decide), fun _ => ⟨_, hL_gate_1, hq, (Nat.le_of_ble_eq_true rfl), (Nat.le_of_ble_eq_true rfl)⟩⟩
    · exact ⟨fun h => absurd h (by decide), fun _ => ⟨_, hL_gate_2, hq, (Nat.le_of_ble_eq_true rfl), (Nat.le_of_ble_eq_true rfl)⟩⟩
def rmL_taken : Room := { frames := 8, cells := 3, slots := 18, locals := 133 }
abbrev wzL_taken : List Cond := .codeWith yL_taken cL_taken 6 (some .int) [(0, 12, 15, 13)] :: zW
theorem kL_taken_42 : ∀ (s9 : State) (a9 : Array Value), (∀ w ∈ wzL_taken, w.before a9 s9 = true) → CallW rmL_taken s9 a9 RL RX11 42 yX11_taken cX11_taken 4 (some .int) wzX11_taken rmX11_taken 3 18 3 := zcV (zWi_20 _ (List.mem_of_getElem? (i := 10) rfl)) (zWi_13 _ (List.mem_of_getElem? (i := 32) rfl)) (zWi_26 _ (List.mem_of_getElem? (i := 24) rfl)) (zWi_12 _ (List.mem_of_getElem? (i := 12) rfl)) (zWi_2 _ (List.mem_of_getElem? (i := 10) rfl)) (by decide +kernel) rfl rfl ⟨Nat.le_of_ble_eq_true rfl, Nat.le_of_ble_eq_true rfl⟩
theorem hL_taken_1 : zHd cL_taken wzL_taken RL 6 7 1 1 := ⟨[], [], ⟨0, 12, 15, 13⟩, rfl, (fun z hz => absurd hz List.not_mem_nil), by decide, by decide, List.mem_cons_of_mem _ (zWi_0 _ (List.mem_of_getElem? (i := 4) rfl)), by decide +kernel, ⟨by decide, by decide⟩, Or.inl ⟨5, by decide, dL_taken_15, dL_taken_17, dL_taken_18⟩⟩
def sp_L_taken (as : List zV) (M : zM) (Q : Option zV → zM → Prop) : Prop := ∃ (p0 p1 p2 : Int), as = [zR 0, zI p0, zI p1, zI p2, zR 201] ∧ sp_X11_taken [zR 0, zI p0, zI p1, zI p2] M (hp cdA (fun k N => Q (some (zI k)) N))
set_option maxRecDepth 20000 in
set_option maxHeartbeats 4000000 in
theorem m_L_taken (l : Launch) : zCx l yL_taken wzL_taken rmL_taken 3 sp_L_taken := by
  refine zMet.ofH RL (by decide +kernel) rfl rfl ?_
  intro E X as M Qp hX S hsp
  obtain ⟨p0, p1, p2, rfl, hsp⟩ := hsp
  refine ⟨Nat.le_of_ble_eq_true rfl, ?_⟩
  dsimp only [zpad, zargs]
  refine zr_aload (pc := 0) S dL_taken_0 rfl ?_
  refine zr_iconst (pc := 2) S dL_taken_2 (by unfold zrI; omega) ?_
  refine zr_aload_n (pc := 3) S dL_taken_3 rfl ?_
  refine zr_iload_n (pc := 4) S dL_taken_4 rfl ?_
  refine zr_iload_n (pc := 5) S dL_taken_5 rfl ?_
  refine zr_iload_n (pc := 6) S dL_taken_6 rfl ?_
  refine zr_invVH (pc := 7) S [zI _, zI _, zI _] (m_X11_taken _) kL_taken_42 dL_taken_7 rfl (Nat.le_of_ble_eq_true rfl) rfl (Nat.le_of_ble_eq_true rfl) ⟨Nat.le_of_ble_eq_true rfl, Nat.le_of_ble_eq_true rfl⟩ rfl (mo_X11_taken (fun v N hv => ?_) (fun k N hk hv => ?_) hsp)
  · refine zr_i2l (pc := 10) S dL_taken_10 ?_
    refine zr_lastore (pc := 11) S dL_taken_11 rfl (Nat.le_of_ble_eq_true rfl) (by omega) (by omega) ?_
    refine zr_goto (pc := 12) (tgt := 19) S dL_taken_12 (by decide) ?_
    refine zr_iconst (pc := 19) S dL_taken_19 (by unfold zrI; omega) ?_
    exact zr_iret (pc := 20) S dL_taken_20 rfl ⟨Nat.le_of_ble_eq_true rfl, Nat.le_of_ble_eq_true rfl⟩ (hv)
  · obtain ⟨c, hc, hq⟩ := hv
    rcases cdA_i hc with ⟨rfl, rfl⟩
    · exact ⟨fun h => absurd h (by decide), fun _ => ⟨_, hL_taken_1, hq, (Nat.le_of_ble_eq_true rfl), (Nat.le_of_ble_eq_true rfl)⟩⟩
def rmL_coins : Room := { frames := 9, cells := 1, slots := 6, locals := 152 }
abbrev wzL_coins : List Cond := .codeWith yL_coins cL_coins 4 (some .int) [(0, 8, 11, 19)] :: zW
theorem kL_coins_45 : ∀ (s9 : State) (a9 : Array Value), (∀ w ∈ wzL_coins, w.before a9 s9 = true) → CallW rmL_coins s9 a9 RL RX11 45 yX11_coins cX11_coins 2 (some .long) wzX11_coins rmX11_coins 1 6 1 := zcV (zWi_20 _ (List.mem_of_getElem? (i := 11) rfl)) (zWi_12 _ (List.mem_of_getElem? (i := 44) rfl)) (zWi_25 _ (List.mem_of_getElem? (i := 37) rfl)) (zWi_12 _ (List.mem_of_getElem? (i := 12) rfl)) (zWi_1 _ (List.mem_of_getElem? (i := 18) rfl)) (by decide +kernel) rfl rfl ⟨Nat.le_of_ble_eq_true rfl, Nat.le_of_ble_eq_true rfl⟩
theorem hL_coins_1 : zHd cL_coins wzL_coins RL 4 4 0 1 := ⟨[], [], ⟨0, 8, 11, 19⟩, rfl, (fun z hz => absurd hz List.not_mem_nil), by decide, by decide, List.mem_cons_of_mem _ (zWi_0 _ (List.mem_of_getElem? (i := 8) rfl)), by decide +kernel, ⟨by decide, by decide⟩, Or.inr ⟨3, by decide, dL_coins_11, dL_coins_12, dL_coins_13⟩⟩
def sp_L_coins (as : List zV) (M : zM) (Q : Option zV → zM → Prop) : Prop := ∃ (p0 : Int), as = [zR 0, zI p0, zR 201] ∧ sp_X11_coins [zR 0, zI p0] M (hp cdN (fun k N => Q (some (zI k)) N))
set_option maxRecDepth 20000 in
set_option maxHeartbeats 4000000 in
theorem m_L_coins (l : Launch) : zCx l yL_coins wzL_coins rmL_coins 1 sp_L_coins := by
  refine zMet.ofH RL (by decide +kernel) rfl rfl ?_
  intro E X as M Qp hX S hsp
  obtain ⟨p0, rfl, hsp⟩ := hsp
  refine ⟨Nat.le_of_ble_eq_true rfl, ?_⟩
  dsimp only [zpad, zargs]
  refine zr_aload_n (pc := 0) S dL_coins_0 rfl ?_
  refine zr_iconst (pc := 1) S dL_coins_1 (by unfold zrI; omega) ?_
  refine zr_aload_n (pc := 2) S dL_coins_2 rfl ?_
  refine zr_iload_n (pc := 3) S dL_coins_3 rfl ?_
  refine zr_invVH (pc := 4) S [zI _] (m_X11_coins _) kL_coins_45 dL_coins_4 rfl (Nat.le_of_ble_eq_true rfl) rfl (Nat.le_of_ble_eq_true rfl) ⟨Nat.le_of_ble_eq_true rfl, Nat.le_of_ble_eq_true rfl⟩ rfl (mo_X11_coins (fun v N hv => ?_) (fun k N hk hv => ?_) hsp)
  · refine zr_lastore (pc := 7) S dL_coins_7 rfl (Nat.le_of_ble_eq_true rfl) (by omega) (by omega) ?_
    refine zr_goto (pc := 8) (tgt := 14) S dL_coins_8 (by decide) ?_
    refine zr_iconst (pc := 14) S dL_coins_14 (by unfold zrI; omega) ?_
    exact zr_iret (pc := 15) S dL_coins_15 rfl ⟨Nat.le_of_ble_eq_true rfl, Nat.le_of_ble_eq_true rfl⟩ (hv)
  · obtain ⟨c, hc, hq⟩ := hv
    rcases cdN_i hc with ⟨rfl, rfl⟩
    · exact ⟨fun h => absurd h (by decide), fun _ => ⟨_, hL_coins_1, hq, (Nat.le_of_ble_eq_true rfl), (Nat.le_of_ble_eq_true rfl)⟩⟩
def rmL_passes : Room := { frames := 9, cells := 2, slots := 12, locals := 153 }
abbrev wzL_passes : List Cond := .codeWith yL_passes cL_passes 5 (some .int) [(0, 9, 12, 19)] :: zW
theorem kL_passes_49 : ∀ (s9 : State) (a9 : Array Value), (∀ w ∈ wzL_passes, w.before a9 s9 = true) → CallW rmL_passes s9 a9 RL RX11 49 yX11_passes cX11_passes 3 (some .long) wzX11_passes rmX11_passes 2 12 2 := zcV (zWi_20 _ (List.mem_of_getElem? (i := 12) rfl)) (zWi_13 _ (List.mem_of_getElem? (i := 20) rfl)) (zWi_26 _ (List.mem_of_getElem? (i := 12) rfl)) (zWi_12 _ (List.mem_of_getElem? (i := 12) rfl)) (zWi_1 _ (List.mem_of_getElem? (i := 47) rfl)) (by decide +kernel) rfl rfl ⟨Nat.le_of_ble_eq_true rfl, Nat.le_of_ble_eq_true rfl⟩
theorem hL_passes_1 : zHd cL_passes wzL_passes RL 5 5 0 1 := ⟨[], [], ⟨0, 9, 12, 19⟩, rfl, (fun z hz => absurd hz List.not_mem_nil), by decide, by decide, List.mem_cons_of_mem _ (zWi_0 _ (List.mem_of_getElem? (i := 8) rfl)), by decide +kernel, ⟨by decide, by decide⟩, Or.inl ⟨4, by decide, dL_passes_12, dL_passes_14, dL_passes_15⟩⟩
def sp_L_passes (as : List zV) (M : zM) (Q : Option zV → zM → Prop) : Prop := ∃ (p0 p1 : Int), as = [zR 0, zI p0, zI p1, zR 201] ∧ sp_X11_passes [zR 0, zI p0, zI p1] M (hp cdN (fun k N => Q (some (zI k)) N))
set_option maxRecDepth 20000 in
set_option maxHeartbeats 4000000 in
theorem m_L_passes (l : Launch) : zCx l yL_passes wzL_passes rmL_passes 2 sp_L_passes := by
  refine zMet.ofH RL (by decide +kernel) rfl rfl ?_
  intro E X as M Qp hX S hsp
  obtain ⟨p0, p1, rfl, hsp⟩ := hsp
  refine ⟨Nat.le_of_ble_eq_true rfl, ?_⟩
  dsimp only [zpad, zargs]
  refine zr_aload_n (pc := 0) S dL_passes_0 rfl ?_
  refine zr_iconst (pc := 1) S dL_passes_1 (by unfold zrI; omega) ?_
  refine zr_aload_n (pc := 2) S dL_passes_2 rfl ?_
  refine zr_iload_n (pc := 3) S dL_passes_3 rfl ?_
  refine zr_iload_n (pc := 4) S dL_passes_4 rfl ?_
  refine zr_invVH (pc := 5) S [zI _, zI _] (m_X11_passes _) kL_passes_49 dL_passes_5 rfl (Nat.le_of_ble_eq_true rfl) rfl (Nat.le_of_ble_eq_true rfl) ⟨Nat.le_of_ble_eq_true rfl, Nat.le_of_ble_eq_true rfl⟩ rfl (mo_X11_passes (fun v N hv => ?_) (fun k N hk hv => ?_) hsp)
  · refine zr_lastore (pc := 8) S dL_passes_8 rfl (Nat.le_of_ble_eq_true rfl) (by omega) (by omega) ?_
    refine zr_goto (pc := 9) (tgt := 16) S dL_passes_9 (by decide) ?_
    refine zr_iconst (pc := 16) S dL_passes_16 (by unfold zrI; omega) ?_
    exact zr_iret (pc := 17) S dL_passes_17 rfl ⟨Nat.le_of_ble_eq_true rfl, Nat.le_of_ble_eq_true rfl⟩ (hv)
  · obtain ⟨c, hc, hq⟩ := hv
    rcases cdN_i hc with ⟨rfl, rfl⟩
    · exact ⟨fun h => absurd h (by decide), fun _ => ⟨_, hL_passes_1, hq, (Nat.le_of_ble_eq_true rfl), (Nat.le_of_ble_eq_true rfl)⟩⟩
def rmL_wrong : Room := { frames := 9, cells := 1, slots := 6, locals := 152 }
abbrev wzL_wrong : List Cond := .codeWith yL_wrong cL_wrong 4 (some .int) [(0, 8, 11, 19)] :: zW
theorem kL_wrong_53 : ∀ (s9 : State) (a9 : Array Value), (∀ w ∈ wzL_wrong, w.before a9 s9 = true) → CallW rmL_wrong s9 a9 RL RX11 53 yX11_wrong cX11_wrong 2 (some .long) wzX11_wrong rmX11_wrong 1 6 1 := zcV (zWi_20 _ (List.mem_of_getElem? (i := 13) rfl)) (zWi_13 _ (List.mem_of_getElem? (i := 40) rfl)) (zWi_26 _ (List.mem_of_getElem? (i := 32) rfl)) (zWi_12 _ (List.mem_of_getElem? (i := 12) rfl)) (zWi_2 _ (List.mem_of_getElem? (i := 19) rfl)) (by decide +kernel) rfl rfl ⟨Nat.le_of_ble_eq_true rfl, Nat.le_of_ble_eq_true rfl⟩
theorem hL_wrong_1 : zHd cL_wrong wzL_wrong RL 4 4 0 1 := ⟨[], [], ⟨0, 8, 11, 19⟩, rfl, (fun z hz => absurd hz List.not_mem_nil), by decide, by decide, List.mem_cons_of_mem _ (zWi_0 _ (List.mem_of_getElem? (i := 8) rfl)), by decide +kernel, ⟨by decide, by decide⟩, Or.inr ⟨3, by decide, dL_wrong_11, dL_wrong_12, dL_wrong_13⟩⟩
def sp_L_wrong (as : List zV) (M : zM) (Q : Option zV → zM → Prop) : Prop := ∃ (p0 : Int), as = [zR 0, zI p0, zR 201] ∧ sp_X11_wrong [zR 0, zI p0] M (hp cdN (fun k N => Q (some (zI k)) N))
set_option maxRecDepth 20000 in
set_option maxHeartbeats 4000000 in
theorem m_L_wrong (l : Launch) : zCx l yL_wrong wzL_wrong rmL_wrong 1 sp_L_wrong := by
  refine zMet.ofH RL (by decide +kernel) rfl rfl ?_
  intro E X as M Qp hX S hsp
  obtain ⟨p0, rfl, hsp⟩ := hsp
  refine ⟨Nat.le_of_ble_eq_true rfl, ?_⟩
  dsimp only [zpad, zargs]
  refine zr_aload_n (pc := 0) S dL_wrong_0 rfl ?_
  refine zr_iconst (pc := 1) S dL_wrong_1 (by unfold zrI; omega) ?_
  refine zr_aload_n (pc := 2) S dL_wrong_2 rfl ?_
  refine zr_iload_n (pc := 3) S dL_wrong_3 rfl ?_
  refine zr_invVH (pc := 4) S [zI _] (m_X11_wrong _) kL_wrong_53 dL_wrong_4 rfl (Nat.le_of_ble_eq_true rfl) rfl (Nat.le_of_ble_eq_true rfl) ⟨Nat.le_of_ble_eq_true rfl, Nat.le_of_ble_eq_true rfl⟩ rfl (mo_X11_wrong (fun v N hv => ?_) (fun k N hk hv => ?_) hsp)
  · refine zr_lastore (pc := 7) S dL_wrong_7 rfl (Nat.le_of_ble_eq_true rfl) (by omega) (by omega) ?_
    refine zr_goto (pc := 8) (tgt := 14) S dL_wrong_8 (by decide) ?_
    refine zr_iconst (pc := 14) S dL_wrong_14 (by unfold zrI; omega) ?_
    exact zr_iret (pc := 15) S dL_wrong_15 rfl ⟨Nat.le_of_ble_eq_true rfl, Nat.le_of_ble_eq_true rfl⟩ (hv)
  · obtain ⟨c, hc, hq⟩ := hv
    rcases cdN_i hc with ⟨rfl, rfl⟩
    · exact ⟨fun h => absurd h (by decide), fun _ => ⟨_, hL_wrong_1, hq, (Nat.le_of_ble_eq_true rfl), (Nat.le_of_ble_eq_true rfl)⟩⟩
def rmL_loss : Room := { frames := 10, cells := 3, slots := 18, locals := 177 }
abbrev wzL_loss : List Cond := .codeWith yL_loss cL_loss 6 (some .int) [(0, 11, 14, 19), (0, 11, 18, 13)] :: zW
theorem kL_loss_56 : ∀ (s9 : State) (a9 : Array Value), (∀ w ∈ wzL_loss, w.before a9 s9 = true) → CallW rmL_loss s9 a9 RL RX11 56 yX11_loss cX11_loss 4 (some .long) wzX11_loss rmX11_loss 3 18 3 := zcV (zWi_20 _ (List.mem_of_getElem? (i := 14) rfl)) (zWi_13 _ (List.mem_of_getElem? (i := 10) rfl)) (zWi_26 _ (List.mem_of_getElem? (i := 2) rfl)) (zWi_12 _ (List.mem_of_getElem? (i := 12) rfl)) (zWi_1 _ (List.mem_of_getElem? (i := 35) rfl)) (by decide +kernel) rfl rfl ⟨Nat.le_of_ble_eq_true rfl, Nat.le_of_ble_eq_true rfl⟩
theorem hL_loss_1 : zHd cL_loss wzL_loss RL 6 7 0 1 := ⟨[], [⟨0, 11, 18, 13⟩], ⟨0, 11, 14, 19⟩, rfl, (fun z hz => absurd hz List.not_mem_nil), by decide, by decide, List.mem_cons_of_mem _ (zWi_0 _ (List.mem_of_getElem? (i := 8) rfl)), by decide +kernel, ⟨by decide, by decide⟩, Or.inl ⟨5, by decide, dL_loss_14, dL_loss_16, dL_loss_17⟩⟩
theorem hL_loss_2 : zHd cL_loss wzL_loss RL 6 7 1 2 := ⟨[⟨0, 11, 14, 19⟩], [], ⟨0, 11, 18, 13⟩, rfl, (List.forall_mem_cons.mpr ⟨⟨by decide, _, List.mem_cons_of_mem _ (zWi_0 _ (List.mem_of_getElem? (i := 8) rfl)), by decide +kernel⟩, (fun z hz => absurd hz List.not_mem_nil)⟩), by decide, by decide, List.mem_cons_of_mem _ (zWi_0 _ (List.mem_of_getElem? (i := 4) rfl)), by decide +kernel, ⟨by decide, by decide⟩, Or.inl ⟨5, by decide, dL_loss_18, dL_loss_20, dL_loss_21⟩⟩
def sp_L_loss (as : List zV) (M : zM) (Q : Option zV → zM → Prop) : Prop := ∃ (p0 p1 p2 : Int), as = [zR 0, zI p0, zI p1, zI p2, zR 201] ∧ sp_X11_loss [zR 0, zI p0, zI p1, zI p2] M (hp cdB (fun k N => Q (some (zI k)) N))
set_option maxRecDepth 20000 in
set_option maxHeartbeats 4000000 in
theorem m_L_loss (l : Launch) : zCx l yL_loss wzL_loss rmL_loss 3 sp_L_loss := by
  refine zMet.ofH RL (by decide +kernel) rfl rfl ?_
  intro E X as M Qp hX S hsp
  obtain ⟨p0, p1, p2, rfl, hsp⟩ := hsp
  refine ⟨Nat.le_of_ble_eq_true rfl, ?_⟩
  dsimp only [zpad, zargs]
  refine zr_aload (pc := 0) S dL_loss_0 rfl ?_
  refine zr_iconst (pc := 2) S dL_loss_2 (by unfold zrI; omega) ?_
  refine zr_aload_n (pc := 3) S dL_loss_3 rfl ?_
  refine zr_iload_n (pc := 4) S dL_loss_4 rfl ?_
  refine zr_iload_n (pc := 5) S dL_loss_5 rfl ?_
  refine zr_iload_n (pc := 6) S dL_loss_6 rfl ?_
  refine zr_invVH (pc := 7) S [zI _, zI _, zI _] (m_X11_loss _) kL_loss_56 dL_loss_7 rfl (Nat.le_of_ble_eq_true rfl) rfl (Nat.le_of_ble_eq_true rfl) ⟨Nat.le_of_ble_eq_true rfl, Nat.le_of_ble_eq_true rfl⟩ rfl (mo_X11_loss (fun v N hv => ?_) (fun k N hk hv => ?_) hsp)
  · refine zr_lastore (pc := 10) S dL_loss_10 rfl (Nat.le_of_ble_eq_true rfl) (by omega) (by omega) ?_
    refine zr_goto (pc := 11) (tgt := 22) S dL_loss_11 (by decide) ?_
    refine zr_iconst (pc := 22) S dL_loss_22 (by unfold zrI; omega) ?_
    exact zr_iret (pc := 23) S dL_loss_23 rfl ⟨Nat.le_of_ble_eq_true rfl, Nat.le_of_ble_eq_true rfl⟩ (hv)
  · obtain ⟨c, hc, hq⟩ := hv
    rcases cdB_i hc with ⟨rfl, rfl⟩ | ⟨rfl, rfl⟩
    · exact ⟨fun h => absurd h (by decide), fun _ => ⟨_, hL_loss_1, hq, (Nat.le_of_ble_eq_true rfl), (Nat.le_of_ble_eq_true rfl)⟩⟩
    · exact ⟨fun h => absurd h (by decide), fun _ => ⟨_, hL_loss_2, hq, (Nat.le_of_ble_eq_true rfl), (Nat.le_of_ble_eq_true rfl)⟩⟩
def rmL_best : Room := { frames := 9, cells := 2, slots := 12, locals := 177 }
abbrev wzL_best : List Cond := .codeWith yL_best cL_best 5 (some .int) [(0, 9, 12, 19), (0, 9, 16, 13)] :: zW
theorem kL_best_60 : ∀ (s9 : State) (a9 : Array Value), (∀ w ∈ wzL_best, w.before a9 s9 = true) → CallW rmL_best s9 a9 RL RX11 60 yX11_best cX11_best 3 (some .long) wzX11_best rmX11_best 2 12 2 := zcV (zWi_20 _ (List.mem_of_getElem? (i := 15) rfl)) (zWi_12 _ (List.mem_of_getElem? (i := 42) rfl)) (zWi_25 _ (List.mem_of_getElem? (i := 35) rfl)) (zWi_12 _ (List.mem_of_getElem? (i := 12) rfl)) (zWi_1 _ (List.mem_of_getElem? (i := 16) rfl)) (by decide +kernel) rfl rfl ⟨Nat.le_of_ble_eq_true rfl, Nat.le_of_ble_eq_true rfl⟩
theorem hL_best_1 : zHd cL_best wzL_best RL 5 5 0 1 := ⟨[], [⟨0, 9, 16, 13⟩], ⟨0, 9, 12, 19⟩, rfl, (fun z hz => absurd hz List.not_mem_nil), by decide, by decide, List.mem_cons_of_mem _ (zWi_0 _ (List.mem_of_getElem? (i := 8) rfl)), by decide +kernel, ⟨by decide, by decide⟩, Or.inl ⟨4, by decide, dL_best_12, dL_best_14, dL_best_15⟩⟩
theorem hL_best_2 : zHd cL_best wzL_best RL 5 5 1 2 := ⟨[⟨0, 9, 12, 19⟩], [], ⟨0, 9, 16, 13⟩, rfl, (List.forall_mem_cons.mpr ⟨⟨by decide, _, List.mem_cons_of_mem _ (zWi_0 _ (List.mem_of_getElem? (i := 8) rfl)), by decide +kernel⟩, (fun z hz => absurd hz List.not_mem_nil)⟩), by decide, by decide, List.mem_cons_of_mem _ (zWi_0 _ (List.mem_of_getElem? (i := 4) rfl)), by decide +kernel, ⟨by decide, by decide⟩, Or.inl ⟨4, by decide, dL_best_16, dL_best_18, dL_best_19⟩⟩
def sp_L_best (as : List zV) (M : zM) (Q : Option zV → zM → Prop) : Prop := ∃ (p0 p1 : Int), as = [zR 0, zI p0, zI p1, zR 201] ∧ sp_X11_best [zR 0, zI p0, zI p1] M (hp cdB (fun k N => Q (some (zI k)) N))
set_option maxRecDepth 20000 in
set_option maxHeartbeats 4000000 in
theorem m_L_best (l : Launch) : zCx l yL_best wzL_best rmL_best 2 sp_L_best := by
  refine zMet.ofH RL (by decide +kernel) rfl rfl ?_
  intro E X as M Qp hX S hsp
  obtain ⟨p0, p1, rfl, hsp⟩ := hsp
  refine ⟨Nat.le_of_ble_eq_true rfl, ?_⟩
  dsimp only [zpad, zargs]
  refine zr_aload_n (pc := 0) S dL_best_0 rfl ?_
  refine zr_iconst (pc := 1) S dL_best_1 (by unfold zrI; omega) ?_
  refine zr_aload_n (pc := 2) S dL_best_2 rfl ?_
  refine zr_iload_n (pc := 3) S dL_best_3 rfl ?_
  refine zr_iload_n (pc := 4) S dL_best_4 rfl ?_
  refine zr_invVH (pc := 5) S [zI _, zI _] (m_X11_best _) kL_best_60 dL_best_5 rfl (Nat.le_of_ble_eq_true rfl) rfl (Nat.le_of_ble_eq_true rfl) ⟨Nat.le_of_ble_eq_true rfl, Nat.le_of_ble_eq_true rfl⟩ rfl (mo_X11_best (fun v N hv => ?_) (fun k N hk hv => ?_) hsp)
  · refine zr_lastore (pc := 8) S dL_best_8 rfl (Nat.le_of_ble_eq_true rfl) (by omega) (by omega) ?_
    refine zr_goto (pc := 9) (tgt := 20) S dL_best_9 (by decide) ?_
    refine zr_iconst (pc := 20) S dL_best_20 (by unfold zrI; omega) ?_
    exact zr_iret (pc := 21) S dL_best_21 rfl ⟨Nat.le_of_ble_eq_true rfl, Nat.le_of_ble_eq_true rfl⟩ (hv)
  · obtain ⟨c, hc, hq⟩ := hv
    rcases cdB_i hc with ⟨rfl, rfl⟩ | ⟨rfl, rfl⟩
    · exact ⟨fun h => absurd h (by decide), fun _ => ⟨_, hL_best_1, hq, (Nat.le_of_ble_eq_true rfl), (Nat.le_of_ble_eq_true rfl)⟩⟩
    · exact ⟨fun h => absurd h (by decide), fun _ => ⟨_, hL_best_2, hq, (Nat.le_of_ble_eq_true rfl), (Nat.le_of_ble_eq_true rfl)⟩⟩
def rmL_move : Room := { frames := 10, cells := 3, slots := 18, locals := 179 }
abbrev wzL_move : List Cond := .codeWith yL_move cL_move 6 (some .int) [(0, 19, 22, 19), (0, 19, 26, 13)] :: zW
theorem kL_move_63 : ∀ (s9 : State) (a9 : Array Value), (∀ w ∈ wzL_move, w.before a9 s9 = true) → CallW rmL_move s9 a9 RL RX11 63 yX11_move cX11_move 6 (some .boolean) wzX11_move rmX11_move 3 18 3 := zcV (zWi_20 _ (List.mem_of_getElem? (i := 16) rfl)) (zWi_13 _ (List.mem_of_getElem? (i := 14) rfl)) (zWi_26 _ (List.mem_of_getElem? (i := 6) rfl)) (zWi_12 _ (List.mem_of_getElem? (i := 12) rfl)) (zWi_1 _ (List.mem_of_getElem? (i := 39) rfl)) (by decide +kernel) rfl rfl ⟨Nat.le_of_ble_eq_true rfl, Nat.le_of_ble_eq_true rfl⟩
theorem hL_move_1 : zHd cL_move wzL_move RL 6 7 0 1 := ⟨[], [⟨0, 19, 26, 13⟩], ⟨0, 19, 22, 19⟩, rfl, (fun z hz => absurd hz List.not_mem_nil), by decide, by decide, List.mem_cons_of_mem _ (zWi_0 _ (List.mem_of_getElem? (i := 8) rfl)), by decide +kernel, ⟨by decide, by decide⟩, Or.inl ⟨5, by decide, dL_move_22, dL_move_24, dL_move_25⟩⟩
theorem hL_move_2 : zHd cL_move wzL_move RL 6 7 1 2 := ⟨[⟨0, 19, 22, 19⟩], [], ⟨0, 19, 26, 13⟩, rfl, (List.forall_mem_cons.mpr ⟨⟨by decide, _, List.mem_cons_of_mem _ (zWi_0 _ (List.mem_of_getElem? (i := 8) rfl)), by decide +kernel⟩, (fun z hz => absurd hz List.not_mem_nil)⟩), by decide, by decide, List.mem_cons_of_mem _ (zWi_0 _ (List.mem_of_getElem? (i := 4) rfl)), by decide +kernel, ⟨by decide, by decide⟩, Or.inl ⟨5, by decide, dL_move_26, dL_move_28, dL_move_29⟩⟩
def sp_L_move (as : List zV) (M : zM) (Q : Option zV → zM → Prop) : Prop := ∃ (p0 p1 p2 : Int), as = [zR 0, zI p0, zI p1, zI p2, zR 201] ∧ sp_X11_move [zR 0, zI p0, zI p1, zI p2] M (hp cdB (fun k N => Q (some (zI k)) N))
set_option maxRecDepth 20000 in
set_option maxHeartbeats 4000000 in
theorem m_L_move (l : Launch) : zCx l yL_move wzL_move rmL_move 3 sp_L_move := by
  refine zMet.ofH RL (by decide +kernel) rfl rfl ?_
  intro E X as M Qp hX S hsp
  obtain ⟨p0, p1, p2, rfl, hsp⟩ := hsp
  refine ⟨Nat.le_of_ble_eq_true rfl, ?_⟩
  dsimp only [zpad, zargs]
  refine zr_aload (pc := 0) S dL_move_0 rfl ?_
  refine zr_iconst (pc := 2) S dL_move_2 (by unfold zrI; omega) ?_
  refine zr_aload_n (pc := 3) S dL_move_3 rfl ?_
  refine zr_iload_n (pc := 4) S dL_move_4 rfl ?_
  refine zr_iload_n (pc := 5) S dL_move_5 rfl ?_
  refine zr_iload_n (pc := 6) S dL_move_6 rfl ?_
  refine zr_invVH (pc := 7) S [zI _, zI _, zI _] (m_X11_move _) kL_move_63 dL_move_7 rfl (Nat.le_of_ble_eq_true rfl) rfl (Nat.le_of_ble_eq_true rfl) ⟨Nat.le_of_ble_eq_true rfl, Nat.le_of_ble_eq_true rfl⟩ rfl (mo_X11_move (fun v N h01 hv => ?_) (fun k N hk hv => ?_) hsp)
  · refine zr_if_eq (pc := 10) (tgt := 17) S dL_move_10 (by decide) (fun c10 => ?_) (fun c10 => ?_)
    · subst c10
      refine zr_lconst0 (pc := 17) S dL_move_17 ?_
      refine zr_lastore (pc := 18) S dL_move_18 rfl (Nat.le_of_ble_eq_true rfl) (by omega) (by omega) ?_
      refine zr_goto (pc := 19) (tgt := 30) S dL_move_19 (by decide) ?_
      refine zr_iconst (pc := 30) S dL_move_30 (by unfold zrI; omega) ?_
      exact zr_iret (pc := 31) S dL_move_31 rfl ⟨Nat.le_of_ble_eq_true rfl, Nat.le_of_ble_eq_true rfl⟩ (hv)
    · obtain rfl : v = 1 := by omega
      refine zr_lconst1 (pc := 13) S dL_move_13 ?_
      refine zr_goto (pc := 14) (tgt := 18) S dL_move_14 (by decide) ?_
      refine zr_lastore (pc := 18) S dL_move_18 rfl (Nat.le_of_ble_eq_true rfl) (by omega) (by omega) ?_
      refine zr_goto (pc := 19) (tgt := 30) S dL_move_19 (by decide) ?_
      refine zr_iconst (pc := 30) S dL_move_30 (by unfold zrI; omega) ?_
      exact zr_iret (pc := 31) S dL_move_31 rfl ⟨Nat.le_of_ble_eq_true rfl, Nat.le_of_ble_eq_true rfl⟩ (hv)
  · obtain ⟨c, hc, hq⟩ := hv
    rcases cdB_i hc with ⟨rfl, rfl⟩ | ⟨rfl, rfl⟩
    · exact ⟨fun h => absurd h (by decide), fun _ => ⟨_, hL_move_1, hq, (Nat.le_of_ble_eq_true rfl), (Nat.le_of_ble_eq_true rfl)⟩⟩
    · exact ⟨fun h => absurd h (by decide), fun _ => ⟨_, hL_move_2, hq, (Nat.le_of_ble_eq_true rfl), (Nat.le_of_ble_eq_true rfl)⟩⟩
def rmL_offer : Room := { frames := 8, cells := 1, slots := 6, locals := 131 }
abbrev wzL_offer : List Cond := .codeWith yL_offer cL_offer 4 (some .int) [(0, 9, 12, 13)] :: zW
theorem kL_offer_67 : ∀ (s9 : State) (a9 : Array Value), (∀ w ∈ wzL_offer, w.before a9 s9 = true) → CallW rmL_offer s9 a9 RL RX11 67 yX11_offer cX11_offer 2 (some .int) wzX11_offer rmX11_offer 1 6 1 := zcV (zWi_20 _ (List.mem_of_getElem? (i := 17) rfl)) (zWi_13 _ (List.mem_of_getElem? (i := 19) rfl)) (zWi_26 _ (List.mem_of_getElem? (i := 11) rfl)) (zWi_12 _ (List.mem_of_getElem? (i := 12) rfl)) (zWi_1 _ (List.mem_of_getElem? (i := 46) rfl)) (by decide +kernel) rfl rfl ⟨Nat.le_of_ble_eq_true rfl, Nat.le_of_ble_eq_true rfl⟩
theorem hL_offer_1 : zHd cL_offer wzL_offer RL 4 4 1 1 := ⟨[], [], ⟨0, 9, 12, 13⟩, rfl, (fun z hz => absurd hz List.not_mem_nil), by decide, by decide, List.mem_cons_of_mem _ (zWi_0 _ (List.mem_of_getElem? (i := 4) rfl)), by decide +kernel, ⟨by decide, by decide⟩, Or.inr ⟨3, by decide, dL_offer_12, dL_offer_13, dL_offer_14⟩⟩
def sp_L_offer (as : List zV) (M : zM) (Q : Option zV → zM → Prop) : Prop := ∃ (p0 : Int), as = [zR 0, zI p0, zR 201] ∧ sp_X11_offer [zR 0, zI p0] M (hp cdA (fun k N => Q (some (zI k)) N))
set_option maxRecDepth 20000 in
set_option maxHeartbeats 4000000 in
theorem m_L_offer (l : Launch) : zCx l yL_offer wzL_offer rmL_offer 1 sp_L_offer := by
  refine zMet.ofH RL (by decide +kernel) rfl rfl ?_
  intro E X as M Qp hX S hsp
  obtain ⟨p0, rfl, hsp⟩ := hsp
  refine ⟨Nat.le_of_ble_eq_true rfl, ?_⟩
  dsimp only [zpad, zargs]
  refine zr_aload_n (pc := 0) S dL_offer_0 rfl ?_
  refine zr_iconst (pc := 1) S dL_offer_1 (by unfold zrI; omega) ?_
  refine zr_aload_n (pc := 2) S dL_offer_2 rfl ?_
  refine zr_iload_n (pc := 3) S dL_offer_3 rfl ?_
  refine zr_invVH (pc := 4) S [zI _] (m_X11_offer _) kL_offer_67 dL_offer_4 rfl (Nat.le_of_ble_eq_true rfl) rfl (Nat.le_of_ble_eq_true rfl) ⟨Nat.le_of_ble_eq_true rfl, Nat.le_of_ble_eq_true rfl⟩ rfl (mo_X11_offer (fun v N hv => ?_) (fun k N hk hv => ?_) hsp)
  · refine zr_i2l (pc := 7) S dL_offer_7 ?_
    refine zr_lastore (pc := 8) S dL_offer_8 rfl (Nat.le_of_ble_eq_true rfl) (by omega) (by omega) ?_
    refine zr_goto (pc := 9) (tgt := 15) S dL_offer_9 (by decide) ?_
    refine zr_iconst (pc := 15) S dL_offer_15 (by unfold zrI; omega) ?_
    exact zr_iret (pc := 16) S dL_offer_16 rfl ⟨Nat.le_of_ble_eq_true rfl, Nat.le_of_ble_eq_true rfl⟩ (hv)
  · obtain ⟨c, hc, hq⟩ := hv
    rcases cdA_i hc with ⟨rfl, rfl⟩
    · exact ⟨fun h => absurd h (by decide), fun _ => ⟨_, hL_offer_1, hq, (Nat.le_of_ble_eq_true rfl), (Nat.le_of_ble_eq_true rfl)⟩⟩
def rmL_price : Room := { frames := 9, cells := 2, slots := 12, locals := 153 }
abbrev wzL_price : List Cond := .codeWith yL_price cL_price 5 (some .int) [(0, 10, 13, 19), (0, 10, 17, 13)] :: zW
theorem kL_price_70 : ∀ (s9 : State) (a9 : Array Value), (∀ w ∈ wzL_price, w.before a9 s9 = true) → CallW rmL_price s9 a9 RL RX11 70 yX11_price cX11_price 3 (some .int) wzX11_price rmX11_price 2 12 2 := zcV (zWi_20 _ (List.mem_of_getElem? (i := 19) rfl)) (zWi_13 _ (List.mem_of_getElem? (i := 22) rfl)) (zWi_26 _ (List.mem_of_getElem? (i := 14) rfl)) (zWi_12 _ (List.mem_of_getElem? (i := 12) rfl)) (zWi_1 _ (List.mem_of_getElem? (i := 49) rfl)) (by decide +kernel) rfl rfl ⟨Nat.le_of_ble_eq_true rfl, Nat.le_of_ble_eq_true rfl⟩
theorem hL_price_1 : zHd cL_price wzL_price RL 5 5 0 1 := ⟨[], [⟨0, 10, 17, 13⟩], ⟨0, 10, 13, 19⟩, rfl, (fun z hz => absurd hz List.not_mem_nil), by decide, by decide, List.mem_cons_of_mem _ (zWi_0 _ (List.mem_of_getElem? (i := 8) rfl)), by decide +kernel, ⟨by decide, by decide⟩, Or.inl ⟨4, by decide, dL_price_13, dL_price_15, dL_price_16⟩⟩
theorem hL_price_2 : zHd cL_price wzL_price RL 5 5 1 2 := ⟨[⟨0, 10, 13, 19⟩], [], ⟨0, 10, 17, 13⟩, rfl, (List.forall_mem_cons.mpr ⟨⟨by decide, _, List.mem_cons_of_mem _ (zWi_0 _ (List.mem_of_getElem? (i := 8) rfl)), by decide +kernel⟩, (fun z hz => absurd hz List.not_mem_nil)⟩), by decide, by decide, List.mem_cons_of_mem _ (zWi_0 _ (List.mem_of_getElem? (i := 4) rfl)), by decide +kernel, ⟨by decide, by decide⟩, Or.inl ⟨4, by decide, dL_price_17, dL_price_19, dL_price_20⟩⟩
def sp_L_price (as : List zV) (M : zM) (Q : Option zV → zM → Prop) : Prop := ∃ (p0 p1 : Int), as = [zR 0, zI p0, zI p1, zR 201] ∧ sp_X11_price [zR 0, zI p0, zI p1] M (hp cdB (fun k N => Q (some (zI k)) N))
set_option maxRecDepth 20000 in
set_option maxHeartbeats 4000000 in
theorem m_L_price (l : Launch) : zCx l yL_price wzL_price rmL_price 2 sp_L_price := by
  refine zMet.ofH RL (by decide +kernel) rfl rfl ?_
  intro E X as M Qp hX S hsp
  obtain ⟨p0, p1, rfl, hsp⟩ := hsp
  refine ⟨Nat.le_of_ble_eq_true rfl, ?_⟩
  dsimp only [zpad, zargs]
  refine zr_aload_n (pc := 0) S dL_price_0 rfl ?_
  refine zr_iconst (pc := 1) S dL_price_1 (by unfold zrI; omega) ?_
  refine zr_aload_n (pc := 2) S dL_price_2 rfl ?_
  refine zr_iload_n (pc := 3) S dL_price_3 rfl ?_
  refine zr_iload_n (pc := 4) S dL_price_4 rfl ?_
  refine zr_invVH (pc := 5) S [zI _, zI _] (m_X11_price _) kL_price_70 dL_price_5 rfl (Nat.le_of_ble_eq_true rfl) rfl (Nat.le_of_ble_eq_true rfl) ⟨Nat.le_of_ble_eq_true rfl, Nat.le_of_ble_eq_true rfl⟩ rfl (mo_X11_price (fun v N hv => ?_) (fun k N hk hv => ?_) hsp)
  · refine zr_i2l (pc := 8) S dL_price_8 ?_
    refine zr_lastore (pc := 9) S dL_price_9 rfl (Nat.le_of_ble_eq_true rfl) (by omega) (by omega) ?_
    refine zr_goto (pc := 10) (tgt := 21) S dL_price_10 (by decide) ?_
    refine zr_iconst (pc := 21) S dL_price_21 (by unfold zrI; omega) ?_
    exact zr_iret (pc := 22) S dL_price_22 rfl ⟨Nat.le_of_ble_eq_true rfl, Nat.le_of_ble_eq_true rfl⟩ (hv)
  · obtain ⟨c, hc, hq⟩ := hv
    rcases cdB_i hc with ⟨rfl, rfl⟩ | ⟨rfl, rfl⟩
    · exact ⟨fun h => absurd h (by decide), fun _ => ⟨_, hL_price_1, hq, (Nat.le_of_ble_eq_true rfl), (Nat.le_of_ble_eq_true rfl)⟩⟩
    · exact ⟨fun h => absurd h (by decide), fun _ => ⟨_, hL_price_2, hq, (Nat.le_of_ble_eq_true rfl), (Nat.le_of_ble_eq_true rfl)⟩⟩
def rmL_load : Room := { frames := 9, cells := 3, slots := 18, locals := 155 }
abbrev wzL_load : List Cond := .codeWith yL_load cL_load 6 (some .int) [(0, 12, 15, 19), (0, 12, 19, 13)] :: zW
theorem kL_load_73 : ∀ (s9 : State) (a9 : Array Value), (∀ w ∈ wzL_load, w.before a9 s9 = true) → CallW rmL_load s9 a9 RL RX11 73 yX11_load cX11_load 5 (some .int) wzX11_load rmX11_load 3 18 3 := zcV (zWi_20 _ (List.mem_of_getElem? (i := 20) rfl)) (zWi_13 _ (List.mem_of_getElem? (i := 9) rfl)) (zWi_26 _ (List.mem_of_getElem? (i := 1) rfl)) (zWi_12 _ (List.mem_of_getElem? (i := 12) rfl)) (zWi_1 _ (List.mem_of_getElem? (i := 34) rfl)) (by decide +kernel) rfl rfl ⟨Nat.le_of_ble_eq_true rfl, Nat.le_of_ble_eq_true rfl⟩
theorem hL_load_1 : zHd cL_load wzL_load RL 6 7 0 1 := ⟨[], [⟨0, 12, 19, 13⟩], ⟨0, 12, 15, 19⟩, rfl, (fun z hz => absurd hz List.not_mem_nil), by decide, by decide, List.mem_cons_of_mem _ (zWi_0 _ (List.mem_of_getElem? (i := 8) rfl)), by decide +kernel, ⟨by decide, by decide⟩, Or.inl ⟨5, by decide, dL_load_15, dL_load_17, dL_load_18⟩⟩
theorem hL_load_2 : zHd cL_load wzL_load RL 6 7 1 2 := ⟨[⟨0, 12, 15, 19⟩], [], ⟨0, 12, 19, 13⟩, rfl, (List.forall_mem_cons.mpr ⟨⟨by decide, _, List.mem_cons_of_mem _ (zWi_0 _ (List.mem_of_getElem? (i := 8) rfl)), by decide +kernel⟩, (fun z hz => absurd hz List.not_mem_nil)⟩), by decide, by decide, List.mem_cons_of_mem _ (zWi_0 _ (List.mem_of_getElem? (i := 4) rfl)), by decide +kernel, ⟨by decide, by decide⟩, Or.inl ⟨5, by decide, dL_load_19, dL_load_21, dL_load_22⟩⟩
def sp_L_load (as : List zV) (M : zM) (Q : Option zV → zM → Prop) : Prop := ∃ (p0 p1 p2 : Int), as = [zR 0, zI p0, zI p1, zI p2, zR 201] ∧ sp_X11_load [zR 0, zI p0, zI p1, zI p2] M (hp cdB (fun k N => Q (some (zI k)) N))
set_option maxRecDepth 20000 in
set_option maxHeartbeats 4000000 in
theorem m_L_load (l : Launch) : zCx l yL_load wzL_load rmL_load 3 sp_L_load := by
  refine zMet.ofH RL (by decide +kernel) rfl rfl ?_
  intro E X as M Qp hX S hsp
  obtain ⟨p0, p1, p2, rfl, hsp⟩ := hsp
  refine ⟨Nat.le_of_ble_eq_true rfl, ?_⟩
  dsimp only [zpad, zargs]
  refine zr_aload (pc := 0) S dL_load_0 rfl ?_
  refine zr_iconst (pc := 2) S dL_load_2 (by unfold zrI; omega) ?_
  refine zr_aload_n (pc := 3) S dL_load_3 rfl ?_
  refine zr_iload_n (pc := 4) S dL_load_4 rfl ?_
  refine zr_iload_n (pc := 5) S dL_load_5 rfl ?_
  refine zr_iload_n (pc := 6) S dL_load_6 rfl ?_
  refine zr_invVH (pc := 7) S [zI _, zI _, zI _] (m_X11_load _) kL_load_73 dL_load_7 rfl (Nat.le_of_ble_eq_true rfl) rfl (Nat.le_of_ble_eq_true rfl) ⟨Nat.le_of_ble_eq_true rfl, Nat.le_of_ble_eq_true rfl⟩ rfl (mo_X11_load (fun v N hv => ?_) (fun k N hk hv => ?_) hsp)
  · refine zr_i2l (pc := 10) S dL_load_10 ?_
    refine zr_lastore (pc := 11) S dL_load_11 rfl (Nat.le_of_ble_eq_true rfl) (by omega) (by omega) ?_
    refine zr_goto (pc := 12) (tgt := 23) S dL_load_12 (by decide) ?_
    refine zr_iconst (pc := 23) S dL_load_23 (by unfold zrI; omega) ?_
    exact zr_iret (pc := 24) S dL_load_24 rfl ⟨Nat.le_of_ble_eq_true rfl, Nat.le_of_ble_eq_true rfl⟩ (hv)
  · obtain ⟨c, hc, hq⟩ := hv
    rcases cdB_i hc with ⟨rfl, rfl⟩ | ⟨rfl, rfl⟩
    · exact ⟨fun h => absurd h (by decide), fun _ => ⟨_, hL_load_1, hq, (Nat.le_of_ble_eq_true rfl), (Nat.le_of_ble_eq_true rfl)⟩⟩
    · exact ⟨fun h => absurd h (by decide), fun _ => ⟨_, hL_load_2, hq, (Nat.le_of_ble_eq_true rfl), (Nat.le_of_ble_eq_true rfl)⟩⟩
def rmL_put : Room := { frames := 9, cells := 3, slots := 18, locals := 158 }
abbrev wzL_put : List Cond := .codeWith yL_put cL_put 8 (some .int) [(0, 16, 19, 19), (0, 16, 23, 13)] :: zW
theorem kL_put_76 : ∀ (s9 : State) (a9 : Array Value), (∀ w ∈ wzL_put, w.before a9 s9 = true) → CallW rmL_put s9 a9 RL RX11 76 yX11_put cX11_put 8 (some .int) wzX11_put rmX11_put 3 18 5 := zcV (zWi_20 _ (List.mem_of_getElem? (i := 21) rfl)) (zWi_13 _ (List.mem_of_getElem? (i := 23) rfl)) (zWi_26 _ (List.mem_of_getElem? (i := 15) rfl)) (zWi_12 _ (List.mem_of_getElem? (i := 12) rfl)) (zWi_2 _ (List.mem_of_getElem? (i := 0) rfl)) (by decide +kernel) rfl rfl ⟨Nat.le_of_ble_eq_true rfl, Nat.le_of_ble_eq_true rfl⟩
theorem hL_put_1 : zHd cL_put wzL_put RL 8 11 0 1 := ⟨[], [⟨0, 16, 23, 13⟩], ⟨0, 16, 19, 19⟩, rfl, (fun z hz => absurd hz List.not_mem_nil), by decide, by decide, List.mem_cons_of_mem _ (zWi_0 _ (List.mem_of_getElem? (i := 8) rfl)), by decide +kernel, ⟨by decide, by decide⟩, Or.inl ⟨7, by decide, dL_put_19, dL_put_21, dL_put_22⟩⟩
theorem hL_put_2 : zHd cL_put wzL_put RL 8 11 1 2 := ⟨[⟨0, 16, 19, 19⟩], [], ⟨0, 16, 23, 13⟩, rfl, (List.forall_mem_cons.mpr ⟨⟨by decide, _, List.mem_cons_of_mem _ (zWi_0 _ (List.mem_of_getElem? (i := 8) rfl)), by decide +kernel⟩, (fun z hz => absurd hz List.not_mem_nil)⟩), by decide, by decide, List.mem_cons_of_mem _ (zWi_0 _ (List.mem_of_getElem? (i := 4) rfl)), by decide +kernel, ⟨by decide, by decide⟩, Or.inl ⟨7, by decide, dL_put_23, dL_put_25, dL_put_26⟩⟩
def sp_L_put (as : List zV) (M : zM) (Q : Option zV → zM → Prop) : Prop := ∃ (p0 p1 p2 p3 p4 : Int), as = [zR 0, zI p0, zI p1, zI p2, zI p3, zI p4, zR 201] ∧ sp_X11_put [zR 0, zI p0, zI p1, zI p2, zI p3, zI p4] M (hp cdB (fun k N => Q (some (zI k)) N))
set_option maxRecDepth 20000 in
set_option maxHeartbeats 4000000 in
theorem m_L_put (l : Launch) : zCx l yL_put wzL_put rmL_put 3 sp_L_put := by
  refine zMet.ofH RL (by decide +kernel) rfl rfl ?_
  intro E X as M Qp hX S hsp
  obtain ⟨p0, p1, p2, p3, p4, rfl, hsp⟩ := hsp
  refine ⟨Nat.le_of_ble_eq_true rfl, ?_⟩
  dsimp only [zpad, zargs]
  refine zr_aload (pc := 0) S dL_put_0 rfl ?_
  refine zr_iconst (pc := 2) S dL_put_2 (by unfold zrI; omega) ?_
  refine zr_aload_n (pc := 3) S dL_put_3 rfl ?_
  refine zr_iload_n (pc := 4) S dL_put_4 rfl ?_
  refine zr_iload_n (pc := 5) S dL_put_5 rfl ?_
  refine zr_iload_n (pc := 6) S dL_put_6 rfl ?_
  refine zr_iload (pc := 7) S dL_put_7 rfl ?_
  refine zr_iload (pc := 9) S dL_put_9 rfl ?_
  refine zr_invVH (pc := 11) S [zI _, zI _, zI _, zI _, zI _] (m_X11_put _) kL_put_76 dL_put_11 rfl (Nat.le_of_ble_eq_true rfl) rfl (Nat.le_of_ble_eq_true rfl) ⟨Nat.le_of_ble_eq_true rfl, Nat.le_of_ble_eq_true rfl⟩ rfl (mo_X11_put (fun v N hv => ?_) (fun k N hk hv => ?_) hsp)
  · refine zr_i2l (pc := 14) S dL_put_14 ?_
    refine zr_lastore (pc := 15) S dL_put_15 rfl (Nat.le_of_ble_eq_true rfl) (by omega) (by omega) ?_
    refine zr_goto (pc := 16) (tgt := 27) S dL_put_16 (by decide) ?_
    refine zr_iconst (pc := 27) S dL_put_27 (by unfold zrI; omega) ?_
    exact zr_iret (pc := 28) S dL_put_28 rfl ⟨Nat.le_of_ble_eq_true rfl, Nat.le_of_ble_eq_true rfl⟩ (hv)
  · obtain ⟨c, hc, hq⟩ := hv
    rcases cdB_i hc with ⟨rfl, rfl⟩ | ⟨rfl, rfl⟩
    · exact ⟨fun h => absurd h (by decide), fun _ => ⟨_, hL_put_1, hq, (Nat.le_of_ble_eq_true rfl), (Nat.le_of_ble_eq_true rfl)⟩⟩
    · exact ⟨fun h => absurd h (by decide), fun _ => ⟨_, hL_put_2, hq, (Nat.le_of_ble_eq_true rfl), (Nat.le_of_ble_eq_true rfl)⟩⟩
def rmL_sale : Room := { frames := 9, cells := 1, slots := 6, locals := 154 }
abbrev wzL_sale : List Cond := .codeWith yL_sale cL_sale 4 (some .int) [(0, 9, 12, 19)] :: zW
theorem kL_sale_80 : ∀ (s9 : State) (a9 : Array Value), (∀ w ∈ wzL_sale, w.before a9 s9 = true) → CallW rmL_sale s9 a9 RL RX11 80 yX11_sale cX11_sale 4 (some .int) wzX11_sale rmX11_sale 1 6 1 := zcV (zWi_20 _ (List.mem_of_getElem? (i := 22) rfl)) (zWi_13 _ (List.mem_of_getElem? (i := 27) rfl)) (zWi_26 _ (List.mem_of_getElem? (i := 19) rfl)) (zWi_12 _ (List.mem_of_getElem? (i := 12) rfl)) (zWi_2 _ (List.mem_of_getElem? (i := 4) rfl)) (by decide +kernel) rfl rfl ⟨Nat.le_of_ble_eq_true rfl, Nat.le_of_ble_eq_true rfl⟩
theorem hL_sale_1 : zHd cL_sale wzL_sale RL 4 4 0 1 := ⟨[], [], ⟨0, 9, 12, 19⟩, rfl, (fun z hz => absurd hz List.not_mem_nil), by decide, by decide, List.mem_cons_of_mem _ (zWi_0 _ (List.mem_of_getElem? (i := 8) rfl)), by decide +kernel, ⟨by decide, by decide⟩, Or.inr ⟨3, by decide, dL_sale_12, dL_sale_13, dL_sale_14⟩⟩
def sp_L_sale (as : List zV) (M : zM) (Q : Option zV → zM → Prop) : Prop := ∃ (p0 : Int), as = [zR 0, zI p0, zR 201] ∧ sp_X11_sale [zR 0, zI p0] M (hp cdN (fun k N => Q (some (zI k)) N))
set_option maxRecDepth 20000 in
set_option maxHeartbeats 4000000 in
theorem m_L_sale (l : Launch) : zCx l yL_sale wzL_sale rmL_sale 1 sp_L_sale := by
  refine zMet.ofH RL (by decide +kernel) rfl rfl ?_
  intro E X as M Qp hX S hsp
  obtain ⟨p0, rfl, hsp⟩ := hsp
  refine ⟨Nat.le_of_ble_eq_true rfl, ?_⟩
  dsimp only [zpad, zargs]
  refine zr_aload_n (pc := 0) S dL_sale_0 rfl ?_
  refine zr_iconst (pc := 1) S dL_sale_1 (by unfold zrI; omega) ?_
  refine zr_aload_n (pc := 2) S dL_sale_2 rfl ?_
  refine zr_iload_n (pc := 3) S dL_sale_3 rfl ?_
  refine zr_invVH (pc := 4) S [zI _] (m_X11_sale _) kL_sale_80 dL_sale_4 rfl (Nat.le_of_ble_eq_true rfl) rfl (Nat.le_of_ble_eq_true rfl) ⟨Nat.le_of_ble_eq_true rfl, Nat.le_of_ble_eq_true rfl⟩ rfl (mo_X11_sale (fun v N hv => ?_) (fun k N hk hv => ?_) hsp)
  · refine zr_i2l (pc := 7) S dL_sale_7 ?_
    refine zr_lastore (pc := 8) S dL_sale_8 rfl (Nat.le_of_ble_eq_true rfl) (by omega) (by omega) ?_
    refine zr_goto (pc := 9) (tgt := 15) S dL_sale_9 (by decide) ?_
    refine zr_iconst (pc := 15) S dL_sale_15 (by unfold zrI; omega) ?_
    exact zr_iret (pc := 16) S dL_sale_16 rfl ⟨Nat.le_of_ble_eq_true rfl, Nat.le_of_ble_eq_true rfl⟩ (hv)
  · obtain ⟨c, hc, hq⟩ := hv
    rcases cdN_i hc with ⟨rfl, rfl⟩
    · exact ⟨fun h => absurd h (by decide), fun _ => ⟨_, hL_sale_1, hq, (Nat.le_of_ble_eq_true rfl), (Nat.le_of_ble_eq_true rfl)⟩⟩
def rmL_tube : Room := { frames := 9, cells := 2, slots := 12, locals := 153 }
abbrev wzL_tube : List Cond := .codeWith yL_tube cL_tube 5 (some .int) [(0, 10, 13, 19), (0, 10, 17, 13)] :: zW
theorem kL_tube_83 : ∀ (s9 : State) (a9 : Array Value), (∀ w ∈ wzL_tube, w.before a9 s9 = true) → CallW rmL_tube s9 a9 RL RX11 83 yX11_tube cX11_tube 3 (some .int) wzX11_tube rmX11_tube 2 12 2 := zcV (zWi_20 _ (List.mem_of_getElem? (i := 23) rfl)) (zWi_13 _ (List.mem_of_getElem? (i := 36) rfl)) (zWi_26 _ (List.mem_of_getElem? (i := 28) rfl)) (zWi_12 _ (List.mem_of_getElem? (i := 12) rfl)) (zWi_2 _ (List.mem_of_getElem? (i := 14) rfl)) (by decide +kernel) rfl rfl ⟨Nat.le_of_ble_eq_true rfl, Nat.le_of_ble_eq_true rfl⟩
theorem hL_tube_1 : zHd cL_tube wzL_tube RL 5 5 0 1 := ⟨[], [⟨0, 10, 17, 13⟩], ⟨0, 10, 13, 19⟩, rfl, (fun z hz => absurd hz List.not_mem_nil), by decide, by decide, List.mem_cons_of_mem _ (zWi_0 _ (List.mem_of_getElem? (i := 8) rfl)), by decide +kernel, ⟨by decide, by decide⟩, Or.inl ⟨4, by decide, dL_tube_13, dL_tube_15, dL_tube_16⟩⟩
theorem hL_tube_2 : zHd cL_tube wzL_tube RL 5 5 1 2 := ⟨[⟨0, 10, 13, 19⟩], [], ⟨0, 10, 17, 13⟩, rfl, (List.forall_mem_cons.mpr ⟨⟨by decide, _, List.mem_cons_of_mem _ (zWi_0 _ (List.mem_of_getElem? (i := 8) rfl)), by decide +kernel⟩, (fun z hz => absurd hz List.not_mem_nil)⟩), by decide, by decide, List.mem_cons_of_mem _ (zWi_0 _ (List.mem_of_getElem? (i := 4) rfl)), by decide +kernel, ⟨by decide, by decide⟩, Or.inl ⟨4, by decide, dL_tube_17, dL_tube_19, dL_tube_20⟩⟩
def sp_L_tube (as : List zV) (M : zM) (Q : Option zV → zM → Prop) : Prop := ∃ (p0 p1 : Int), as = [zR 0, zI p0, zI p1, zR 201] ∧ sp_X11_tube [zR 0, zI p0, zI p1] M (hp cdB (fun k N => Q (some (zI k)) N))
set_option maxRecDepth 20000 in
set_option maxHeartbeats 4000000 in
theorem m_L_tube (l : Launch) : zCx l yL_tube wzL_tube rmL_tube 2 sp_L_tube := by
  refine zMet.ofH RL (by decide +kernel) rfl rfl ?_
  intro E X as M Qp hX S hsp
  obtain ⟨p0, p1, rfl, hsp⟩ := hsp
  refine ⟨Nat.le_of_ble_eq_true rfl, ?_⟩
  dsimp only [zpad, zargs]
  refine zr_aload_n (pc := 0) S dL_tube_0 rfl ?_
  refine zr_iconst (pc := 1) S dL_tube_1 (by unfold zrI; omega) ?_
  refine zr_aload_n (pc := 2) S dL_tube_2 rfl ?_
  refine zr_iload_n (pc := 3) S dL_tube_3 rfl ?_
  refine zr_iload_n (pc := 4) S dL_tube_4 rfl ?_
  refine zr_invVH (pc := 5) S [zI _, zI _] (m_X11_tube _) kL_tube_83 dL_tube_5 rfl (Nat.le_of_ble_eq_true rfl) rfl (Nat.le_of_ble_eq_true rfl) ⟨Nat.le_of_ble_eq_true rfl, Nat.le_of_ble_eq_true rfl⟩ rfl (mo_X11_tube (fun v N hv => ?_) (fun k N hk hv => ?_) hsp)
  · refine zr_i2l (pc := 8) S dL_tube_8 ?_
    refine zr_lastore (pc := 9) S dL_tube_9 rfl (Nat.le_of_ble_eq_true rfl) (by omega) (by omega) ?_
    refine zr_goto (pc := 10) (tgt := 21) S dL_tube_10 (by decide) ?_
    refine zr_iconst (pc := 21) S dL_tube_21 (by unfold zrI; omega) ?_
    exact zr_iret (pc := 22) S dL_tube_22 rfl ⟨Nat.le_of_ble_eq_true rfl, Nat.le_of_ble_eq_true rfl⟩ (hv)
  · obtain ⟨c, hc, hq⟩ := hv
    rcases cdB_i hc with ⟨rfl, rfl⟩ | ⟨rfl, rfl⟩
    · exact ⟨fun h => absurd h (by decide), fun _ => ⟨_, hL_tube_1, hq, (Nat.le_of_ble_eq_true rfl), (Nat.le_of_ble_eq_true rfl)⟩⟩
    · exact ⟨fun h => absurd h (by decide), fun _ => ⟨_, hL_tube_2, hq, (Nat.le_of_ble_eq_true rfl), (Nat.le_of_ble_eq_true rfl)⟩⟩
def rmL_bag : Room := { frames := 9, cells := 1, slots := 6, locals := 152 }
abbrev wzL_bag : List Cond := .codeWith yL_bag cL_bag 4 (some .int) [(0, 9, 12, 19)] :: zW
theorem kL_bag_86 : ∀ (s9 : State) (a9 : Array Value), (∀ w ∈ wzL_bag, w.before a9 s9 = true) → CallW rmL_bag s9 a9 RL RX11 86 yX11_bag cX11_bag 2 (some .int) wzX11_bag rmX11_bag 1 6 1 := zcV (zWi_20 _ (List.mem_of_getElem? (i := 24) rfl)) (zWi_12 _ (List.mem_of_getElem? (i := 41) rfl)) (zWi_25 _ (List.mem_of_getElem? (i := 34) rfl)) (zWi_12 _ (List.mem_of_getElem? (i := 12) rfl)) (zWi_1 _ (List.mem_of_getElem? (i := 15) rfl)) (by decide +kernel) rfl rfl ⟨Nat.le_of_ble_eq_true rfl, Nat.le_of_ble_eq_true rfl⟩
theorem hL_bag_1 : zHd cL_bag wzL_bag RL 4 4 0 1 := ⟨[], [], ⟨0, 9, 12, 19⟩, rfl, (fun z hz => absurd hz List.not_mem_nil), by decide, by decide, List.mem_cons_of_mem _ (zWi_0 _ (List.mem_of_getElem? (i := 8) rfl)), by decide +kernel, ⟨by decide, by decide⟩, Or.inr ⟨3, by decide, dL_bag_12, dL_bag_13, dL_bag_14⟩⟩
def sp_L_bag (as : List zV) (M : zM) (Q : Option zV → zM → Prop) : Prop := ∃ (p0 : Int), as = [zR 0, zI p0, zR 201] ∧ sp_X11_bag [zR 0, zI p0] M (hp cdN (fun k N => Q (some (zI k)) N))
set_option maxRecDepth 20000 in
set_option maxHeartbeats 4000000 in
theorem m_L_bag (l : Launch) : zCx l yL_bag wzL_bag rmL_bag 1 sp_L_bag := by
  refine zMet.ofH RL (by decide +kernel) rfl rfl ?_
  intro E X as M Qp hX S hsp
  obtain ⟨p0, rfl, hsp⟩ := hsp
  refine ⟨Nat.le_of_ble_eq_true rfl, ?_⟩
  dsimp only [zpad, zargs]
  refine zr_aload_n (pc := 0) S dL_bag_0 rfl ?_
  refine zr_iconst (pc := 1) S dL_bag_1 (by unfold zrI; omega) ?_
  refine zr_aload_n (pc := 2) S dL_bag_2 rfl ?_
  refine zr_iload_n (pc := 3) S dL_bag_3 rfl ?_
  refine zr_invVH (pc := 4) S [zI _] (m_X11_bag _) kL_bag_86 dL_bag_4 rfl (Nat.le_of_ble_eq_true rfl) rfl (Nat.le_of_ble_eq_true rfl) ⟨Nat.le_of_ble_eq_true rfl, Nat.le_of_ble_eq_true rfl⟩ rfl (mo_X11_bag (fun v N hv => ?_) (fun k N hk hv => ?_) hsp)
  · refine zr_i2l (pc := 7) S dL_bag_7 ?_
    refine zr_lastore (pc := 8) S dL_bag_8 rfl (Nat.le_of_ble_eq_true rfl) (by omega) (by omega) ?_
    refine zr_goto (pc := 9) (tgt := 15) S dL_bag_9 (by decide) ?_
    refine zr_iconst (pc := 15) S dL_bag_15 (by unfold zrI; omega) ?_
    exact zr_iret (pc := 16) S dL_bag_16 rfl ⟨Nat.le_of_ble_eq_true rfl, Nat.le_of_ble_eq_true rfl⟩ (hv)
  · obtain ⟨c, hc, hq⟩ := hv
    rcases cdN_i hc with ⟨rfl, rfl⟩
    · exact ⟨fun h => absurd h (by decide), fun _ => ⟨_, hL_bag_1, hq, (Nat.le_of_ble_eq_true rfl), (Nat.le_of_ble_eq_true rfl)⟩⟩
def rmL_empty : Room := { frames := 9, cells := 1, slots := 6, locals := 153 }
abbrev wzL_empty : List Cond := .codeWith yL_empty cL_empty 4 (some .int) [(0, 9, 12, 19)] :: zW
theorem kL_empty_89 : ∀ (s9 : State) (a9 : Array Value), (∀ w ∈ wzL_empty, w.before a9 s9 = true) → CallW rmL_empty s9 a9 RL RX11 89 yX11_empty cX11_empty 3 (some .int) wzX11_empty rmX11_empty 1 6 1 := zcV (zWi_20 _ (List.mem_of_getElem? (i := 25) rfl)) (zWi_12 _ (List.mem_of_getElem? (i := 48) rfl)) (zWi_25 _ (List.mem_of_getElem? (i := 41) rfl)) (zWi_12 _ (List.mem_of_getElem? (i := 12) rfl)) (zWi_1 _ (List.mem_of_getElem? (i := 23) rfl)) (by decide +kernel) rfl rfl ⟨Nat.le_of_ble_eq_true rfl, Nat.le_of_ble_eq_true rfl⟩
theorem hL_empty_1 : zHd cL_empty wzL_empty RL 4 4 0 1 := ⟨[], [], ⟨0, 9, 12, 19⟩, rfl, (fun z hz => absurd hz List.not_mem_nil), by decide, by decide, List.mem_cons_of_mem _ (zWi_0 _ (List.mem_of_getElem? (i := 8) rfl)), by decide +kernel, ⟨by decide, by decide⟩, Or.inr ⟨3, by decide, dL_empty_12, dL_empty_13, dL_empty_14⟩⟩
def sp_L_empty (as : List zV) (M : zM) (Q : Option zV → zM → Prop) : Prop := ∃ (p0 : Int), as = [zR 0, zI p0, zR 201] ∧ sp_X11_empty [zR 0, zI p0] M (hp cdN (fun k N => Q (some (zI k)) N))
set_option maxRecDepth 20000 in
set_option maxHeartbeats 4000000 in
theorem m_L_empty (l : Launch) : zCx l yL_empty wzL_empty rmL_empty 1 sp_L_empty := by
  refine zMet.ofH RL (by decide +kernel) rfl rfl ?_
  intro E X as M Qp hX S hsp
  obtain ⟨p0, rfl, hsp⟩ := hsp
  refine ⟨Nat.le_of_ble_eq_true rfl, ?_⟩
  dsimp only [zpad, zargs]
  refine zr_aload_n (pc := 0) S dL_empty_0 rfl ?_
  refine zr_iconst (pc := 1) S dL_empty_1 (by unfold zrI; omega) ?_
  refine zr_aload_n (pc := 2) S dL_empty_2 rfl ?_
  refine zr_iload_n (pc := 3) S dL_empty_3 rfl ?_
  refine zr_invVH (pc := 4) S [zI _] (m_X11_empty _) kL_empty_89 dL_empty_4 rfl (Nat.le_of_ble_eq_true rfl) rfl (Nat.le_of_ble_eq_true rfl) ⟨Nat.le_of_ble_eq_true rfl, Nat.le_of_ble_eq_true rfl⟩ rfl (mo_X11_empty (fun v N hv => ?_) (fun k N hk hv => ?_) hsp)
  · refine zr_i2l (pc := 7) S dL_empty_7 ?_
    refine zr_lastore (pc := 8) S dL_empty_8 rfl (Nat.le_of_ble_eq_true rfl) (by omega) (by omega) ?_
    refine zr_goto (pc := 9) (tgt := 15) S dL_empty_9 (by decide) ?_
    refine zr_iconst (pc := 15) S dL_empty_15 (by unfold zrI; omega) ?_
    exact zr_iret (pc := 16) S dL_empty_16 rfl ⟨Nat.le_of_ble_eq_true rfl, Nat.le_of_ble_eq_true rfl⟩ (hv)
  · obtain ⟨c, hc, hq⟩ := hv
    rcases cdN_i hc with ⟨rfl, rfl⟩
    · exact ⟨fun h => absurd h (by decide), fun _ => ⟨_, hL_empty_1, hq, (Nat.le_of_ble_eq_true rfl), (Nat.le_of_ble_eq_true rfl)⟩⟩
def rmL_lacks : Room := { frames := 9, cells := 2, slots := 12, locals := 154 }
abbrev wzL_lacks : List Cond := .codeWith yL_lacks cL_lacks 5 (some .int) [(0, 10, 13, 19), (0, 10, 17, 13)] :: zW
theorem kL_lacks_92 : ∀ (s9 : State) (a9 : Array Value), (∀ w ∈ wzL_lacks, w.before a9 s9 = true) → CallW rmL_lacks s9 a9 RL RX11 92 yX11_lacks cX11_lacks 4 (some .int) wzX11_lacks rmX11_lacks 2 12 2 := zcV (zWi_20 _ (List.mem_of_getElem? (i := 26) rfl)) (zWi_13 _ (List.mem_of_getElem? (i := 8) rfl)) (zWi_26 _ (List.mem_of_getElem? (i := 0) rfl)) (zWi_12 _ (List.mem_of_getElem? (i := 12) rfl)) (zWi_1 _ (List.mem_of_getElem? (i := 33) rfl)) (by decide +kernel) rfl rfl ⟨Nat.le_of_ble_eq_true rfl, Nat.le_of_ble_eq_true rfl⟩
theorem hL_lacks_1 : zHd cL_lacks wzL_lacks RL 5 5 0 1 := ⟨[], [⟨0, 10, 17, 13⟩], ⟨0, 10, 13, 19⟩, rfl, (fun z hz => absurd hz List.not_mem_nil), by decide, by decide, List.mem_cons_of_mem _ (zWi_0 _ (List.mem_of_getElem? (i := 8) rfl)), by decide +kernel, ⟨by decide, by decide⟩, Or.inl ⟨4, by decide, dL_lacks_13, dL_lacks_15, dL_lacks_16⟩⟩
theorem hL_lacks_2 : zHd cL_lacks wzL_lacks RL 5 5 1 2 := ⟨[⟨0, 10, 13, 19⟩], [], ⟨0, 10, 17, 13⟩, rfl, (List.forall_mem_cons.mpr ⟨⟨by decide, _, List.mem_cons_of_mem _ (zWi_0 _ (List.mem_of_getElem? (i := 8) rfl)), by decide +kernel⟩, (fun z hz => absurd hz List.not_mem_nil)⟩), by decide, by decide, List.mem_cons_of_mem _ (zWi_0 _ (List.mem_of_getElem? (i := 4) rfl)), by decide +kernel, ⟨by decide, by decide⟩, Or.inl ⟨4, by decide, dL_lacks_17, dL_lacks_19, dL_lacks_20⟩⟩
def sp_L_lacks (as : List zV) (M : zM) (Q : Option zV → zM → Prop) : Prop := ∃ (p0 p1 : Int), as = [zR 0, zI p0, zI p1, zR 201] ∧ sp_X11_lacks [zR 0, zI p0, zI p1] M (hp cdB (fun k N => Q (some (zI k)) N))
set_option maxRecDepth 20000 in
set_option maxHeartbeats 4000000 in
theorem m_L_lacks (l : Launch) : zCx l yL_lacks wzL_lacks rmL_lacks 2 sp_L_lacks := by
  refine zMet.ofH RL (by decide +kernel) rfl rfl ?_
  intro E X as M Qp hX S hsp
  obtain ⟨p0, p1, rfl, hsp⟩ := hsp
  refine ⟨Nat.le_of_ble_eq_true rfl, ?_⟩
  dsimp only [zpad, zargs]
  refine zr_aload_n (pc := 0) S dL_lacks_0 rfl ?_
  refine zr_iconst (pc := 1) S dL_lacks_1 (by unfold zrI; omega) ?_
  refine zr_aload_n (pc := 2) S dL_lacks_2 rfl ?_
  refine zr_iload_n (pc := 3) S dL_lacks_3 rfl ?_
  refine zr_iload_n (pc := 4) S dL_lacks_4 rfl ?_
  refine zr_invVH (pc := 5) S [zI _, zI _] (m_X11_lacks _) kL_lacks_92 dL_lacks_5 rfl (Nat.le_of_ble_eq_true rfl) rfl (Nat.le_of_ble_eq_true rfl) ⟨Nat.le_of_ble_eq_true rfl, Nat.le_of_ble_eq_true rfl⟩ rfl (mo_X11_lacks (fun v N hv => ?_) (fun k N hk hv => ?_) hsp)
  · refine zr_i2l (pc := 8) S dL_lacks_8 ?_
    refine zr_lastore (pc := 9) S dL_lacks_9 rfl (Nat.le_of_ble_eq_true rfl) (by omega) (by omega) ?_
    refine zr_goto (pc := 10) (tgt := 21) S dL_lacks_10 (by decide) ?_
    refine zr_iconst (pc := 21) S dL_lacks_21 (by unfold zrI; omega) ?_
    exact zr_iret (pc := 22) S dL_lacks_22 rfl ⟨Nat.le_of_ble_eq_true rfl, Nat.le_of_ble_eq_true rfl⟩ (hv)
  · obtain ⟨c, hc, hq⟩ := hv
    rcases cdB_i hc with ⟨rfl, rfl⟩ | ⟨rfl, rfl⟩
    · exact ⟨fun h => absurd h (by decide), fun _ => ⟨_, hL_lacks_1, hq, (Nat.le_of_ble_eq_true rfl), (Nat.le_of_ble_eq_true rfl)⟩⟩
    · exact ⟨fun h => absurd h (by decide), fun _ => ⟨_, hL_lacks_2, hq, (Nat.le_of_ble_eq_true rfl), (Nat.le_of_ble_eq_true rfl)⟩⟩
def rmL_made : Room := { frames := 8, cells := 1, slots := 6, locals := 131 }
abbrev wzL_made : List Cond := .codeWith yL_made cL_made 4 (some .int) [(0, 9, 12, 13)] :: zW
theorem kL_made_95 : ∀ (s9 : State) (a9 : Array Value), (∀ w ∈ wzL_made, w.before a9 s9 = true) → CallW rmL_made s9 a9 RL RX11 95 yX11_made cX11_made 2 (some .int) wzX11_made rmX11_made 1 6 1 := zcV (zWi_20 _ (List.mem_of_getElem? (i := 27) rfl)) (zWi_13 _ (List.mem_of_getElem? (i := 12) rfl)) (zWi_26 _ (List.mem_of_getElem? (i := 4) rfl)) (zWi_12 _ (List.mem_of_getElem? (i := 12) rfl)) (zWi_1 _ (List.mem_of_getElem? (i := 37) rfl)) (by decide +kernel) rfl rfl ⟨Nat.le_of_ble_eq_true rfl, Nat.le_of_ble_eq_true rfl⟩
theorem hL_made_1 : zHd cL_made wzL_made RL 4 4 1 1 := ⟨[], [], ⟨0, 9, 12, 13⟩, rfl, (fun z hz => absurd hz List.not_mem_nil), by decide, by decide, List.mem_cons_of_mem _ (zWi_0 _ (List.mem_of_getElem? (i := 4) rfl)), by decide +kernel, ⟨by decide, by decide⟩, Or.inr ⟨3, by decide, dL_made_12, dL_made_13, dL_made_14⟩⟩
def sp_L_made (as : List zV) (M : zM) (Q : Option zV → zM → Prop) : Prop := ∃ (p0 : Int), as = [zR 0, zI p0, zR 201] ∧ sp_X11_made [zR 0, zI p0] M (hp cdA (fun k N => Q (some (zI k)) N))
set_option maxRecDepth 20000 in
set_option maxHeartbeats 4000000 in
theorem m_L_made (l : Launch) : zCx l yL_made wzL_made rmL_made 1 sp_L_made := by
  refine zMet.ofH RL (by decide +kernel) rfl rfl ?_
  intro E X as M Qp hX S hsp
  obtain ⟨p0, rfl, hsp⟩ := hsp
  refine ⟨Nat.le_of_ble_eq_true rfl, ?_⟩
  dsimp only [zpad, zargs]
  refine zr_aload_n (pc := 0) S dL_made_0 rfl ?_
  refine zr_iconst (pc := 1) S dL_made_1 (by unfold zrI; omega) ?_
  refine zr_aload_n (pc := 2) S dL_made_2 rfl ?_
  refine zr_iload_n (pc := 3) S dL_made_3 rfl ?_
  refine zr_invVH (pc := 4) S [zI _] (m_X11_made _) kL_made_95 dL_made_4 rfl (Nat.le_of_ble_eq_true rfl) rfl (Nat.le_of_ble_eq_true rfl) ⟨Nat.le_of_ble_eq_true rfl, Nat.le_of_ble_eq_true rfl⟩ rfl (mo_X11_made (fun v N hv => ?_) (fun k N hk hv => ?_) hsp)
  · refine zr_i2l (pc := 7) S dL_made_7 ?_
    refine zr_lastore (pc := 8) S dL_made_8 rfl (Nat.le_of_ble_eq_true rfl) (by omega) (by omega) ?_
    refine zr_goto (pc := 9) (tgt := 15) S dL_made_9 (by decide) ?_
    refine zr_iconst (pc := 15) S dL_made_15 (by unfold zrI; omega) ?_
    exact zr_iret (pc := 16) S dL_made_16 rfl ⟨Nat.le_of_ble_eq_true rfl, Nat.le_of_ble_eq_true rfl⟩ (hv)
  · obtain ⟨c, hc, hq⟩ := hv
    rcases cdA_i hc with ⟨rfl, rfl⟩
    · exact ⟨fun h => absurd h (by decide), fun _ => ⟨_, hL_made_1, hq, (Nat.le_of_ble_eq_true rfl), (Nat.le_of_ble_eq_true rfl)⟩⟩
def rmL_wheel : Room := { frames := 9, cells := 2, slots := 12, locals := 153 }
abbrev wzL_wheel : List Cond := .codeWith yL_wheel cL_wheel 5 (some .int) [(0, 10, 13, 19), (0, 10, 17, 13)] :: zW
theorem kL_wheel_98 : ∀ (s9 : State) (a9 : Array Value), (∀ w ∈ wzL_wheel, w.before a9 s9 = true) → CallW rmL_wheel s9 a9 RL RX11 98 yX11_wheel cX11_wheel 3 (some .int) wzX11_wheel rmX11_wheel 2 12 2 := zcV (zWi_20 _ (List.mem_of_getElem? (i := 28) rfl)) (zWi_13 _ (List.mem_of_getElem? (i := 38) rfl)) (zWi_26 _ (List.mem_of_getElem? (i := 30) rfl)) (zWi_12 _ (List.mem_of_getElem? (i := 12) rfl)) (zWi_2 _ (List.mem_of_getElem? (i := 16) rfl)) (by decide +kernel) rfl rfl ⟨Nat.le_of_ble_eq_true rfl, Nat.le_of_ble_eq_true rfl⟩
theorem hL_wheel_1 : zHd cL_wheel wzL_wheel RL 5 5 0 1 := ⟨[], [⟨0, 10, 17, 13⟩], ⟨0, 10, 13, 19⟩, rfl, (fun z hz => absurd hz List.not_mem_nil), by decide, by decide, List.mem_cons_of_mem _ (zWi_0 _ (List.mem_of_getElem? (i := 8) rfl)), by decide +kernel, ⟨by decide, by decide⟩, Or.inl ⟨4, by decide, dL_wheel_13, dL_wheel_15, dL_wheel_16⟩⟩
theorem hL_wheel_2 : zHd cL_wheel wzL_wheel RL 5 5 1 2 := ⟨[⟨0, 10, 13, 19⟩], [], ⟨0, 10, 17, 13⟩, rfl, (List.forall_mem_cons.mpr ⟨⟨by decide, _, List.mem_cons_of_mem _ (zWi_0 _ (List.mem_of_getElem? (i := 8) rfl)), by decide +kernel⟩, (fun z hz => absurd hz List.not_mem_nil)⟩), by decide, by decide, List.mem_cons_of_mem _ (zWi_0 _ (List.mem_of_getElem? (i := 4) rfl)), by decide +kernel, ⟨by decide, by decide⟩, Or.inl ⟨4, by decide, dL_wheel_17, dL_wheel_19, dL_wheel_20⟩⟩
def sp_L_wheel (as : List zV) (M : zM) (Q : Option zV → zM → Prop) : Prop := ∃ (p0 p1 : Int), as = [zR 0, zI p0, zI p1, zR 201] ∧ sp_X11_wheel [zR 0, zI p0, zI p1] M (hp cdB (fun k N => Q (some (zI k)) N))
set_option maxRecDepth 20000 in
set_option maxHeartbeats 4000000 in
theorem m_L_wheel (l : Launch) : zCx l yL_wheel wzL_wheel rmL_wheel 2 sp_L_wheel := by
  refine zMet.ofH RL (by decide +kernel) rfl rfl ?_
  intro E X as M Qp hX S hsp
  obtain ⟨p0, p1, rfl, hsp⟩ := hsp
  refine ⟨Nat.le_of_ble_eq_true rfl, ?_⟩
  dsimp only [zpad, zargs]
  refine zr_aload_n (pc := 0) S dL_wheel_0 rfl ?_
  refine zr_iconst (pc := 1) S dL_wheel_1 (by unfold zrI; omega) ?_
  refine zr_aload_n (pc := 2) S dL_wheel_2 rfl ?_
  refine zr_iload_n (pc := 3) S dL_wheel_3 rfl ?_
  refine zr_iload_n (pc := 4) S dL_wheel_4 rfl ?_
  refine zr_invVH (pc := 5) S [zI _, zI _] (m_X11_wheel _) kL_wheel_98 dL_wheel_5 rfl (Nat.le_of_ble_eq_true rfl) rfl (Nat.le_of_ble_eq_true rfl) ⟨Nat.le_of_ble_eq_true rfl, Nat.le_of_ble_eq_true rfl⟩ rfl (mo_X11_wheel (fun v N hv => ?_) (fun k N hk hv => ?_) hsp)
  · refine zr_i2l (pc := 8) S dL_wheel_8 ?_
    refine zr_lastore (pc := 9) S dL_wheel_9 rfl (Nat.le_of_ble_eq_true rfl) (by omega) (by omega) ?_
    refine zr_goto (pc := 10) (tgt := 21) S dL_wheel_10 (by decide) ?_
    refine zr_iconst (pc := 21) S dL_wheel_21 (by unfold zrI; omega) ?_
    exact zr_iret (pc := 22) S dL_wheel_22 rfl ⟨Nat.le_of_ble_eq_true rfl, Nat.le_of_ble_eq_true rfl⟩ (hv)
  · obtain ⟨c, hc, hq⟩ := hv
    rcases cdB_i hc with ⟨rfl, rfl⟩ | ⟨rfl, rfl⟩
    · exact ⟨fun h => absurd h (by decide), fun _ => ⟨_, hL_wheel_1, hq, (Nat.le_of_ble_eq_true rfl), (Nat.le_of_ble_eq_true rfl)⟩⟩
    · exact ⟨fun h => absurd h (by decide), fun _ => ⟨_, hL_wheel_2, hq, (Nat.le_of_ble_eq_true rfl), (Nat.le_of_ble_eq_true rfl)⟩⟩
def rmL_cost : Room := { frames := 8, cells := 2, slots := 12, locals := 132 }
abbrev wzL_cost : List Cond := .codeWith yL_cost cL_cost 5 (some .int) [(0, 10, 13, 19), (0, 10, 17, 13)] :: zW
theorem kL_cost_101 : ∀ (s9 : State) (a9 : Array Value), (∀ w ∈ wzL_cost, w.before a9 s9 = true) → CallW rmL_cost s9 a9 RL RX11 101 yX11_cost cX11_cost 3 (some .int) wzX11_cost rmX11_cost 2 12 2 := zcV (zWi_18 _ (List.mem_of_getElem? (i := 0) rfl)) (zWi_12 _ (List.mem_of_getElem? (i := 45) rfl)) (zWi_25 _ (List.mem_of_getElem? (i := 38) rfl)) (zWi_12 _ (List.mem_of_getElem? (i := 12) rfl)) (zWi_1 _ (List.mem_of_getElem? (i := 20) rfl)) (by decide +kernel) rfl rfl ⟨Nat.le_of_ble_eq_true rfl, Nat.le_of_ble_eq_true rfl⟩
theorem hL_cost_1 : zHd cL_cost wzL_cost RL 5 5 0 1 := ⟨[], [⟨0, 10, 17, 13⟩], ⟨0, 10, 13, 19⟩, rfl, (fun z hz => absurd hz List.not_mem_nil), by decide, by decide, List.mem_cons_of_mem _ (zWi_0 _ (List.mem_of_getElem? (i := 8) rfl)), by decide +kernel, ⟨by decide, by decide⟩, Or.inl ⟨4, by decide, dL_cost_13, dL_cost_15, dL_cost_16⟩⟩
theorem hL_cost_2 : zHd cL_cost wzL_cost RL 5 5 1 2 := ⟨[⟨0, 10, 13, 19⟩], [], ⟨0, 10, 17, 13⟩, rfl, (List.forall_mem_cons.mpr ⟨⟨by decide, _, List.mem_cons_of_mem _ (zWi_0 _ (List.mem_of_getElem? (i := 8) rfl)), by decide +kernel⟩, (fun z hz => absurd hz List.not_mem_nil)⟩), by decide, by decide, List.mem_cons_of_mem _ (zWi_0 _ (List.mem_of_getElem? (i := 4) rfl)), by decide +kernel, ⟨by decide, by decide⟩, Or.inl ⟨4, by decide, dL_cost_17, dL_cost_19, dL_cost_20⟩⟩
def sp_L_cost (as : List zV) (M : zM) (Q : Option zV → zM → Prop) : Prop := ∃ (p0 p1 : Int), as = [zR 0, zI p0, zI p1, zR 201] ∧ sp_X11_cost [zR 0, zI p0, zI p1] M (hp cdB (fun k N => Q (some (zI k)) N))
set_option maxRecDepth 20000 in
set_option maxHeartbeats 4000000 in
theorem m_L_cost (l : Launch) : zCx l yL_cost wzL_cost rmL_cost 2 sp_L_cost := by
  refine zMet.ofH RL (by decide +kernel) rfl rfl ?_
  intro E X as M Qp hX S hsp
  obtain ⟨p0, p1, rfl, hsp⟩ := hsp
  refine ⟨Nat.le_of_ble_eq_true rfl, ?_⟩
  dsimp only [zpad, zargs]
  refine zr_aload_n (pc := 0) S dL_cost_0 rfl ?_
  refine zr_iconst (pc := 1) S dL_cost_1 (by unfold zrI; omega) ?_
  refine zr_aload_n (pc := 2) S dL_cost_2 rfl ?_
  refine zr_iload_n (pc := 3) S dL_cost_3 rfl ?_
  refine zr_iload_n (pc := 4) S dL_cost_4 rfl ?_
  refine zr_invVH (pc := 5) S [zI _, zI _] (m_X11_cost _) kL_cost_101 dL_cost_5 rfl (Nat.le_of_ble_eq_true rfl) rfl (Nat.le_of_ble_eq_true rfl) ⟨Nat.le_of_ble_eq_true rfl, Nat.le_of_ble_eq_true rfl⟩ rfl (mo_X11_cost (fun v N hv => ?_) (fun k N hk hv => ?_) hsp)
  · refine zr_i2l (pc := 8) S dL_cost_8 ?_
    refine zr_lastore (pc := 9) S dL_cost_9 rfl (Nat.le_of_ble_eq_true rfl) (by omega) (by omega) ?_
    refine zr_goto (pc := 10) (tgt := 21) S dL_cost_10 (by decide) ?_
    refine zr_iconst (pc := 21) S dL_cost_21 (by unfold zrI; omega) ?_
    exact zr_iret (pc := 22) S dL_cost_22 rfl ⟨Nat.le_of_ble_eq_true rfl, Nat.le_of_ble_eq_true rfl⟩ (hv)
  · obtain ⟨c, hc, hq⟩ := hv
    rcases cdB_i hc with ⟨rfl, rfl⟩ | ⟨rfl, rfl⟩
    · exact ⟨fun h => absurd h (by decide), fun _ => ⟨_, hL_cost_1, hq, (Nat.le_of_ble_eq_true rfl), (Nat.le_of_ble_eq_true rfl)⟩⟩
    · exact ⟨fun h => absurd h (by decide), fun _ => ⟨_, hL_cost_2, hq, (Nat.le_of_ble_eq_true rfl), (Nat.le_of_ble_eq_true rfl)⟩⟩
def rmL_explain : Room := { frames := 8, cells := 1, slots := 6, locals := 167 }
abbrev wzL_explain : List Cond := .codeWith yL_explain cL_explain 4 (some .int) [(0, 9, 12, 13)] :: zW
theorem kL_explain_104 : ∀ (s9 : State) (a9 : Array Value), (∀ w ∈ wzL_explain, w.before a9 s9 = true) → CallW rmL_explain s9 a9 RL RX11 104 yX11_explain cX11_explain 2 (some .int) wzX11_explain rmX11_explain 1 6 1 := zcV (zWi_18 _ (List.mem_of_getElem? (i := 1) rfl)) (zWi_12 _ (List.mem_of_getElem? (i := 49) rfl)) (zWi_25 _ (List.mem_of_getElem? (i := 42) rfl)) (zWi_12 _ (List.mem_of_getElem? (i := 12) rfl)) (zWi_1 _ (List.mem_of_getElem? (i := 24) rfl)) (by decide +kernel) rfl rfl ⟨Nat.le_of_ble_eq_true rfl, Nat.le_of_ble_eq_true rfl⟩
theorem hL_explain_1 : zHd cL_explain wzL_explain RL 4 4 1 1 := ⟨[], [], ⟨0, 9, 12, 13⟩, rfl, (fun z hz => absurd hz List.not_mem_nil), by decide, by decide, List.mem_cons_of_mem _ (zWi_0 _ (List.mem_of_getElem? (i := 4) rfl)), by decide +kernel, ⟨by decide, by decide⟩, Or.inr ⟨3, by decide, dL_explain_12, dL_explain_13, dL_explain_14⟩⟩
def sp_L_explain (as : List zV) (M : zM) (Q : Option zV → zM → Prop) : Prop := ∃ (p0 : Int), as = [zR 0, zI p0, zR 201] ∧ sp_X11_explain [zR 0, zI p0] M (hp cdA (fun k N => Q (some (zI k)) N))
set_option maxRecDepth 20000 in
set_option maxHeartbeats 4000000 in
theorem m_L_explain (l : Launch) : zCx l yL_explain wzL_explain rmL_explain 1 sp_L_explain := by
  refine zMet.ofH RL (by decide +kernel) rfl rfl ?_
  intro E X as M Qp hX S hsp
  obtain ⟨p0, rfl, hsp⟩ := hsp
  refine ⟨Nat.le_of_ble_eq_true rfl, ?_⟩
  dsimp only [zpad, zargs]
  refine zr_aload_n (pc := 0) S dL_explain_0 rfl ?_
  refine zr_iconst (pc := 1) S dL_explain_1 (by unfold zrI; omega) ?_
  refine zr_aload_n (pc := 2) S dL_explain_2 rfl ?_
  refine zr_iload_n (pc := 3) S dL_explain_3 rfl ?_
  refine zr_invVH (pc := 4) S [zI _] (m_X11_explain _) kL_explain_104 dL_explain_4 rfl (Nat.le_of_ble_eq_true rfl) rfl (Nat.le_of_ble_eq_true rfl) ⟨Nat.le_of_ble_eq_true rfl, Nat.le_of_ble_eq_true rfl⟩ rfl (mo_X11_explain (fun v N hv => ?_) (fun k N hk hv => ?_) hsp)
  · refine zr_i2l (pc := 7) S dL_explain_7 ?_
    refine zr_lastore (pc := 8) S dL_explain_8 rfl (Nat.le_of_ble_eq_true rfl) (by omega) (by omega) ?_
    refine zr_goto (pc := 9) (tgt := 15) S dL_explain_9 (by decide) ?_
    refine zr_iconst (pc := 15) S dL_explain_15 (by unfold zrI; omega) ?_
    exact zr_iret (pc := 16) S dL_explain_16 rfl ⟨Nat.le_of_ble_eq_true rfl, Nat.le_of_ble_eq_true rfl⟩ (hv)
  · obtain ⟨c, hc, hq⟩ := hv
    rcases cdA_i hc with ⟨rfl, rfl⟩
    · exact ⟨fun h => absurd h (by decide), fun _ => ⟨_, hL_explain_1, hq, (Nat.le_of_ble_eq_true rfl), (Nat.le_of_ble_eq_true rfl)⟩⟩
def rmL_buyer : Room := { frames := 9, cells := 6, slots := 36, locals := 159 }
abbrev wzL_buyer : List Cond := .codeWith yL_buyer cL_buyer 9 (some .int) [(0, 18, 21, 19), (0, 18, 25, 13)] :: zW
theorem kL_buyer_107 : ∀ (s9 : State) (a9 : Array Value), (∀ w ∈ wzL_buyer, w.before a9 s9 = true) → CallW rmL_buyer s9 a9 RL RX11 107 yX11_buyer cX11_buyer 9 (some .int) wzX11_buyer rmX11_buyer 6 36 6 := zcV (zWi_18 _ (List.mem_of_getElem? (i := 2) rfl)) (zWi_12 _ (List.mem_of_getElem? (i := 43) rfl)) (zWi_25 _ (List.mem_of_getElem? (i := 36) rfl)) (zWi_12 _ (List.mem_of_getElem? (i := 12) rfl)) (zWi_1 _ (List.mem_of_getElem? (i := 17) rfl)) (by decide +kernel) rfl rfl ⟨Nat.le_of_ble_eq_true rfl, Nat.le_of_ble_eq_true rfl⟩
theorem hL_buyer_1 : zHd cL_buyer wzL_buyer RL 9 13 0 1 := ⟨[], [⟨0, 18, 25, 13⟩], ⟨0, 18, 21, 19⟩, rfl, (fun z hz => absurd hz List.not_mem_nil), by decide, by decide, List.mem_cons_of_mem _ (zWi_0 _ (List.mem_of_getElem? (i := 8) rfl)), by decide +kernel, ⟨by decide, by decide⟩, Or.inl ⟨8, by decide, dL_buyer_21, dL_buyer_23, dL_buyer_24⟩⟩
theorem hL_buyer_2 : zHd cL_buyer wzL_buyer RL 9 13 1 2 := ⟨[⟨0, 18, 21, 19⟩], [], ⟨0, 18, 25, 13⟩, rfl, (List.forall_mem_cons.mpr ⟨⟨by decide, _, List.mem_cons_of_mem _ (zWi_0 _ (List.mem_of_getElem? (i := 8) rfl)), by decide +kernel⟩, (fun z hz => absurd hz List.not_mem_nil)⟩), by decide, by decide, List.mem_cons_of_mem _ (zWi_0 _ (List.mem_of_getElem? (i := 4) rfl)), by decide +kernel, ⟨by decide, by decide⟩, Or.inl ⟨8, by decide, dL_buyer_25, dL_buyer_27, dL_buyer_28⟩⟩
def sp_L_buyer (as : List zV) (M : zM) (Q : Option zV → zM → Prop) : Prop := ∃ (p0 p1 p2 p3 p4 p5 : Int), as = [zR 0, zI p0, zI p1, zI p2, zI p3, zI p4, zI p5, zR 201] ∧ sp_X11_buyer [zR 0, zI p0, zI p1, zI p2, zI p3, zI p4, zI p5] M (hp cdB (fun k N => Q (some (zI k)) N))
set_option maxRecDepth 20000 in
set_option maxHeartbeats 4000000 in
theorem m_L_buyer (l : Launch) : zCx l yL_buyer wzL_buyer rmL_buyer 6 sp_L_buyer := by
  refine zMet.ofH RL (by decide +kernel) rfl rfl ?_
  intro E X as M Qp hX S hsp
  obtain ⟨p0, p1, p2, p3, p4, p5, rfl, hsp⟩ := hsp
  refine ⟨Nat.le_of_ble_eq_true rfl, ?_⟩
  dsimp only [zpad, zargs]
  refine zr_aload (pc := 0) S dL_buyer_0 rfl ?_
  refine zr_iconst (pc := 2) S dL_buyer_2 (by unfold zrI; omega) ?_
  refine zr_aload_n (pc := 3) S dL_buyer_3 rfl ?_
  refine zr_iload_n (pc := 4) S dL_buyer_4 rfl ?_
  refine zr_iload_n (pc := 5) S dL_buyer_5 rfl ?_
  refine zr_iload_n (pc := 6) S dL_buyer_6 rfl ?_
  refine zr_iload (pc := 7) S dL_buyer_7 rfl ?_
  refine zr_iload (pc := 9) S dL_buyer_9 rfl ?_
  refine zr_iload (pc := 11) S dL_buyer_11 rfl ?_
  refine zr_invVH (pc := 13) S [zI _, zI _, zI _, zI _, zI _, zI _] (m_X11_buyer _) kL_buyer_107 dL_buyer_13 rfl (Nat.le_of_ble_eq_true rfl) rfl (Nat.le_of_ble_eq_true rfl) ⟨Nat.le_of_ble_eq_true rfl, Nat.le_of_ble_eq_true rfl⟩ rfl (mo_X11_buyer (fun v N hv => ?_) (fun k N hk hv => ?_) hsp)
  · refine zr_i2l (pc := 16) S dL_buyer_16 ?_
    refine zr_lastore (pc := 17) S dL_buyer_17 rfl (Nat.le_of_ble_eq_true rfl) (by omega) (by omega) ?_
    refine zr_goto (pc := 18) (tgt := 29) S dL_buyer_18 (by decide) ?_
    refine zr_iconst (pc := 29) S dL_buyer_29 (by unfold zrI; omega) ?_
    exact zr_iret (pc := 30) S dL_buyer_30 rfl ⟨Nat.le_of_ble_eq_true rfl, Nat.le_of_ble_eq_true rfl⟩ (hv)
  · obtain ⟨c, hc, hq⟩ := hv
    rcases cdB_i hc with ⟨rfl, rfl⟩ | ⟨rfl, rfl⟩
    · exact ⟨fun h => absurd h (by decide), fun _ => ⟨_, hL_buyer_1, hq, (Nat.le_of_ble_eq_true rfl), (Nat.le_of_ble_eq_true rfl)⟩⟩
    · exact ⟨fun h => absurd h (by decide), fun _ => ⟨_, hL_buyer_2, hq, (Nat.le_of_ble_eq_true rfl), (Nat.le_of_ble_eq_true rfl)⟩⟩
def rmL_most : Room := { frames := 10, cells := 1, slots := 6, locals := 240 }
abbrev wzL_most : List Cond := .codeWith yL_most cL_most 4 (some .int) [(0, 8, 11, 13)] :: zW
theorem kL_most_111 : ∀ (s9 : State) (a9 : Array Value), (∀ w ∈ wzL_most, w.before a9 s9 = true) → CallW rmL_most s9 a9 RL RX11 111 yX11_most cX11_most 2 (some .long) wzX11_most rmX11_most 1 6 1 := zcV (zWi_18 _ (List.mem_of_getElem? (i := 3) rfl)) (zWi_13 _ (List.mem_of_getElem? (i := 13) rfl)) (zWi_26 _ (List.mem_of_getElem? (i := 5) rfl)) (zWi_12 _ (List.mem_of_getElem? (i := 12) rfl)) (zWi_1 _ (List.mem_of_getElem? (i := 38) rfl)) (by decide +kernel) rfl rfl ⟨Nat.le_of_ble_eq_true rfl, Nat.le_of_ble_eq_true rfl⟩
theorem hL_most_1 : zHd cL_most wzL_most RL 4 4 1 1 := ⟨[], [], ⟨0, 8, 11, 13⟩, rfl, (fun z hz => absurd hz List.not_mem_nil), by decide, by decide, List.mem_cons_of_mem _ (zWi_0 _ (List.mem_of_getElem? (i := 4) rfl)), by decide +kernel, ⟨by decide, by decide⟩, Or.inr ⟨3, by decide, dL_most_11, dL_most_12, dL_most_13⟩⟩
def sp_L_most (as : List zV) (M : zM) (Q : Option zV → zM → Prop) : Prop := ∃ (p0 : Int), as = [zR 0, zI p0, zR 201] ∧ sp_X11_most [zR 0, zI p0] M (hp cdA (fun k N => Q (some (zI k)) N))
set_option maxRecDepth 20000 in
set_option maxHeartbeats 4000000 in
theorem m_L_most (l : Launch) : zCx l yL_most wzL_most rmL_most 1 sp_L_most := by
  refine zMet.ofH RL (by decide +kernel) rfl rfl ?_
  intro E X as M Qp hX S hsp
  obtain ⟨p0, rfl, hsp⟩ := hsp
  refine ⟨Nat.le_of_ble_eq_true rfl, ?_⟩
  dsimp only [zpad, zargs]
  refine zr_aload_n (pc := 0) S dL_most_0 rfl ?_
  refine zr_iconst (pc := 1) S dL_most_1 (by unfold zrI; omega) ?_
  refine zr_aload_n (pc := 2) S dL_most_2 rfl ?_
  refine zr_iload_n (pc := 3) S dL_most_3 rfl ?_
  refine zr_invVH (pc := 4) S [zI _] (m_X11_most _) kL_most_111 dL_most_4 rfl (Nat.le_of_ble_eq_true rfl) rfl (Nat.le_of_ble_eq_true rfl) ⟨Nat.le_of_ble_eq_true rfl, Nat.le_of_ble_eq_true rfl⟩ rfl (mo_X11_most (fun v N hv => ?_) (fun k N hk hv => ?_) hsp)
  · refine zr_lastore (pc := 7) S dL_most_7 rfl (Nat.le_of_ble_eq_true rfl) (by omega) (by omega) ?_
    refine zr_goto (pc := 8) (tgt := 14) S dL_most_8 (by decide) ?_
    refine zr_iconst (pc := 14) S dL_most_14 (by unfold zrI; omega) ?_
    exact zr_iret (pc := 15) S dL_most_15 rfl ⟨Nat.le_of_ble_eq_true rfl, Nat.le_of_ble_eq_true rfl⟩ (hv)
  · obtain ⟨c, hc, hq⟩ := hv
    rcases cdA_i hc with ⟨rfl, rfl⟩
    · exact ⟨fun h => absurd h (by decide), fun _ => ⟨_, hL_most_1, hq, (Nat.le_of_ble_eq_true rfl), (Nat.le_of_ble_eq_true rfl)⟩⟩
def rmL_serve : Room := { frames := 10, cells := 2, slots := 12, locals := 246 }
abbrev wzL_serve : List Cond := .codeWith yL_serve cL_serve 5 (some .int) [(0, 10, 13, 19), (0, 10, 17, 13)] :: zW
theorem kL_serve_114 : ∀ (s9 : State) (a9 : Array Value), (∀ w ∈ wzL_serve, w.before a9 s9 = true) → CallW rmL_serve s9 a9 RL RX11 114 yX11_serve cX11_serve 3 (some .int) wzX11_serve rmX11_serve 2 12 2 := zcV (zWi_18 _ (List.mem_of_getElem? (i := 4) rfl)) (zWi_13 _ (List.mem_of_getElem? (i := 28) rfl)) (zWi_26 _ (List.mem_of_getElem? (i := 20) rfl)) (zWi_12 _ (List.mem_of_getElem? (i := 12) rfl)) (zWi_2 _ (List.mem_of_getElem? (i := 5) rfl)) (by decide +kernel) rfl rfl ⟨Nat.le_of_ble_eq_true rfl, Nat.le_of_ble_eq_true rfl⟩
theorem hL_serve_1 : zHd cL_serve wzL_serve RL 5 5 0 1 := ⟨[], [⟨0, 10, 17, 13⟩], ⟨0, 10, 13, 19⟩, rfl, (fun z hz => absurd hz List.not_mem_nil), by decide, by decide, List.mem_cons_of_mem _ (zWi_0 _ (List.mem_of_getElem? (i := 8) rfl)), by decide +kernel, ⟨by decide, by decide⟩, Or.inl ⟨4, by decide, dL_serve_13, dL_serve_15, dL_serve_16⟩⟩
theorem hL_serve_2 : zHd cL_serve wzL_serve RL 5 5 1 2 := ⟨[⟨0, 10, 13, 19⟩], [], ⟨0, 10, 17, 13⟩, rfl, (List.forall_mem_cons.mpr ⟨⟨by decide, _, List.mem_cons_of_mem _ (zWi_0 _ (List.mem_of_getElem? (i := 8) rfl)), by decide +kernel⟩, (fun z hz => absurd hz List.not_mem_nil)⟩), by decide, by decide, List.mem_cons_of_mem _ (zWi_0 _ (List.mem_of_getElem? (i := 4) rfl)), by decide +kernel, ⟨by decide, by decide⟩, Or.inl ⟨4, by decide, dL_serve_17, dL_serve_19, dL_serve_20⟩⟩
def sp_L_serve (as : List zV) (M : zM) (Q : Option zV → zM → Prop) : Prop := ∃ (p0 p1 : Int), as = [zR 0, zI p0, zI p1, zR 201] ∧ sp_X11_serve [zR 0, zI p0, zI p1] M (hp cdB (fun k N => Q (some (zI k)) N))
set_option maxRecDepth 20000 in
set_option maxHeartbeats 4000000 in
theorem m_L_serve (l : Launch) : zCx l yL_serve wzL_serve rmL_serve 2 sp_L_serve := by
  refine zMet.ofH RL (by decide +kernel) rfl rfl ?_
  intro E X as M Qp hX S hsp
  obtain ⟨p0, p1, rfl, hsp⟩ := hsp
  refine ⟨Nat.le_of_ble_eq_true rfl, ?_⟩
  dsimp only [zpad, zargs]
  refine zr_aload_n (pc := 0) S dL_serve_0 rfl ?_
  refine zr_iconst (pc := 1) S dL_serve_1 (by unfold zrI; omega) ?_
  refine zr_aload_n (pc := 2) S dL_serve_2 rfl ?_
  refine zr_iload_n (pc := 3) S dL_serve_3 rfl ?_
  refine zr_iload_n (pc := 4) S dL_serve_4 rfl ?_
  refine zr_invVH (pc := 5) S [zI _, zI _] (m_X11_serve _) kL_serve_114 dL_serve_5 rfl (Nat.le_of_ble_eq_true rfl) rfl (Nat.le_of_ble_eq_true rfl) ⟨Nat.le_of_ble_eq_true rfl, Nat.le_of_ble_eq_true rfl⟩ rfl (mo_X11_serve (fun v N hv => ?_) (fun k N hk hv => ?_) hsp)
  · refine zr_i2l (pc := 8) S dL_serve_8 ?_
    refine zr_lastore (pc := 9) S dL_serve_9 rfl (Nat.le_of_ble_eq_true rfl) (by omega) (by omega) ?_
    refine zr_goto (pc := 10) (tgt := 21) S dL_serve_10 (by decide) ?_
    refine zr_iconst (pc := 21) S dL_serve_21 (by unfold zrI; omega) ?_
    exact zr_iret (pc := 22) S dL_serve_22 rfl ⟨Nat.le_of_ble_eq_true rfl, Nat.le_of_ble_eq_true rfl⟩ (hv)
  · obtain ⟨c, hc, hq⟩ := hv
    rcases cdB_i hc with ⟨rfl, rfl⟩ | ⟨rfl, rfl⟩
    · exact ⟨fun h => absurd h (by decide), fun _ => ⟨_, hL_serve_1, hq, (Nat.le_of_ble_eq_true rfl), (Nat.le_of_ble_eq_true rfl)⟩⟩
    · exact ⟨fun h => absurd h (by decide), fun _ => ⟨_, hL_serve_2, hq, (Nat.le_of_ble_eq_true rfl), (Nat.le_of_ble_eq_true rfl)⟩⟩
def rmL_machine : Room := { frames := 8, cells := 2, slots := 12, locals := 132 }
abbrev wzL_machine : List Cond := .codeWith yL_machine cL_machine 5 (some .int) [(0, 10, 13, 13)] :: zW
theorem kL_machine_117 : ∀ (s9 : State) (a9 : Array Value), (∀ w ∈ wzL_machine, w.before a9 s9 = true) → CallW rmL_machine s9 a9 RL RX11 117 yX11_machine cX11_machine 3 (some .int) wzX11_machine rmX11_machine 2 12 2 := zcV (zWi_18 _ (List.mem_of_getElem? (i := 5) rfl)) (zWi_13 _ (List.mem_of_getElem? (i := 11) rfl)) (zWi_26 _ (List.mem_of_getElem? (i := 3) rfl)) (zWi_12 _ (List.mem_of_getElem? (i := 12) rfl)) (zWi_1 _ (List.mem_of_getElem? (i := 36) rfl)) (by decide +kernel) rfl rfl ⟨Nat.le_of_ble_eq_true rfl, Nat.le_of_ble_eq_true rfl⟩
theorem hL_machine_1 : zHd cL_machine wzL_machine RL 5 5 1 1 := ⟨[], [], ⟨0, 10, 13, 13⟩, rfl, (fun z hz => absurd hz List.not_mem_nil), by decide, by decide, List.mem_cons_of_mem _ (zWi_0 _ (List.mem_of_getElem? (i := 4) rfl)), by decide +kernel, ⟨by decide, by decide⟩, Or.inl ⟨4, by decide, dL_machine_13, dL_machine_15, dL_machine_16⟩⟩
def sp_L_machine (as : List zV) (M : zM) (Q : Option zV → zM → Prop) : Prop := ∃ (p0 p1 : Int), as = [zR 0, zI p0, zI p1, zR 201] ∧ sp_X11_machine [zR 0, zI p0, zI p1] M (hp cdA (fun k N => Q (some (zI k)) N))
set_option maxRecDepth 20000 in
set_option maxHeartbeats 4000000 in
theorem m_L_machine (l : Launch) : zCx l yL_machine wzL_machine rmL_machine 2 sp_L_machine := by
  refine zMet.ofH RL (by decide +kernel) rfl rfl ?_
  intro E X as M Qp hX S hsp
  obtain ⟨p0, p1, rfl, hsp⟩ := hsp
  refine ⟨Nat.le_of_ble_eq_true rfl, ?_⟩
  dsimp only [zpad, zargs]
  refine zr_aload_n (pc := 0) S dL_machine_0 rfl ?_
  refine zr_iconst (pc := 1) S dL_machine_1 (by unfold zrI; omega) ?_
  refine zr_aload_n (pc := 2) S dL_machine_2 rfl ?_
  refine zr_iload_n (pc := 3) S dL_machine_3 rfl ?_
  refine zr_iload_n (pc := 4) S dL_machine_4 rfl ?_
  refine zr_invVH (pc := 5) S [zI _, zI _] (m_X11_machine _) kL_machine_117 dL_machine_5 rfl (Nat.le_of_ble_eq_true rfl) rfl (Nat.le_of_ble_eq_true rfl) ⟨Nat.le_of_ble_eq_true rfl, Nat.le_of_ble_eq_true rfl⟩ rfl (mo_X11_machine (fun v N hv => ?_) (fun k N hk hv => ?_) hsp)
  · refine zr_i2l (pc := 8) S dL_machine_8 ?_
    refine zr_lastore (pc := 9) S dL_machine_9 rfl (Nat.le_of_ble_eq_true rfl) (by omega) (by omega) ?_
    refine zr_goto (pc := 10) (tgt := 17) S dL_machine_10 (by decide) ?_
    refine zr_iconst (pc := 17) S dL_machine_17 (by unfold zrI; omega) ?_
    exact zr_iret (pc := 18) S dL_machine_18 rfl ⟨Nat.le_of_ble_eq_true rfl, Nat.le_of_ble_eq_true rfl⟩ (hv)
  · obtain ⟨c, hc, hq⟩ := hv
    rcases cdA_i hc with ⟨rfl, rfl⟩
    · exact ⟨fun h => absurd h (by decide), fun _ => ⟨_, hL_machine_1, hq, (Nat.le_of_ble_eq_true rfl), (Nat.le_of_ble_eq_true rfl)⟩⟩
def rmL_rounds : Room := { frames := 21, cells := 1, slots := 6, locals := 539 }
abbrev wzL_rounds : List Cond := .codeWith yL_rounds cL_rounds 5 (some .int) [(0, 10, 13, 13)] :: zW
theorem kL_rounds_120 : ∀ (s9 : State) (a9 : Array Value), (∀ w ∈ wzL_rounds, w.before a9 s9 = true) → CallW rmL_rounds s9 a9 RL RX11 120 yX11_rounds cX11_rounds 3 (some .int) wzX11_rounds rmX11_rounds 1 6 2 := zcV (zWi_18 _ (List.mem_of_getElem? (i := 6) rfl)) (zWi_13 _ (List.mem_of_getElem? (i := 26) rfl)) (zWi_26 _ (List.mem_of_getElem? (i := 18) rfl)) (zWi_12 _ (List.mem_of_getElem? (i := 12) rfl)) (zWi_2 _ (List.mem_of_getElem? (i := 3) rfl)) (by decide +kernel) rfl rfl ⟨Nat.le_of_ble_eq_true rfl, Nat.le_of_ble_eq_true rfl⟩
theorem hL_rounds_1 : zHd cL_rounds wzL_rounds RL 5 5 1 1 := ⟨[], [], ⟨0, 10, 13, 13⟩, rfl, (fun z hz => absurd hz List.not_mem_nil), by decide, by decide, List.mem_cons_of_mem _ (zWi_0 _ (List.mem_of_getElem? (i := 4) rfl)), by decide +kernel, ⟨by decide, by decide⟩, Or.inl ⟨4, by decide, dL_rounds_13, dL_rounds_15, dL_rounds_16⟩⟩
def sp_L_rounds (as : List zV) (M : zM) (Q : Option zV → zM → Prop) : Prop := ∃ (p0 p1 : Int), as = [zR 0, zI p0, zI p1, zR 201] ∧ sp_X11_rounds [zR 0, zI p0, zI p1] M (hp cdA (fun k N => Q (some (zI k)) N))
set_option maxRecDepth 20000 in
set_option maxHeartbeats 4000000 in
theorem m_L_rounds (l : Launch) : zCx l yL_rounds wzL_rounds rmL_rounds 1 sp_L_rounds := by
  refine zMet.ofH RL (by decide +kernel) rfl rfl ?_
  intro E X as M Qp hX S hsp
  obtain ⟨p0, p1, rfl, hsp⟩ := hsp
  refine ⟨Nat.le_of_ble_eq_true rfl, ?_⟩
  dsimp only [zpad, zargs]
  refine zr_aload_n (pc := 0) S dL_rounds_0 rfl ?_
  refine zr_iconst (pc := 1) S dL_rounds_1 (by unfold zrI; omega) ?_
  refine zr_aload_n (pc := 2) S dL_rounds_2 rfl ?_
  refine zr_iload_n (pc := 3) S dL_rounds_3 rfl ?_
  refine zr_iload_n (pc := 4) S dL_rounds_4 rfl ?_
  refine zr_invVH (pc := 5) S [zI _, zI _] (m_X11_rounds _) kL_rounds_120 dL_rounds_5 rfl (Nat.le_of_ble_eq_true rfl) rfl (Nat.le_of_ble_eq_true rfl) ⟨Nat.le_of_ble_eq_true rfl, Nat.le_of_ble_eq_true rfl⟩ rfl (mo_X11_rounds (fun v N hv => ?_) (fun k N hk hv => ?_) hsp)
  · refine zr_i2l (pc := 8) S dL_rounds_8 ?_
    refine zr_lastore (pc := 9) S dL_rounds_9 rfl (Nat.le_of_ble_eq_true rfl) (by omega) (by omega) ?_
    refine zr_goto (pc := 10) (tgt := 17) S dL_rounds_10 (by decide) ?_
    refine zr_iconst (pc := 17) S dL_rounds_17 (by unfold zrI; omega) ?_
    exact zr_iret (pc := 18) S dL_rounds_18 rfl ⟨Nat.le_of_ble_eq_true rfl, Nat.le_of_ble_eq_true rfl⟩ (hv)
  · obtain ⟨c, hc, hq⟩ := hv
    rcases cdA_i hc with ⟨rfl, rfl⟩
    · exact ⟨fun h => absurd h (by decide), fun _ => ⟨_, hL_rounds_1, hq, (Nat.le_of_ble_eq_true rfl), (Nat.le_of_ble_eq_true rfl)⟩⟩
def rmL_tray : Room := { frames := 8, cells := 3, slots := 18, locals := 133 }
abbrev wzL_tray : List Cond := .codeWith yL_tray cL_tray 5 (some .int) [(0, 7, 10, 19), (0, 7, 14, 13)] :: zW
theorem kL_tray_123 : ∀ (s9 : State) (a9 : Array Value), (∀ w ∈ wzL_tray, w.before a9 s9 = true) → CallW rmL_tray s9 a9 RL RX11 123 yX11_tray cX11_tray 4 none wzX11_tray rmX11_tray 3 18 3 := zcV (zWi_18 _ (List.mem_of_getElem? (i := 7) rfl)) (zWi_13 _ (List.mem_of_getElem? (i := 34) rfl)) (zWi_26 _ (List.mem_of_getElem? (i := 26) rfl)) (zWi_12 _ (List.mem_of_getElem? (i := 12) rfl)) (zWi_2 _ (List.mem_of_getElem? (i := 12) rfl)) (by decide +kernel) rfl rfl ⟨Nat.le_of_ble_eq_true rfl, Nat.le_of_ble_eq_true rfl⟩
theorem hL_tray_1 : zHd cL_tray wzL_tray RL 5 4 0 1 := ⟨[], [⟨0, 7, 14, 13⟩], ⟨0, 7, 10, 19⟩, rfl, (fun z hz => absurd hz List.not_mem_nil), by decide, by decide, List.mem_cons_of_mem _ (zWi_0 _ (List.mem_of_getElem? (i := 8) rfl)), by decide +kernel, ⟨by decide, by decide⟩, Or.inl ⟨4, by decide, dL_tray_10, dL_tray_12, dL_tray_13⟩⟩
theorem hL_tray_2 : zHd cL_tray wzL_tray RL 5 4 1 2 := ⟨[⟨0, 7, 10, 19⟩], [], ⟨0, 7, 14, 13⟩, rfl, (List.forall_mem_cons.mpr ⟨⟨by decide, _, List.mem_cons_of_mem _ (zWi_0 _ (List.mem_of_getElem? (i := 8) rfl)), by decide +kernel⟩, (fun z hz => absurd hz List.not_mem_nil)⟩), by decide, by decide, List.mem_cons_of_mem _ (zWi_0 _ (List.mem_of_getElem? (i := 4) rfl)), by decide +kernel, ⟨by decide, by decide⟩, Or.inl ⟨4, by decide, dL_tray_14, dL_tray_16, dL_tray_17⟩⟩
def sp_L_tray (as : List zV) (M : zM) (Q : Option zV → zM → Prop) : Prop := ∃ (p0 p1 p2 : Int), as = [zR 0, zI p0, zI p1, zI p2] ∧ sp_X11_tray [zR 0, zI p0, zI p1, zI p2] M (hp cdB (fun k N => Q (some (zI k)) N))
set_option maxRecDepth 20000 in
set_option maxHeartbeats 4000000 in
theorem m_L_tray (l : Launch) : zCx l yL_tray wzL_tray rmL_tray 3 sp_L_tray := by
  refine zMet.ofH RL (by decide +kernel) rfl rfl ?_
  intro E X as M Qp hX S hsp
  obtain ⟨p0, p1, p2, rfl, hsp⟩ := hsp
  refine ⟨Nat.le_of_ble_eq_true rfl, ?_⟩
  dsimp only [zpad, zargs]
  refine zr_aload_n (pc := 0) S dL_tray_0 rfl ?_
  refine zr_iload_n (pc := 1) S dL_tray_1 rfl ?_
  refine zr_iload_n (pc := 2) S dL_tray_2 rfl ?_
  refine zr_iload_n (pc := 3) S dL_tray_3 rfl ?_
  refine zr_invVH (pc := 4) S [zI _, zI _, zI _] (m_X11_tray _) kL_tray_123 dL_tray_4 rfl (Nat.le_of_ble_eq_true rfl) rfl (Nat.le_of_ble_eq_true rfl) ⟨Nat.le_of_ble_eq_true rfl, Nat.le_of_ble_eq_true rfl⟩ rfl (mo_X11_tray (fun N hv => ?_) (fun k N hk hv => ?_) hsp)
  · refine zr_goto (pc := 7) (tgt := 18) S dL_tray_7 (by decide) ?_
    refine zr_iconst (pc := 18) S dL_tray_18 (by unfold zrI; omega) ?_
    exact zr_iret (pc := 19) S dL_tray_19 rfl ⟨Nat.le_of_ble_eq_true rfl, Nat.le_of_ble_eq_true rfl⟩ (hv)
  · obtain ⟨c, hc, hq⟩ := hv
    rcases cdB_i hc with ⟨rfl, rfl⟩ | ⟨rfl, rfl⟩
    · exact ⟨fun h => absurd h (by decide), fun _ => ⟨_, hL_tray_1, hq, (Nat.le_of_ble_eq_true rfl), (Nat.le_of_ble_eq_true rfl)⟩⟩
    · exact ⟨fun h => absurd h (by decide), fun _ => ⟨_, hL_tray_2, hq, (Nat.le_of_ble_eq_true rfl), (Nat.le_of_ble_eq_true rfl)⟩⟩
def rmL_write : Room := { frames := 9, cells := 3, slots := 18, locals := 156 }
abbrev wzL_write : List Cond := .codeWith yL_write cL_write 7 (some .int) [(0, 11, 14, 19), (0, 11, 18, 131), (0, 11, 22, 133)] :: zW
theorem kL_write_127 : ∀ (s9 : State) (a9 : Array Value), (∀ w ∈ wzL_write, w.before a9 s9 = true) → CallW rmL_write s9 a9 RL RX11 127 yX11_write cX11_write 6 (some .long) wzX11_write rmX11_write 3 18 3 := zcV (zWi_18 _ (List.mem_of_getElem? (i := 8) rfl)) (zWi_13 _ (List.mem_of_getElem? (i := 39) rfl)) (zWi_26 _ (List.mem_of_getElem? (i := 31) rfl)) (zWi_12 _ (List.mem_of_getElem? (i := 12) rfl)) (zWi_2 _ (List.mem_of_getElem? (i := 18) rfl)) (by decide +kernel) rfl rfl ⟨Nat.le_of_ble_eq_true rfl, Nat.le_of_ble_eq_true rfl⟩
theorem hL_write_1 : zHd cL_write wzL_write RL 7 7 0 1 := ⟨[], [⟨0, 11, 18, 131⟩, ⟨0, 11, 22, 133⟩], ⟨0, 11, 14, 19⟩, rfl, (fun z hz => absurd hz List.not_mem_nil), by decide, by decide, List.mem_cons_of_mem _ (zWi_0 _ (List.mem_of_getElem? (i := 8) rfl)), by decide +kernel, ⟨by decide, by decide⟩, Or.inl ⟨6, by decide, dL_write_14, dL_write_16, dL_write_17⟩⟩
theorem hL_write_2 : zHd cL_write wzL_write RL 7 7 2 2 := ⟨[⟨0, 11, 14, 19⟩], [⟨0, 11, 22, 133⟩], ⟨0, 11, 18, 131⟩, rfl, (List.forall_mem_cons.mpr ⟨⟨by decide, _, List.mem_cons_of_mem _ (zWi_0 _ (List.mem_of_getElem? (i := 8) rfl)), by decide +kernel⟩, (fun z hz => absurd hz List.not_mem_nil)⟩), by decide, by decide, List.mem_cons_of_mem _ (zWi_0 _ (List.mem_of_getElem? (i := 5) rfl)), by decide +kernel, ⟨by decide, by decide⟩, Or.inl ⟨6, by decide, dL_write_18, dL_write_20, dL_write_21⟩⟩
theorem hL_write_3 : zHd cL_write wzL_write RL 7 7 3 3 := ⟨[⟨0, 11, 14, 19⟩, ⟨0, 11, 18, 131⟩], [], ⟨0, 11, 22, 133⟩, rfl, (List.forall_mem_cons.mpr ⟨⟨by decide, _, List.mem_cons_of_mem _ (zWi_0 _ (List.mem_of_getElem? (i := 8) rfl)), by decide +kernel⟩, (List.forall_mem_cons.mpr ⟨⟨by decide, _, List.mem_cons_of_mem _ (zWi_0 _ (List.mem_of_getElem? (i := 5) rfl)), by decide +kernel⟩, (fun z hz => absurd hz List.not_mem_nil)⟩)⟩), by decide, by decide, List.mem_cons_of_mem _ (zWi_0 _ (List.mem_of_getElem? (i := 6) rfl)), by decide +kernel, ⟨by decide, by decide⟩, Or.inl ⟨6, by decide, dL_write_22, dL_write_24, dL_write_25⟩⟩
def sp_L_write (as : List zV) (M : zM) (Q : Option zV → zM → Prop) : Prop := ∃ (p0 p1 p2 : Int), as = [zR 0, zI p0, zI p1, zL p2, zR 201] ∧ sp_X11_write [zR 0, zI p0, zI p1, zL p2] M (hp cdW (fun k N => Q (some (zI k)) N))
set_option maxRecDepth 20000 in
set_option maxHeartbeats 4000000 in
theorem m_L_write (l : Launch) : zCx l yL_write wzL_write rmL_write 3 sp_L_write := by
  refine zMet.ofH RL (by decide +kernel) rfl rfl ?_
  intro E X as M Qp hX S hsp
  obtain ⟨p0, p1, p2, rfl, hsp⟩ := hsp
  refine ⟨Nat.le_of_ble_eq_true rfl, ?_⟩
  dsimp only [zpad, zargs]
  refine zr_aload (pc := 0) S dL_write_0 rfl ?_
  refine zr_iconst (pc := 2) S dL_write_2 (by unfold zrI; omega) ?_
  refine zr_aload_n (pc := 3) S dL_write_3 rfl ?_
  refine zr_iload_n (pc := 4) S dL_write_4 rfl ?_
  refine zr_iload_n (pc := 5) S dL_write_5 rfl ?_
  refine zr_lload_n (pc := 6) S dL_write_6 rfl ?_
  refine zr_invVH (pc := 7) S [zI _, zI _, zL _] (m_X11_write _) kL_write_127 dL_write_7 rfl (Nat.le_of_ble_eq_true rfl) rfl (Nat.le_of_ble_eq_true rfl) ⟨Nat.le_of_ble_eq_true rfl, Nat.le_of_ble_eq_true rfl⟩ rfl (mo_X11_write (fun v N hv => ?_) (fun k N hk hv => ?_) hsp)
  · refine zr_lastore (pc := 10) S dL_write_10 rfl (Nat.le_of_ble_eq_true rfl) (by omega) (by omega) ?_
    refine zr_goto (pc := 11) (tgt := 26) S dL_write_11 (by decide) ?_
    refine zr_iconst (pc := 26) S dL_write_26 (by unfold zrI; omega) ?_
    exact zr_iret (pc := 27) S dL_write_27 rfl ⟨Nat.le_of_ble_eq_true rfl, Nat.le_of_ble_eq_true rfl⟩ (hv)
  · obtain ⟨c, hc, hq⟩ := hv
    rcases cdW_i hc with ⟨rfl, rfl⟩ | ⟨rfl, rfl⟩ | ⟨rfl, rfl⟩
    · exact ⟨fun h => absurd h (by decide), fun _ => ⟨_, hL_write_1, hq, (Nat.le_of_ble_eq_true rfl), (Nat.le_of_ble_eq_true rfl)⟩⟩
    · exact ⟨fun h => absurd h (by decide), fun _ => ⟨_, hL_write_2, hq, (Nat.le_of_ble_eq_true rfl), (Nat.le_of_ble_eq_true rfl)⟩⟩
    · exact ⟨fun h => absurd h (by decide), fun _ => ⟨_, hL_write_3, hq, (Nat.le_of_ble_eq_true rfl), (Nat.le_of_ble_eq_true rfl)⟩⟩
def rmL_pour : Room := { frames := 9, cells := 4, slots := 24, locals := 155 }
abbrev wzL_pour : List Cond := .codeWith yL_pour cL_pour 5 (some .int) [(0, 10, 13, 19), (0, 10, 17, 131), (0, 10, 21, 13)] :: zW
theorem kL_pour_135 : ∀ (s9 : State) (a9 : Array Value), (∀ w ∈ wzL_pour, w.before a9 s9 = true) → CallW rmL_pour s9 a9 RL RX11 135 yX11_pour cX11_pour 5 (some .int) wzX11_pour rmX11_pour 4 24 2 := zcV (zWi_18 _ (List.mem_of_getElem? (i := 9) rfl)) (zWi_13 _ (List.mem_of_getElem? (i := 21) rfl)) (zWi_26 _ (List.mem_of_getElem? (i := 13) rfl)) (zWi_12 _ (List.mem_of_getElem? (i := 12) rfl)) (zWi_1 _ (List.mem_of_getElem? (i := 48) rfl)) (by decide +kernel) rfl rfl ⟨Nat.le_of_ble_eq_true rfl, Nat.le_of_ble_eq_true rfl⟩
theorem hL_pour_1 : zHd cL_pour wzL_pour RL 5 5 0 1 := ⟨[], [⟨0, 10, 17, 131⟩, ⟨0, 10, 21, 13⟩], ⟨0, 10, 13, 19⟩, rfl, (fun z hz => absurd hz List.not_mem_nil), by decide, by decide, List.mem_cons_of_mem _ (zWi_0 _ (List.mem_of_getElem? (i := 8) rfl)), by decide +kernel, ⟨by decide, by decide⟩, Or.inl ⟨4, by decide, dL_pour_13, dL_pour_15, dL_pour_16⟩⟩
theorem hL_pour_2 : zHd cL_pour wzL_pour RL 5 5 2 2 := ⟨[⟨0, 10, 13, 19⟩], [⟨0, 10, 21, 13⟩], ⟨0, 10, 17, 131⟩, rfl, (List.forall_mem_cons.mpr ⟨⟨by decide, _, List.mem_cons_of_mem _ (zWi_0 _ (List.mem_of_getElem? (i := 8) rfl)), by decide +kernel⟩, (fun z hz => absurd hz List.not_mem_nil)⟩), by decide, by decide, List.mem_cons_of_mem _ (zWi_0 _ (List.mem_of_getElem? (i := 5) rfl)), by decide +kernel, ⟨by decide, by decide⟩, Or.inl ⟨4, by decide, dL_pour_17, dL_pour_19, dL_pour_20⟩⟩
theorem hL_pour_3 : zHd cL_pour wzL_pour RL 5 5 1 3 := ⟨[⟨0, 10, 13, 19⟩, ⟨0, 10, 17, 131⟩], [], ⟨0, 10, 21, 13⟩, rfl, (List.forall_mem_cons.mpr ⟨⟨by decide, _, List.mem_cons_of_mem _ (zWi_0 _ (List.mem_of_getElem? (i := 8) rfl)), by decide +kernel⟩, (List.forall_mem_cons.mpr ⟨⟨by decide, _, List.mem_cons_of_mem _ (zWi_0 _ (List.mem_of_getElem? (i := 5) rfl)), by decide +kernel⟩, (fun z hz => absurd hz List.not_mem_nil)⟩)⟩), by decide, by decide, List.mem_cons_of_mem _ (zWi_0 _ (List.mem_of_getElem? (i := 4) rfl)), by decide +kernel, ⟨by decide, by decide⟩, Or.inl ⟨4, by decide, dL_pour_21, dL_pour_23, dL_pour_24⟩⟩
def sp_L_pour (as : List zV) (M : zM) (Q : Option zV → zM → Prop) : Prop := ∃ (p0 p1 : Int), as = [zR 0, zI p0, zI p1, zR 201] ∧ sp_X11_pour [zR 0, zI p0, zI p1] M (hp cdP (fun k N => Q (some (zI k)) N))
set_option maxRecDepth 20000 in
set_option maxHeartbeats 4000000 in
theorem m_L_pour (l : Launch) : zCx l yL_pour wzL_pour rmL_pour 4 sp_L_pour := by
  refine zMet.ofH RL (by decide +kernel) rfl rfl ?_
  intro E X as M Qp hX S hsp
  obtain ⟨p0, p1, rfl, hsp⟩ := hsp
  refine ⟨Nat.le_of_ble_eq_true rfl, ?_⟩
  dsimp only [zpad, zargs]
  refine zr_aload_n (pc := 0) S dL_pour_0 rfl ?_
  refine zr_iconst (pc := 1) S dL_pour_1 (by unfold zrI; omega) ?_
  refine zr_aload_n (pc := 2) S dL_pour_2 rfl ?_
  refine zr_iload_n (pc := 3) S dL_pour_3 rfl ?_
  refine zr_iload_n (pc := 4) S dL_pour_4 rfl ?_
  refine zr_invVH (pc := 5) S [zI _, zI _] (m_X11_pour _) kL_pour_135 dL_pour_5 rfl (Nat.le_of_ble_eq_true rfl) rfl (Nat.le_of_ble_eq_true rfl) ⟨Nat.le_of_ble_eq_true rfl, Nat.le_of_ble_eq_true rfl⟩ rfl (mo_X11_pour (fun v N hv => ?_) (fun k N hk hv => ?_) hsp)
  · refine zr_i2l (pc := 8) S dL_pour_8 ?_
    refine zr_lastore (pc := 9) S dL_pour_9 rfl (Nat.le_of_ble_eq_true rfl) (by omega) (by omega) ?_
    refine zr_goto (pc := 10) (tgt := 25) S dL_pour_10 (by decide) ?_
    refine zr_iconst (pc := 25) S dL_pour_25 (by unfold zrI; omega) ?_
    exact zr_iret (pc := 26) S dL_pour_26 rfl ⟨Nat.le_of_ble_eq_true rfl, Nat.le_of_ble_eq_true rfl⟩ (hv)
  · obtain ⟨c, hc, hq⟩ := hv
    rcases cdP_i hc with ⟨rfl, rfl⟩ | ⟨rfl, rfl⟩ | ⟨rfl, rfl⟩
    · exact ⟨fun h => absurd h (by decide), fun _ => ⟨_, hL_pour_1, hq, (Nat.le_of_ble_eq_true rfl), (Nat.le_of_ble_eq_true rfl)⟩⟩
    · exact ⟨fun h => absurd h (by decide), fun _ => ⟨_, hL_pour_2, hq, (Nat.le_of_ble_eq_true rfl), (Nat.le_of_ble_eq_true rfl)⟩⟩
    · exact ⟨fun h => absurd h (by decide), fun _ => ⟨_, hL_pour_3, hq, (Nat.le_of_ble_eq_true rfl), (Nat.le_of_ble_eq_true rfl)⟩⟩
def rmL_image : Room := { frames := 8, cells := 1, slots := 6, locals := 144 }
abbrev wzL_image : List Cond := .codeWith yL_image cL_image 3 (some .int) [(0, 5, 8, 19)] :: zW
theorem kL_image_138 : ∀ (s9 : State) (a9 : Array Value), (∀ w ∈ wzL_image, w.before a9 s9 = true) → CallW rmL_image s9 a9 RL RX11 138 yX11_image cX11_image 2 none wzX11_image rmX11_image 1 6 1 := zcV (zWi_18 _ (List.mem_of_getElem? (i := 10) rfl)) (zWi_13 _ (List.mem_of_getElem? (i := 6) rfl)) (zWi_25 _ (List.mem_of_getElem? (i := 49) rfl)) (zWi_12 _ (List.mem_of_getElem? (i := 12) rfl)) (zWi_1 _ (List.mem_of_getElem? (i := 31) rfl)) (by decide +kernel) rfl rfl ⟨Nat.le_of_ble_eq_true rfl, Nat.le_of_ble_eq_true rfl⟩
theorem hL_image_1 : zHd cL_image wzL_image RL 3 2 0 1 := ⟨[], [], ⟨0, 5, 8, 19⟩, rfl, (fun z hz => absurd hz List.not_mem_nil), by decide, by decide, List.mem_cons_of_mem _ (zWi_0 _ (List.mem_of_getElem? (i := 8) rfl)), by decide +kernel, ⟨by decide, by decide⟩, Or.inr ⟨2, by decide, dL_image_8, dL_image_9, dL_image_10⟩⟩
def sp_L_image (as : List zV) (M : zM) (Q : Option zV → zM → Prop) : Prop := ∃ (p0 : Int), as = [zR 0, zI p0] ∧ sp_X11_image [zR 0, zI p0] M (hp cdN (fun k N => Q (some (zI k)) N))
set_option maxRecDepth 20000 in
set_option maxHeartbeats 4000000 in
theorem m_L_image (l : Launch) : zCx l yL_image wzL_image rmL_image 1 sp_L_image := by
  refine zMet.ofH RL (by decide +kernel) rfl rfl ?_
  intro E X as M Qp hX S hsp
  obtain ⟨p0, rfl, hsp⟩ := hsp
  refine ⟨Nat.le_of_ble_eq_true rfl, ?_⟩
  dsimp only [zpad, zargs]
  refine zr_aload_n (pc := 0) S dL_image_0 rfl ?_
  refine zr_iload_n (pc := 1) S dL_image_1 rfl ?_
  refine zr_invVH (pc := 2) S [zI _] (m_X11_image _) kL_image_138 dL_image_2 rfl (Nat.le_of_ble_eq_true rfl) rfl (Nat.le_of_ble_eq_true rfl) ⟨Nat.le_of_ble_eq_true rfl, Nat.le_of_ble_eq_true rfl⟩ rfl (mo_X11_image (fun N hv => ?_) (fun k N hk hv => ?_) hsp)
  · refine zr_goto (pc := 5) (tgt := 11) S dL_image_5 (by decide) ?_
    refine zr_iconst (pc := 11) S dL_image_11 (by unfold zrI; omega) ?_
    exact zr_iret (pc := 12) S dL_image_12 rfl ⟨Nat.le_of_ble_eq_true rfl, Nat.le_of_ble_eq_true rfl⟩ (hv)
  · obtain ⟨c, hc, hq⟩ := hv
    rcases cdN_i hc with ⟨rfl, rfl⟩
    · exact ⟨fun h => absurd h (by decide), fun _ => ⟨_, hL_image_1, hq, (Nat.le_of_ble_eq_true rfl), (Nat.le_of_ble_eq_true rfl)⟩⟩
def rmL_restore : Room := { frames := 8, cells := 2, slots := 12, locals := 144 }
abbrev wzL_restore : List Cond := .codeWith yL_restore cL_restore 3 (some .int) [(0, 5, 8, 19), (0, 5, 11, 131)] :: zW
theorem kL_restore_142 : ∀ (s9 : State) (a9 : Array Value), (∀ w ∈ wzL_restore, w.before a9 s9 = true) → CallW rmL_restore s9 a9 RL RX11 142 yX11_restore cX11_restore 2 none wzX11_restore rmX11_restore 2 12 1 := zcV (zWi_18 _ (List.mem_of_getElem? (i := 11) rfl)) (zWi_13 _ (List.mem_of_getElem? (i := 25) rfl)) (zWi_26 _ (List.mem_of_getElem? (i := 17) rfl)) (zWi_12 _ (List.mem_of_getElem? (i := 12) rfl)) (zWi_2 _ (List.mem_of_getElem? (i := 2) rfl)) (by decide +kernel) rfl rfl ⟨Nat.le_of_ble_eq_true rfl, Nat.le_of_ble_eq_true rfl⟩
theorem hL_restore_1 : zHd cL_restore wzL_restore RL 3 2 0 1 := ⟨[], [⟨0, 5, 11, 131⟩], ⟨0, 5, 8, 19⟩, rfl, (fun z hz => absurd hz List.not_mem_nil), by decide, by decide, List.mem_cons_of_mem _ (zWi_0 _ (List.mem_of_getElem? (i := 8) rfl)), by decide +kernel, ⟨by decide, by decide⟩, Or.inr ⟨2, by decide, dL_restore_8, dL_restore_9, dL_restore_10⟩⟩
theorem hL_restore_2 : zHd cL_restore wzL_restore RL 3 2 2 2 := ⟨[⟨0, 5, 8, 19⟩], [], ⟨0, 5, 11, 131⟩, rfl, (List.forall_mem_cons.mpr ⟨⟨by decide, _, List.mem_cons_of_mem _ (zWi_0 _ (List.mem_of_getElem? (i := 8) rfl)), by decide +kernel⟩, (fun z hz => absurd hz List.not_mem_nil)⟩), by decide, by decide, List.mem_cons_of_mem _ (zWi_0 _ (List.mem_of_getElem? (i := 5) rfl)), by decide +kernel, ⟨by decide, by decide⟩, Or.inr ⟨2, by decide, dL_restore_11, dL_restore_12, dL_restore_13⟩⟩
def sp_L_restore (as : List zV) (M : zM) (Q : Option zV → zM → Prop) : Prop := ∃ (p0 : Int), as = [zR 0, zI p0] ∧ sp_X11_restore [zR 0, zI p0] M (hp cdR (fun k N => Q (some (zI k)) N))
set_option maxRecDepth 20000 in
set_option maxHeartbeats 4000000 in
theorem m_L_restore (l : Launch) : zCx l yL_restore wzL_restore rmL_restore 2 sp_L_restore := by
  refine zMet.ofH RL (by decide +kernel) rfl rfl ?_
  intro E X as M Qp hX S hsp
  obtain ⟨p0, rfl, hsp⟩ := hsp
  refine ⟨Nat.le_of_ble_eq_true rfl, ?_⟩
  dsimp only [zpad, zargs]
  refine zr_aload_n (pc := 0) S dL_restore_0 rfl ?_
  refine zr_iload_n (pc := 1) S dL_restore_1 rfl ?_
  refine zr_invVH (pc := 2) S [zI _] (m_X11_restore _) kL_restore_142 dL_restore_2 rfl (Nat.le_of_ble_eq_true rfl) rfl (Nat.le_of_ble_eq_true rfl) ⟨Nat.le_of_ble_eq_true rfl, Nat.le_of_ble_eq_true rfl⟩ rfl (mo_X11_restore (fun N hv => ?_) (fun k N hk hv => ?_) hsp)
  · refine zr_goto (pc := 5) (tgt := 14) S dL_restore_5 (by decide) ?_
    refine zr_iconst (pc := 14) S dL_restore_14 (by unfold zrI; omega) ?_
    exact zr_iret (pc := 15) S dL_restore_15 rfl ⟨Nat.le_of_ble_eq_true rfl, Nat.le_of_ble_eq_true rfl⟩ (hv)
  · obtain ⟨c, hc, hq⟩ := hv
    rcases cdR_i hc with ⟨rfl, rfl⟩ | ⟨rfl, rfl⟩
    · exact ⟨fun h => absurd h (by decide), fun _ => ⟨_, hL_restore_1, hq, (Nat.le_of_ble_eq_true rfl), (Nat.le_of_ble_eq_true rfl)⟩⟩
    · exact ⟨fun h => absurd h (by decide), fun _ => ⟨_, hL_restore_2, hq, (Nat.le_of_ble_eq_true rfl), (Nat.le_of_ble_eq_true rfl)⟩⟩
end
