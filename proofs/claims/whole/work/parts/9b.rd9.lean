section
theorem bm256 (x : Int) : x.bmod 256 % 256 = x % 256 := by
  unfold Int.bmod
  dsimp only
  split <;> omega
theorem fe5 {t : Nat → Int} {F p : Nat} {a b c d e : Int} : apT (apT (apT (apT (apT t F a 4) (F + 4) b 4) (F + 8) c 4) (F + 12) d 4) (F + 16) e 4 p % 256 = feT (fun q => t q % 256) F a b c d e 20 p := by
  unfold feT feW
  by_cases h : F ≤ p ∧ p < F + 20
  · rw [if_pos h]
    obtain ⟨k, rfl⟩ : ∃ k, p = F + k := ⟨p - F, by omega⟩
    have k20 : k < 20 := by omega
    rw [show F + k - F = k by omega]
    unfold apT
    by_cases k4 : k < 4
    · rw [if_neg (by omega), if_neg (by omega), if_neg (by omega), if_neg (by omega), if_pos (by omega), if_pos k4, bm256, show 24 - 8 * (F + k - F) = 24 - 8 * (k % 4) by omega]
    · by_cases k8 : k < 8
      · rw [if_neg (by omega), if_neg (by omega), if_neg (by omega), if_pos (by omega), if_neg k4, if_pos k8, bm256, show 24 - 8 * (F + k - (F + 4)) = 24 - 8 * (k % 4) by omega]
      · by_cases k12 : k < 12
        · rw [if_neg (by omega), if_neg (by omega), if_pos (by omega), if_neg k4, if_neg k8, if_pos k12, bm256, show 24 - 8 * (F + k - (F + 8)) = 24 - 8 * (k % 4) by omega]
        · by_cases k16 : k < 16
          · rw [if_neg (by omega), if_pos (by omega), if_neg k4, if_neg k8, if_neg k12, if_pos k16, bm256, show 24 - 8 * (F + k - (F + 12)) = 24 - 8 * (k % 4) by omega]
          · rw [if_pos (by omega), if_neg k4, if_neg k8, if_neg k12, if_neg k16, bm256, show 24 - 8 * (F + k - (F + 16)) = 24 - 8 * (k % 4) by omega]
  · rw [if_neg h]
    unfold apT
    rw [if_neg (by omega), if_neg (by omega), if_neg (by omega), if_neg (by omega), if_neg (by omega)]
theorem apS_f {M : zM} {T : Nat} {w : Int} : apS M T w 4 39 1 = ((T + 4 : Nat) : Int) := by
  unfold apS
  rw [zrow_o (by decide), zup_e]
  omega
theorem apS_t {M : zM} {T : Nat} {w : Int} : apS M T w 4 40 = apT (M 40) T w 4 := by
  unfold apS
  rw [zrow_e]
theorem apS_o {M : zM} {T k : Nat} {w : Int} (h1 : k ≠ 39) (h2 : k ≠ 40) : apS M T w 4 k = M k := by
  unfold apS
  rw [zrow_o h2, zup_o _ h1]
theorem apS_j {M : zM} {T j : Nat} {w : Int} (h : j ≠ 1) : apS M T w 4 39 j = M 39 j := by
  unfold apS
  rw [zrow_o (by decide), zup_j h]
def rmX11_feed : Room := { frames := 1, cells := 0, slots := 0, locals := 22 }
abbrev wzX11_feed : List Cond := .code yX11_feed cX11_feed 6 (some .int) :: zW
def rmX11_text : Room := { frames := 8, cells := 1, slots := 6, locals := 172 }
abbrev wzX11_text : List Cond := .code yX11_text cX11_text 2 (some .int) :: zW
theorem fX11_feed_33 : zfl wzX11_feed RX11 vwCl 33 11 4 := ⟨_, _, _, rfl, (fun w h => List.mem_cons_of_mem _ (zWuX11 w h)), by decide, List.mem_cons_of_mem _ (zWi_8 _ (List.mem_of_getElem? (i := 36) rfl))⟩
theorem fX11_feed_163 : zfl wzX11_feed RX11 vwCl 163 4 1 := ⟨_, _, _, rfl, (fun w h => List.mem_cons_of_mem _ (zWuX4 w h)), by decide, List.mem_cons_of_mem _ (zWi_8 _ (List.mem_of_getElem? (i := 13) rfl))⟩
theorem kX11_feed_156 : ∀ (s9 : State) (a9 : Array Value), (∀ w ∈ wzX11_feed, w.before a9 s9 = true) → CallW rmX11_feed s9 a9 RX11 RX4 156 yX4_hasRoom cX4_hasRoom 1 (some .boolean) wzX4_hasRoom rmX4_hasRoom 0 0 0 := zcV (zWi_21 _ (List.mem_of_getElem? (i := 6) rfl)) (zWi_16 _ (List.mem_of_getElem? (i := 7) rfl)) (zWi_28 _ (List.mem_of_getElem? (i := 37) rfl)) (zWi_12 _ (List.mem_of_getElem? (i := 16) rfl)) (zWi_4 _ (List.mem_of_getElem? (i := 41) rfl)) (by decide +kernel) rfl rfl ⟨Nat.le_of_ble_eq_true rfl, Nat.le_of_ble_eq_true rfl⟩
theorem kX11_feed_160 : ∀ (s9 : State) (a9 : Array Value), (∀ w ∈ wzX11_feed, w.before a9 s9 = true) → CallW rmX11_feed s9 a9 RX11 RX4 160 yX4_append cX4_append 3 none wzX4_append rmX4_append 0 0 1 := zcV (zWi_21 _ (List.mem_of_getElem? (i := 7) rfl)) (zWi_16 _ (List.mem_of_getElem? (i := 5) rfl)) (zWi_28 _ (List.mem_of_getElem? (i := 35) rfl)) (zWi_12 _ (List.mem_of_getElem? (i := 16) rfl)) (zWi_4 _ (List.mem_of_getElem? (i := 39) rfl)) (by decide +kernel) rfl rfl ⟨Nat.le_of_ble_eq_true rfl, Nat.le_of_ble_eq_true rfl⟩
theorem fX11_text_33 : zfl wzX11_text RX11 vwCl 33 11 4 := ⟨_, _, _, rfl, (fun w h => List.mem_cons_of_mem _ (zWuX11 w h)), by decide, List.mem_cons_of_mem _ (zWi_8 _ (List.mem_of_getElem? (i := 36) rfl))⟩
theorem fX11_text_163 : zfl wzX11_text RX11 vwCl 163 4 1 := ⟨_, _, _, rfl, (fun w h => List.mem_cons_of_mem _ (zWuX4 w h)), by decide, List.mem_cons_of_mem _ (zWi_8 _ (List.mem_of_getElem? (i := 13) rfl))⟩
theorem fX11_text_170 : zfl wzX11_text RX11 vwCl 170 4 2 := ⟨_, _, _, rfl, (fun w h => List.mem_cons_of_mem _ (zWuX4 w h)), by decide, List.mem_cons_of_mem _ (zWi_8 _ (List.mem_of_getElem? (i := 14) rfl))⟩
theorem fX11_text_10 : zfl wzX11_text RX11 vwCl 10 11 0 := ⟨_, _, _, rfl, (fun w h => List.mem_cons_of_mem _ (zWuX11 w h)), by decide, List.mem_cons_of_mem _ (zWi_8 _ (List.mem_of_getElem? (i := 6) rfl))⟩
theorem fX11_text_43 : zfl wzX11_text RX11 vwCl 43 8 1 := ⟨_, _, _, rfl, (fun w h => List.mem_cons_of_mem _ (zWuX8 w h)), by decide, List.mem_cons_of_mem _ (zWi_8 _ (List.mem_of_getElem? (i := 47) rfl))⟩
theorem fX11_text_173 : zfl wzX11_text RX11 vwCl 173 4 4 := ⟨_, _, _, rfl, (fun w h => List.mem_cons_of_mem _ (zWuX4 w h)), by decide, List.mem_cons_of_mem _ (zWi_8 _ (List.mem_of_getElem? (i := 15) rfl))⟩
theorem fX11_text_182 : zfl wzX11_text RX11 vwCl 182 2 0 := ⟨_, _, _, rfl, (fun w h => List.mem_cons_of_mem _ (zWuX2 w h)), by decide, List.mem_cons_of_mem _ (zWi_8 _ (List.mem_of_getElem? (i := 16) rfl))⟩
theorem kX11_text_93 : ∀ (s9 : State) (a9 : Array Value), (∀ w ∈ wzX11_text, w.before a9 s9 = true) → CallB rmX11_text s9 a9 RX11 93 yX11_within cX11_within 6 (some .boolean) wzX11_within rmX11_within 0 0 3 ∧ (Cond.static yX11_within).before a9 s9 = true := zcS (zWi_22 _ (List.mem_of_getElem? (i := 14) rfl)) (zWi_31 _ (List.mem_of_getElem? (i := 9) rfl)) (zWi_12 _ (List.mem_of_getElem? (i := 12) rfl)) (zWi_2 _ (List.mem_of_getElem? (i := 17) rfl)) (by decide +kernel) rfl rfl ⟨Nat.le_of_ble_eq_true rfl, Nat.le_of_ble_eq_true rfl⟩
theorem kX11_text_97 : ∀ (s9 : State) (a9 : Array Value), (∀ w ∈ wzX11_text, w.before a9 s9 = true) → CallB rmX11_text s9 a9 RX11 97 yX11_need cX11_need 1 none wzX11_need rmX11_need 1 6 1 ∧ (Cond.static yX11_need).before a9 s9 = true := zcS (zWi_22 _ (List.mem_of_getElem? (i := 15) rfl)) (zWi_31 _ (List.mem_of_getElem? (i := 6) rfl)) (zWi_12 _ (List.mem_of_getElem? (i := 12) rfl)) (zWi_1 _ (List.mem_of_getElem? (i := 40) rfl)) (by decide +kernel) rfl rfl ⟨Nat.le_of_ble_eq_true rfl, Nat.le_of_ble_eq_true rfl⟩
theorem kX11_text_167 : ∀ (s9 : State) (a9 : Array Value), (∀ w ∈ wzX11_text, w.before a9 s9 = true) → CallW rmX11_text s9 a9 RX11 RX4 167 yX4_read cX4_read 3 (some .boolean) wzX4_read rmX4_read 0 0 1 := zcV (zWi_21 _ (List.mem_of_getElem? (i := 8) rfl)) (zWi_16 _ (List.mem_of_getElem? (i := 13) rfl)) (zWi_28 _ (List.mem_of_getElem? (i := 42) rfl)) (zWi_12 _ (List.mem_of_getElem? (i := 16) rfl)) (zWi_4 _ (List.mem_of_getElem? (i := 47) rfl)) (by decide +kernel) rfl rfl ⟨Nat.le_of_ble_eq_true rfl, Nat.le_of_ble_eq_true rfl⟩
theorem kX11_text_176 : ∀ (s9 : State) (a9 : Array Value), (∀ w ∈ wzX11_text, w.before a9 s9 = true) → CallW rmX11_text s9 a9 RX11 RX2 176 yX2_copyFrom cX2_copyFrom 2 none wzX2_copyFrom rmX2_copyFrom 0 0 1 := zcV (zWi_21 _ (List.mem_of_getElem? (i := 9) rfl)) (zWi_15 _ (List.mem_of_getElem? (i := 47) rfl)) (zWi_28 _ (List.mem_of_getElem? (i := 29) rfl)) (zWi_12 _ (List.mem_of_getElem? (i := 14) rfl)) (zWi_4 _ (List.mem_of_getElem? (i := 30) rfl)) (by decide +kernel) rfl rfl ⟨Nat.le_of_ble_eq_true rfl, Nat.le_of_ble_eq_true rfl⟩
def sp_X11_feed (as : List zV) (M : zM) (Q : Option zV → zM → Prop) : Prop := ∃ (a b c d e : Int) (F : Nat), as = [zR 0, zI a, zI b, zI c, zI d, zI e] ∧ (M 39 1 = F) ∧ (F ≤ 400) ∧ (F + 20 ≤ 400 → ∀ M', (∀ k, k ≠ 39 → k ≠ 40 → M' k = M k) → (∀ j, j ≠ 1 → M' 39 j = M 39 j) → M' 39 1 = (F : Int) + 20 → (∀ p, cT M' p = feT (cT M) F a b c d e 20 p) → Q (some (zI ((F : Int) + 20))) M') ∧ (¬ F + 20 ≤ 400 → Q (some (zI (-1))) M)
theorem us_X11_feed {a b c d e : Int} {F : Nat} {M : zM} {Q : Option zV → zM → Prop} (hF : M 39 1 = F) (h4 : F ≤ 400) (hQ : F + 20 ≤ 400 → ∀ M', (∀ k, k ≠ 39 → k ≠ 40 → M' k = M k) → (∀ j, j ≠ 1 → M' 39 j = M 39 j) → M' 39 1 = (F : Int) + 20 → (∀ p, cT M' p = feT (cT M) F a b c d e 20 p) → Q (some (zI ((F : Int) + 20))) M') (hN : ¬ F + 20 ≤ 400 → Q (some (zI (-1))) M) : sp_X11_feed [zR 0, zI a, zI b, zI c, zI d, zI e] M Q := ⟨a, b, c, d, e, F, rfl, hF, h4, hQ, hN⟩
set_option maxRecDepth 20000 in
set_option maxHeartbeats 4000000 in
theorem m_X11_feed (l : Launch) : zC l yX11_feed wzX11_feed rmX11_feed sp_X11_feed := by
  refine zMet.of RX11 (by decide +kernel) rfl rfl ?_
  intro E X as M Qp hX S hsp
  obtain ⟨a, b, c, d, e, F, rfl, hF, h4, hQ, hN⟩ := hsp
  refine ⟨Nat.le_of_ble_eq_true rfl, ?_⟩
  dsimp only [zpad, zargs]
  by_cases c9 : F + 20 ≤ 400
  · have q := hQ c9 (apS (apS (apS (apS (apS M F a 4) (F + 4) b 4) (F + 8) c 4) (F + 12) d 4) (F + 16) e 4) (fun k h1 h2 => by rw [apS_o h1 h2, apS_o h1 h2, apS_o h1 h2, apS_o h1 h2, apS_o h1 h2]) (fun j hj => by rw [apS_j hj, apS_j hj, apS_j hj, apS_j hj, apS_j hj]) (by rw [apS_f]; omega) (fun p => by
      show apS (apS (apS (apS (apS M F a 4) (F + 4) b 4) (F + 8) c 4) (F + 12) d 4) (F + 16) e 4 40 p % 256 = _
      rw [apS_t, apS_t, apS_t, apS_t, apS_t]
      exact fe5)
    have cb : M 39 1 + 20 ≤ 400 := by omega
    refine zr_aload_n (pc := 0) S dX11_feed_0 rfl ?_
    refine zr_getR (pc := 1) S fX11_feed_33 dX11_feed_1 rfl (Nat.le_of_ble_eq_true rfl) rfl ?_
    refine zr_invV (pc := 4) S [] (m_X4_hasRoom _) kX11_feed_156 dX11_feed_4 rfl (Nat.le_of_ble_eq_true rfl) rfl (Nat.le_of_ble_eq_true rfl) ⟨Nat.le_of_ble_eq_true rfl, Nat.le_of_ble_eq_true rfl⟩ (us_X4_hasRoom (by omega) ?_)
    dsimp only [zaft, Option.toList, List.cons_append, List.nil_append, Nat.add_zero]
    rw [b01_t cb]
    refine zr_if_ne (pc := 7) (tgt := 12) S dX11_feed_7 (by decide) (fun c7 => ?_) (fun c7 => absurd c7 (by omega))
    refine zr_aload_n (pc := 12) S dX11_feed_12 rfl ?_
    refine zr_getR (pc := 13) S fX11_feed_33 dX11_feed_13 rfl (Nat.le_of_ble_eq_true rfl) rfl ?_
    refine zr_iload_n (pc := 16) S dX11_feed_16 rfl ?_
    refine zr_invV (pc := 17) S [zI _] (m_X4_append _) kX11_feed_160 dX11_feed_17 rfl (Nat.le_of_ble_eq_true rfl) rfl (Nat.le_of_ble_eq_true rfl) ⟨Nat.le_of_ble_eq_true rfl, Nat.le_of_ble_eq_true rfl⟩ (us_X4_append (T := F) hF (by omega) ?_)
    dsimp only [zaft, Option.toList, List.cons_append, List.nil_append, Nat.add_zero]
    refine zr_aload_n (pc := 20) S dX11_feed_20 rfl ?_
    refine zr_getR (pc := 21) S fX11_feed_33 dX11_feed_21 rfl (Nat.le_of_ble_eq_true rfl) rfl ?_
    refine zr_iload_n (pc := 24) S dX11_feed_24 rfl ?_
    refine zr_invV (pc := 25) S [zI _] (m_X4_append _) kX11_feed_160 dX11_feed_25 rfl (Nat.le_of_ble_eq_true rfl) rfl (Nat.le_of_ble_eq_true rfl) ⟨Nat.le_of_ble_eq_true rfl, Nat.le_of_ble_eq_true rfl⟩ (us_X4_append (T := F + 4) apS_f (by omega) ?_)
    dsimp only [zaft, Option.toList, List.cons_append, List.nil_append, Nat.add_zero]
    refine zr_aload_n (pc := 28) S dX11_feed_28 rfl ?_
    refine zr_getR (pc := 29) S fX11_feed_33 dX11_feed_29 rfl (Nat.le_of_ble_eq_true rfl) rfl ?_
    refine zr_iload_n (pc := 32) S dX11_feed_32 rfl ?_
    refine zr_invV (pc := 33) S [zI _] (m_X4_append _) kX11_feed_160 dX11_feed_33 rfl (Nat.le_of_ble_eq_true rfl) rfl (Nat.le_of_ble_eq_true rfl) ⟨Nat.le_of_ble_eq_true rfl, Nat.le_of_ble_eq_true rfl⟩ (us_X4_append (T := F + 8) apS_f (by omega) ?_)
    dsimp only [zaft, Option.toList, List.cons_append, List.nil_append, Nat.add_zero]
    refine zr_aload_n (pc := 36) S dX11_feed_36 rfl ?_
    refine zr_getR (pc := 37) S fX11_feed_33 dX11_feed_37 rfl (Nat.le_of_ble_eq_true rfl) rfl ?_
    refine zr_iload (pc := 40) S dX11_feed_40 rfl ?_
    refine zr_invV (pc := 42) S [zI _] (m_X4_append _) kX11_feed_160 dX11_feed_42 rfl (Nat.le_of_ble_eq_true rfl) rfl (Nat.le_of_ble_eq_true rfl) ⟨Nat.le_of_ble_eq_true rfl, Nat.le_of_ble_eq_true rfl⟩ (us_X4_append (T := F + 12) apS_f (by omega) ?_)
    dsimp only [zaft, Option.toList, List.cons_append, List.nil_append, Nat.add_zero]
    refine zr_aload_n (pc := 45) S dX11_feed_45 rfl ?_
    refine zr_getR (pc := 46) S fX11_feed_33 dX11_feed_46 rfl (Nat.le_of_ble_eq_true rfl) rfl ?_
    refine zr_iload (pc := 49) S dX11_feed_49 rfl ?_
    refine zr_invV (pc := 51) S [zI _] (m_X4_append _) kX11_feed_160 dX11_feed_51 rfl (Nat.le_of_ble_eq_true rfl) rfl (Nat.le_of_ble_eq_true rfl) ⟨Nat.le_of_ble_eq_true rfl, Nat.le_of_ble_eq_true rfl⟩ (us_X4_append (T := F + 16) apS_f (by omega) ?_)
    dsimp only [zaft, Option.toList, List.cons_append, List.nil_append, Nat.add_zero]
    refine zr_aload_n (pc := 54) S dX11_feed_54 rfl ?_
    refine zr_getR (pc := 55) S fX11_feed_33 dX11_feed_55 rfl (Nat.le_of_ble_eq_true rfl) rfl ?_
    refine zr_getI (pc := 58) S fX11_feed_163 dX11_feed_58 rfl (Nat.le_of_ble_eq_true rfl) rfl ?_
    rw [apS_f]
    exact zr_iret (pc := 61) S dX11_feed_61 rfl ⟨Nat.le_refl _, Nat.le_refl _⟩ (zqi q (by omega))
  · have q := hN c9
    have cb : ¬ M 39 1 + 20 ≤ 400 := by omega
    refine zr_aload_n (pc := 0) S dX11_feed_0 rfl ?_
    refine zr_getR (pc := 1) S fX11_feed_33 dX11_feed_1 rfl (Nat.le_of_ble_eq_true rfl) rfl ?_
    refine zr_invV (pc := 4) S [] (m_X4_hasRoom _) kX11_feed_156 dX11_feed_4 rfl (Nat.le_of_ble_eq_true rfl) rfl (Nat.le_of_ble_eq_true rfl) ⟨Nat.le_of_ble_eq_true rfl, Nat.le_of_ble_eq_true rfl⟩ (us_X4_hasRoom (by omega) ?_)
    dsimp only [zaft, Option.toList, List.cons_append, List.nil_append, Nat.add_zero]
    rw [b01_f cb]
    refine zr_if_ne (pc := 7) (tgt := 12) S dX11_feed_7 (by decide) (fun c7 => absurd c7 (by omega)) (fun c7 => ?_)
    refine zr_iconst (pc := 10) S dX11_feed_10 (by unfold zrI; omega) ?_
    exact zr_iret (pc := 11) S dX11_feed_11 rfl ⟨Nat.le_refl _, Nat.le_refl _⟩ (q)
/-- the class's gates hold those of L -/
def gtL (U : zM) (L : List Int) : Prop := ∀ g, 7 * g + 7 ≤ L.length → U 12 g = L.getD (7 * g) 0 ∧ U 13 g = L.getD (7 * g + 1) 0 ∧ U 14 g = L.getD (7 * g + 2) 0 ∧ U 15 g = gcode (L.getD (7 * g + 3) 0) (L.getD (7 * g + 4) 0) ∧ U 16 g = gcode (L.getD (7 * g + 5) 0) (L.getD (7 * g + 6) 0)
theorem pText_r {t : Nat → Int} {n : Nat} : ∀ (f : Nat) (L : List Int) (p : Nat) (z : Int × Int), pText t n f L p = .inl z → 1 ≤ z.1 ∧ z.1 ≤ 5
  | 0, L, p, z, h => by
    unfold pText at h
    split at h
    · cases h
    · cases h
      exact blP_r (by split <;> decide)
  | f + 1, L, p, z, h => by
    unfold pText at h
    split at h
    · cases h
    · have ok := pGate_ok t n p
      rcases hG : pGate t n p with w | ⟨G, q⟩
      · rw [hG] at h ok
        cases h
        exact ok
      · rw [hG] at h
        exact pText_r f _ _ z h
theorem csG_c {M : zM} {i j : Nat} (h : csG i j = true) : cpS M 11 41 csG (11 + i) j = M (41 + i) j := by
  unfold cpS
  rw [if_pos ⟨by omega, by rw [show 11 + i - 11 = i by omega]; exact h⟩, show 11 + i - 11 = i by omega]
theorem csG_o {M : zM} {k : Nat} (h : k < 11 ∨ 16 < k) : cpS M 11 41 csG k = M k := by
  funext j
  unfold cpS
  rw [if_neg]
  intro z
  have := csG_r _ _ z.2
  omega
def sp_X11_text (as : List zV) (M : zM) (Q : Option zV → zM → Prop) : Prop := ∃ (nn : Int) (F : Nat), as = [zR 0, zI nn] ∧ (M 39 1 = F) ∧ (F ≤ 400) ∧ (¬ (0 ≤ nn ∧ nn ≤ F) → Q (some (zR 3001)) M) ∧ ((0 ≤ nn ∧ nn ≤ F) → ∀ f, pText (cT M) nn.toNat 8 [] 0 = .inl f → ∀ M', rX M M' → flR M' f → Q (some (zI (-10 - f.1))) M') ∧ ((0 ≤ nn ∧ nn ≤ F) → ∀ L, pText (cT M) nn.toNat 8 [] 0 = .inr L → ∀ (k : Nat) M', k ≤ 8 → L.length = 7 * k → (∀ c, c ≠ 39 → (c < 41 ∨ 46 < c) → (c < 11 ∨ 16 < c) → M' c = M c) → M' 39 1 = 0 → flR M' (0, -1) → M' 11 0 = k → gtL M' L → (drV M → drV M') → (∀ g, g < 8 → M' 12 g = M' 42 g ∧ M' 13 g = M' 43 g ∧ M' 14 g = M' 44 g ∧ M' 15 g = M' 45 g ∧ M' 16 g = M' 46 g) → Q (some (zI k)) M')
theorem us_X11_text {nn : Int} {F : Nat} {M : zM} {Q : Option zV → zM → Prop} (hf : M 39 1 = F) (h4 : F ≤ 400) (hT : ¬ (0 ≤ nn ∧ nn ≤ F) → Q (some (zR 3001)) M) (hF : (0 ≤ nn ∧ nn ≤ F) → ∀ f, pText (cT M) nn.toNat 8 [] 0 = .inl f → ∀ M', rX M M' → flR M' f → Q (some (zI (-10 - f.1))) M') (hY : (0 ≤ nn ∧ nn ≤ F) → ∀ L, pText (cT M) nn.toNat 8 [] 0 = .inr L → ∀ (k : Nat) M', k ≤ 8 → L.length = 7 * k → (∀ c, c ≠ 39 → (c < 41 ∨ 46 < c) → (c < 11 ∨ 16 < c) → M' c = M c) → M' 39 1 = 0 → flR M' (0, -1) → M' 11 0 = k → gtL M' L → (drV M → drV M') → (∀ g, g < 8 → M' 12 g = M' 42 g ∧ M' 13 g = M' 43 g ∧ M' 14 g = M' 44 g ∧ M' 15 g = M' 45 g ∧ M' 16 g = M' 46 g) → Q (some (zI k)) M') : sp_X11_text [zR 0, zI nn] M Q := ⟨nn, F, rfl, hf, h4, hT, hF, hY⟩
set_option maxRecDepth 20000 in
set_option maxHeartbeats 4000000 in
theorem m_X11_text (l : Launch) : zCx l yX11_text wzX11_text rmX11_text 1 sp_X11_text := by
  refine zMet.of RX11 (by decide +kernel) rfl rfl ?_
  intro E X as M Qp hX S hsp
  obtain ⟨nn, F, rfl, hf, h4, hT, hF, hY⟩ := hsp
  refine ⟨Nat.le_of_ble_eq_true rfl, ?_⟩
  dsimp only [zpad, zargs]
  have k17 : (0 ≤ nn ∧ nn ≤ F) → zK (zg E) rmX11_text 2 (Qp, 1, 6 * 1) X (0 + 1, 0 + 6 * 1) 17 [some (zR 0), some (zI nn)] [] M := by
    intro c
    obtain ⟨n, rfl⟩ : ∃ n : Nat, nn = n := ⟨nn.toNat, by omega⟩
    rw [Int.toNat_natCast] at hF hY
    have hF := hF c
    have hY := hY c
    have kF : ∀ f, pText (cT M) n 8 [] 0 = .inl f → ∀ M', rX M M' → flR M' f → zK (zg E) rmX11_text 2 (Qp, 1, 6 * 1) X (0 + 1, 0 + 6 * 1) 25 [some (zR 0), some (zI n)] [zI 0] M' := by
      intro f hp N oN fN
      have q := hF f hp N oN fN
      have f1 := fN.1
      have f5 := pText_r _ _ _ _ hp
      refine zr_if_ne (pc := 25) (tgt := 39) S dX11_text_25 (by decide) (fun c25 => absurd c25 (by omega)) (fun c25 => ?_)
      refine zr_bipush (pc := 28) S dX11_text_28 ⟨by unfold zrI; omega, by decide⟩ ?_
      refine zr_aload_n (pc := 30) S dX11_text_30 rfl ?_
      refine zr_getR (pc := 31) S fX11_text_33 dX11_text_31 rfl (Nat.le_of_ble_eq_true rfl) rfl ?_
      refine zr_getI (pc := 34) S fX11_text_170 dX11_text_34 rfl (Nat.le_of_ble_eq_true rfl) rfl ?_
      rw [f1]
      refine zr_isub (pc := 37) S dX11_text_37 (by unfold zrI; omega) ?_
      exact zr_iret (pc := 38) S dX11_text_38 rfl ⟨Nat.le_of_ble_eq_true rfl, Nat.le_of_ble_eq_true rfl⟩ (q)
    have kY : ∀ L, pText (cT M) n 8 [] 0 = .inr L → ∀ (k : Nat) M', k ≤ 8 → L.length = 7 * k → rX M M' → flR M' (0, -1) → M' 41 0 = k → drL M' L → zK (zg E) rmX11_text 2 (Qp, 1, 6 * 1) X (0 + 1, 0 + 6 * 1) 25 [some (zR 0), some (zI n)] [zI 1] M' := by
      intro L hp k N h8 hL oN fN mN dN
      have e0 : cpS N 11 41 csG 11 0 = k := by rw [csG_c (i := 0) (by decide)]; exact mN
      have q := hY L hp k (cpS N 11 41 csG) h8 hL (fun c c1 c2 c3 => by rw [csG_o c3]; exact oN.1 c c1 c2) (by rw [csG_o (by decide)]; exact oN.2.1) (by unfold flR; rw [csG_o (by decide)]; exact fN) e0 (fun g hg => by
        have g8 : g < 8 := by omega
        have d := dN g hg
        rw [csG_c (i := 1) (by simp [csG, g8]), csG_c (i := 2) (by simp [csG, g8]), csG_c (i := 3) (by simp [csG, g8]), csG_c (i := 4) (by simp [csG, g8]), csG_c (i := 5) (by simp [csG, g8])]
        exact d) (fun z => drV.o (fun k a b => csG_o (by omega)) (oN.2.2 z)) (fun g g8 => by
        rw [csG_o (k := 42) (by decide), csG_o (k := 43) (by decide), csG_o (k := 44) (by decide), csG_o (k := 45) (by decide), csG_o (k := 46) (by decide)]
        exact ⟨csG_c (i := 1) (by simp [csG, g8]), csG_c (i := 2) (by simp [csG, g8]), csG_c (i := 3) (by simp [csG, g8]), csG_c (i := 4) (by simp [csG, g8]), csG_c (i := 5) (by simp [csG, g8])⟩)
      refine zr_if_ne (pc := 25) (tgt := 39) S dX11_text_25 (by decide) (fun c25 => ?_) (fun c25 => absurd c25 (by omega))
      refine zr_aload_n (pc := 39) S dX11_text_39 rfl ?_
      refine zr_getR (pc := 40) S fX11_text_10 dX11_text_40 rfl (Nat.le_of_ble_eq_true rfl) rfl ?_
      refine zr_getR (pc := 43) S fX11_text_43 dX11_text_43 rfl (Nat.le_of_ble_eq_true rfl) rfl ?_
      refine zr_aload_n (pc := 46) S dX11_text_46 rfl ?_
      refine zr_getR (pc := 47) S fX11_text_33 dX11_text_47 rfl (Nat.le_of_ble_eq_true rfl) rfl ?_
      refine zr_getR (pc := 50) S fX11_text_173 dX11_text_50 rfl (Nat.le_of_ble_eq_true rfl) rfl ?_
      refine zr_invV (pc := 53) S [zR _] (m_X2_copyFrom _) kX11_text_176 dX11_text_53 rfl (Nat.le_of_ble_eq_true rfl) rfl (Nat.le_of_ble_eq_true rfl) ⟨Nat.le_of_ble_eq_true rfl, Nat.le_of_ble_eq_true rfl⟩ (us_X2_copyFrom (by decide) ?_)
      dsimp only [zaft, Option.toList, List.cons_append, List.nil_append, Nat.add_zero]
      refine zr_aload_n (pc := 56) S dX11_text_56 rfl ?_
      refine zr_getR (pc := 57) S fX11_text_10 dX11_text_57 rfl (Nat.le_of_ble_eq_true rfl) rfl ?_
      refine zr_getR (pc := 60) S fX11_text_43 dX11_text_60 rfl (Nat.le_of_ble_eq_true rfl) rfl ?_
      refine zr_getI (pc := 63) S fX11_text_182 dX11_text_63 rfl (Nat.le_of_ble_eq_true rfl) rfl ?_
      rw [e0]
      exact zr_iret (pc := 66) S dX11_text_66 rfl ⟨Nat.le_of_ble_eq_true rfl, Nat.le_of_ble_eq_true rfl⟩ (q)
    rcases hP : pText (cT M) n 8 [] 0 with f | L
    · refine zr_aload_n (pc := 17) S dX11_text_17 rfl ?_
      refine zr_getR (pc := 18) S fX11_text_33 dX11_text_18 rfl (Nat.le_of_ble_eq_true rfl) rfl ?_
      refine zr_iload_n (pc := 21) S dX11_text_21 rfl ?_
      refine zr_invV (pc := 22) S [zI _] (m_X4_read _) kX11_text_167 dX11_text_22 rfl (Nat.le_of_ble_eq_true rfl) rfl (Nat.le_of_ble_eq_true rfl) ⟨Nat.le_of_ble_eq_true rfl, Nat.le_of_ble_eq_true rfl⟩ (us_X4_read (F := F) hf h4 (by omega) (fun f' hf' N oN fN => ?_) (fun L hL => absurd (hP.symm.trans hL) (by simp)))
      dsimp only [zaft, Option.toList, List.cons_append, List.nil_append, Nat.add_zero]
      exact kF f' hf' N oN fN
    · refine zr_aload_n (pc := 17) S dX11_text_17 rfl ?_
      refine zr_getR (pc := 18) S fX11_text_33 dX11_text_18 rfl (Nat.le_of_ble_eq_true rfl) rfl ?_
      refine zr_iload_n (pc := 21) S dX11_text_21 rfl ?_
      refine zr_invV (pc := 22) S [zI _] (m_X4_read _) kX11_text_167 dX11_text_22 rfl (Nat.le_of_ble_eq_true rfl) rfl (Nat.le_of_ble_eq_true rfl) ⟨Nat.le_of_ble_eq_true rfl, Nat.le_of_ble_eq_true rfl⟩ (us_X4_read (F := F) hf h4 (by omega) (fun f' hf' => absurd (hP.symm.trans hf') (by simp)) (fun L' hL' k N h8 hl oN fN mN dN => ?_))
      dsimp only [zaft, Option.toList, List.cons_append, List.nil_append, Nat.add_zero]
      exact kY L' hL' k N h8 hl oN fN mN dN
  refine zr_iload_n (pc := 0) S dX11_text_0 rfl ?_
  refine zr_i2l (pc := 1) S dX11_text_1 ?_
  refine zr_lconst0 (pc := 2) S dX11_text_2 ?_
  refine zr_aload_n (pc := 3) S dX11_text_3 rfl ?_
  refine zr_getR (pc := 4) S fX11_text_33 dX11_text_4 rfl (Nat.le_of_ble_eq_true rfl) rfl ?_
  refine zr_getI (pc := 7) S fX11_text_163 dX11_text_7 rfl (Nat.le_of_ble_eq_true rfl) rfl ?_
  rw [hf]
  refine zr_i2l (pc := 10) S dX11_text_10 ?_
  refine zr_invS (pc := 11) S [zL _, zL _, zL _] (m_X11_within _) kX11_text_93 dX11_text_11 (Nat.le_of_ble_eq_true rfl) ⟨Nat.le_of_ble_eq_true rfl, Nat.le_of_ble_eq_true rfl⟩ (us_X11_within ?_)
  dsimp only [zaft, Option.toList, List.cons_append, List.nil_append, Nat.add_zero]
  refine zr_invS (pc := 14) S [zI _] (m_X11_need _) kX11_text_97 dX11_text_14 (Nat.le_of_ble_eq_true rfl) ⟨Nat.le_of_ble_eq_true rfl, Nat.le_of_ble_eq_true rfl⟩ (us_X11_need (fun c14 => ?_) (fun c14 => zaft_thr (by omega) ⟨Nat.le_of_ble_eq_true rfl, Nat.le_of_ble_eq_true rfl⟩ (hT (b01_0.mp c14))))
  dsimp only [zaft, Option.toList, List.cons_append, List.nil_append, Nat.add_zero]
  rw [b01_0, Classical.not_not] at c14
  exact k17 c14
end
