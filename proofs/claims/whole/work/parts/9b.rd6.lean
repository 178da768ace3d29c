section
def rmX4_readGate : Room := { frames := 6, cells := 0, slots := 0, locals := 129 }
abbrev wzX4_readGate : List Cond := .code yX4_readGate cX4_readGate 2 (some .boolean) :: zW
def rmX4_read : Room := { frames := 7, cells := 0, slots := 0, locals := 150 }
abbrev wzX4_read : List Cond := .code yX4_read cX4_read 3 (some .boolean) :: zW
theorem fX4_readGate_22 : zfl wzX4_readGate RX4 vwCl 22 4 4 := ⟨_, _, _, rfl, (fun w h => List.mem_cons_of_mem _ (zWuX4 w h)), by decide, List.mem_cons_of_mem _ (zWi_10 _ (List.mem_of_getElem? (i := 12) rfl))⟩
theorem fX4_readGate_44 : zfl wzX4_readGate RX4 vwCl 44 2 0 := ⟨_, _, _, rfl, (fun w h => List.mem_cons_of_mem _ (zWuX2 w h)), by decide, List.mem_cons_of_mem _ (zWi_10 _ (List.mem_of_getElem? (i := 17) rfl))⟩
theorem fX4_readGate_78 : zfl wzX4_readGate RX4 vwCl 78 2 4 := ⟨_, _, _, rfl, (fun w h => List.mem_cons_of_mem _ (zWuX2 w h)), by decide, List.mem_cons_of_mem _ (zWi_10 _ (List.mem_of_getElem? (i := 19) rfl))⟩
theorem fX4_readGate_87 : zfl wzX4_readGate RX4 vwCl 87 2 5 := ⟨_, _, _, rfl, (fun w h => List.mem_cons_of_mem _ (zWuX2 w h)), by decide, List.mem_cons_of_mem _ (zWi_10 _ (List.mem_of_getElem? (i := 20) rfl))⟩
theorem fX4_readGate_50 : zfl wzX4_readGate RX4 vwCl 50 4 6 := ⟨_, _, _, rfl, (fun w h => List.mem_cons_of_mem _ (zWuX4 w h)), by decide, List.mem_cons_of_mem _ (zWi_10 _ (List.mem_of_getElem? (i := 18) rfl))⟩
theorem pX4_readGate_44 : zfp wzX4_readGate RX4 vwCl 44 2 0 := ⟨_, _, _, _, rfl, (fun w h => List.mem_cons_of_mem _ (zWuX2 w h)), by decide, List.mem_cons_of_mem _ (zWi_10 _ (List.mem_of_getElem? (i := 17) rfl)), tyX2_ok, nmX2, rfl, by decide +kernel⟩
theorem kX4_readGate_59 : ∀ (s9 : State) (a9 : Array Value), (∀ w ∈ wzX4_readGate, w.before a9 s9 = true) → CallW rmX4_readGate s9 a9 RX4 RX4 59 yX4_isWord cX4_isWord 3 (some .boolean) wzX4_isWord rmX4_isWord 0 0 1 := zcV (zWi_23 _ (List.mem_of_getElem? (i := 49) rfl)) (zWi_16 _ (List.mem_of_getElem? (i := 11) rfl)) (zWi_28 _ (List.mem_of_getElem? (i := 40) rfl)) (zWi_12 _ (List.mem_of_getElem? (i := 16) rfl)) (zWi_4 _ (List.mem_of_getElem? (i := 45) rfl)) (by decide +kernel) rfl rfl ⟨Nat.le_of_ble_eq_true rfl, Nat.le_of_ble_eq_true rfl⟩
theorem kX4_readGate_63 : ∀ (s9 : State) (a9 : Array Value), (∀ w ∈ wzX4_readGate, w.before a9 s9 = true) → CallW rmX4_readGate s9 a9 RX4 RX4 63 yX4_blame cX4_blame 2 (some .boolean) wzX4_blame rmX4_blame 0 0 1 := zcV (zWi_24 _ (List.mem_of_getElem? (i := 0) rfl)) (zWi_16 _ (List.mem_of_getElem? (i := 6) rfl)) (zWi_28 _ (List.mem_of_getElem? (i := 36) rfl)) (zWi_12 _ (List.mem_of_getElem? (i := 16) rfl)) (zWi_4 _ (List.mem_of_getElem? (i := 40) rfl)) (by decide +kernel) rfl rfl ⟨Nat.le_of_ble_eq_true rfl, Nat.le_of_ble_eq_true rfl⟩
theorem kX4_readGate_47 : ∀ (s9 : State) (a9 : Array Value), (∀ w ∈ wzX4_readGate, w.before a9 s9 = true) → CallW rmX4_readGate s9 a9 RX4 RX4 47 yX4_advance cX4_advance 1 none wzX4_advance rmX4_advance 0 0 0 := zcV (zWi_23 _ (List.mem_of_getElem? (i := 47) rfl)) (zWi_16 _ (List.mem_of_getElem? (i := 4) rfl)) (zWi_28 _ (List.mem_of_getElem? (i := 34) rfl)) (zWi_12 _ (List.mem_of_getElem? (i := 16) rfl)) (zWi_4 _ (List.mem_of_getElem? (i := 38) rfl)) (by decide +kernel) rfl rfl ⟨Nat.le_of_ble_eq_true rfl, Nat.le_of_ble_eq_true rfl⟩
theorem kX4_readGate_67 : ∀ (s9 : State) (a9 : Array Value), (∀ w ∈ wzX4_readGate, w.before a9 s9 = true) → CallW rmX4_readGate s9 a9 RX4 RX4 67 yX4_readMeasure cX4_readMeasure 2 (some .boolean) wzX4_readMeasure rmX4_readMeasure 0 0 1 := zcV (zWi_24 _ (List.mem_of_getElem? (i := 1) rfl)) (zWi_16 _ (List.mem_of_getElem? (i := 17) rfl)) (zWi_28 _ (List.mem_of_getElem? (i := 46) rfl)) (zWi_12 _ (List.mem_of_getElem? (i := 16) rfl)) (zWi_5 _ (List.mem_of_getElem? (i := 1) rfl)) (by decide +kernel) rfl rfl ⟨Nat.le_of_ble_eq_true rfl, Nat.le_of_ble_eq_true rfl⟩
theorem kX4_readGate_70 : ∀ (s9 : State) (a9 : Array Value), (∀ w ∈ wzX4_readGate, w.before a9 s9 = true) → CallW rmX4_readGate s9 a9 RX4 RX4 70 yX4_readBounds cX4_readBounds 2 (some .boolean) wzX4_readBounds rmX4_readBounds 0 0 1 := zcV (zWi_24 _ (List.mem_of_getElem? (i := 2) rfl)) (zWi_16 _ (List.mem_of_getElem? (i := 14) rfl)) (zWi_28 _ (List.mem_of_getElem? (i := 43) rfl)) (zWi_12 _ (List.mem_of_getElem? (i := 16) rfl)) (zWi_4 _ (List.mem_of_getElem? (i := 48) rfl)) (by decide +kernel) rfl rfl ⟨Nat.le_of_ble_eq_true rfl, Nat.le_of_ble_eq_true rfl⟩
theorem kX4_readGate_75 : ∀ (s9 : State) (a9 : Array Value), (∀ w ∈ wzX4_readGate, w.before a9 s9 = true) → CallW rmX4_readGate s9 a9 RX4 RX4 75 yX4_passWord cX4_passWord 2 (some .boolean) wzX4_passWord rmX4_passWord 0 0 1 := zcV (zWi_24 _ (List.mem_of_getElem? (i := 3) rfl)) (zWi_16 _ (List.mem_of_getElem? (i := 12) rfl)) (zWi_28 _ (List.mem_of_getElem? (i := 41) rfl)) (zWi_12 _ (List.mem_of_getElem? (i := 16) rfl)) (zWi_4 _ (List.mem_of_getElem? (i := 46) rfl)) (by decide +kernel) rfl rfl ⟨Nat.le_of_ble_eq_true rfl, Nat.le_of_ble_eq_true rfl⟩
theorem kX4_readGate_81 : ∀ (s9 : State) (a9 : Array Value), (∀ w ∈ wzX4_readGate, w.before a9 s9 = true) → CallW rmX4_readGate s9 a9 RX4 RX4 81 yX4_readGoal cX4_readGoal 3 (some .boolean) wzX4_readGoal rmX4_readGoal 0 0 2 := zcV (zWi_24 _ (List.mem_of_getElem? (i := 4) rfl)) (zWi_16 _ (List.mem_of_getElem? (i := 16) rfl)) (zWi_28 _ (List.mem_of_getElem? (i := 45) rfl)) (zWi_12 _ (List.mem_of_getElem? (i := 16) rfl)) (zWi_5 _ (List.mem_of_getElem? (i := 0) rfl)) (by decide +kernel) rfl rfl ⟨Nat.le_of_ble_eq_true rfl, Nat.le_of_ble_eq_true rfl⟩
theorem fX4_read_26 : zfl wzX4_read RX4 vwCl 26 4 1 := ⟨_, _, _, rfl, (fun w h => List.mem_cons_of_mem _ (zWuX4 w h)), by decide, List.mem_cons_of_mem _ (zWi_10 _ (List.mem_of_getElem? (i := 13) rfl))⟩
theorem pX4_read_35 : zfp wzX4_read RX4 vwCl 35 4 5 := ⟨_, _, _, _, rfl, (fun w h => List.mem_cons_of_mem _ (zWuX4 w h)), by decide, List.mem_cons_of_mem _ (zWi_10 _ (List.mem_of_getElem? (i := 14) rfl)), tyX4_ok, nmX4, rfl, by decide +kernel⟩
theorem pX4_read_26 : zfp wzX4_read RX4 vwCl 26 4 1 := ⟨_, _, _, _, rfl, (fun w h => List.mem_cons_of_mem _ (zWuX4 w h)), by decide, List.mem_cons_of_mem _ (zWi_10 _ (List.mem_of_getElem? (i := 13) rfl)), tyX4_ok, nmX4, rfl, by decide +kernel⟩
theorem pX4_read_38 : zfp wzX4_read RX4 vwCl 38 4 8 := ⟨_, _, _, _, rfl, (fun w h => List.mem_cons_of_mem _ (zWuX4 w h)), by decide, List.mem_cons_of_mem _ (zWi_10 _ (List.mem_of_getElem? (i := 15) rfl)), tyX4_ok, nmX4, rfl, by decide +kernel⟩
theorem pX4_read_41 : zfp wzX4_read RX4 vwCl 41 4 2 := ⟨_, _, _, _, rfl, (fun w h => List.mem_cons_of_mem _ (zWuX4 w h)), by decide, List.mem_cons_of_mem _ (zWi_10 _ (List.mem_of_getElem? (i := 16) rfl)), tyX4_ok, nmX4, rfl, by decide +kernel⟩
theorem pX4_read_15 : zfp wzX4_read RX4 vwCl 15 4 3 := ⟨_, _, _, _, rfl, (fun w h => List.mem_cons_of_mem _ (zWuX4 w h)), by decide, List.mem_cons_of_mem _ (zWi_10 _ (List.mem_of_getElem? (i := 11) rfl)), tyX4_ok, nmX4, rfl, by decide +kernel⟩
theorem fX4_read_22 : zfl wzX4_read RX4 vwCl 22 4 4 := ⟨_, _, _, rfl, (fun w h => List.mem_cons_of_mem _ (zWuX4 w h)), by decide, List.mem_cons_of_mem _ (zWi_10 _ (List.mem_of_getElem? (i := 12) rfl))⟩
theorem pX4_read_44 : zfp wzX4_read RX4 vwCl 44 2 0 := ⟨_, _, _, _, rfl, (fun w h => List.mem_cons_of_mem _ (zWuX2 w h)), by decide, List.mem_cons_of_mem _ (zWi_10 _ (List.mem_of_getElem? (i := 17) rfl)), tyX2_ok, nmX2, rfl, by decide +kernel⟩
theorem fX4_read_50 : zfl wzX4_read RX4 vwCl 50 4 6 := ⟨_, _, _, rfl, (fun w h => List.mem_cons_of_mem _ (zWuX4 w h)), by decide, List.mem_cons_of_mem _ (zWi_10 _ (List.mem_of_getElem? (i := 18) rfl))⟩
theorem kX4_read_29 : zml_mmin wzX4_read RX4 29 := ⟨List.mem_cons_of_mem _ (zWi_23 _ (List.mem_of_getElem? (i := 45) rfl)), List.mem_cons_of_mem _ (zWi_30 _ (List.mem_of_getElem? (i := 3) rfl)), List.mem_cons_of_mem _ (zWi_12 _ (List.mem_of_getElem? (i := 0) rfl)), List.mem_cons_of_mem _ (zWi_0 _ (List.mem_of_getElem? (i := 28) rfl))⟩
theorem kX4_read_47 : ∀ (s9 : State) (a9 : Array Value), (∀ w ∈ wzX4_read, w.before a9 s9 = true) → CallW rmX4_read s9 a9 RX4 RX4 47 yX4_advance cX4_advance 1 none wzX4_advance rmX4_advance 0 0 0 := zcV (zWi_23 _ (List.mem_of_getElem? (i := 47) rfl)) (zWi_16 _ (List.mem_of_getElem? (i := 4) rfl)) (zWi_28 _ (List.mem_of_getElem? (i := 34) rfl)) (zWi_12 _ (List.mem_of_getElem? (i := 16) rfl)) (zWi_4 _ (List.mem_of_getElem? (i := 38) rfl)) (by decide +kernel) rfl rfl ⟨Nat.le_of_ble_eq_true rfl, Nat.le_of_ble_eq_true rfl⟩
theorem kX4_read_53 : ∀ (s9 : State) (a9 : Array Value), (∀ w ∈ wzX4_read, w.before a9 s9 = true) → CallW rmX4_read s9 a9 RX4 RX4 53 yX4_readGate cX4_readGate 2 (some .boolean) wzX4_readGate rmX4_readGate 0 0 0 := zcV (zWi_23 _ (List.mem_of_getElem? (i := 48) rfl)) (zWi_16 _ (List.mem_of_getElem? (i := 15) rfl)) (zWi_28 _ (List.mem_of_getElem? (i := 44) rfl)) (zWi_12 _ (List.mem_of_getElem? (i := 16) rfl)) (zWi_4 _ (List.mem_of_getElem? (i := 49) rfl)) (by decide +kernel) rfl rfl ⟨Nat.le_of_ble_eq_true rfl, Nat.le_of_ble_eq_true rfl⟩
/-- the class's draft holds the first of a gate's numbers -/
def drP (M U : zM) (gg : Nat) (L : List Int) : Prop := (0 < L.length → U 42 gg = L.getD 0 0) ∧ (1 < L.length → U 43 gg = L.getD 1 0) ∧ (2 < L.length → U 44 gg = L.getD 2 0) ∧ (4 < L.length → U 45 gg = gcode (L.getD 3 0) (L.getD 4 0)) ∧ (6 < L.length → U 46 gg = gcode (L.getD 5 0) (L.getD 6 0)) ∧ ∀ c j, 42 ≤ c → c ≤ 46 → j ≠ gg → U c j = M c j
def gPostR (M : zM) (n gg : Nat) (r : pRes) (Q : Option zV → zM → Prop) : Prop := match r with
  | .inl f => ∀ M', rO M M' → flR M' f → Q (some (zI 0)) M'
  | .inr (L, q) => ∀ M', rO M M' → curR M' n q → M' 41 0 = (gg : Int) + 1 → drP M M' gg L → Q (some (zI 1)) M'
theorem cg115 {E : zE} {X : zX} {Qp : Option zV → zM → Prop} {M U : zM} {n p gg : Nat} {L : List Int} (S : zS (zg E) X cX4_readGate 2 wzX4_readGate RX4 (some .boolean)) (hg : gg < 8) (oU : rO M U) (hc : curR U n p) (hm : U 41 0 = gg) (hd : drP M U gg L) (hQ : gPostR M n gg (pEnd (cT U) n L p) Qp) : zK (zg E) rmX4_readGate 2 (Qp, 0, 0) X (0, 0) 115 [some (zR 39), some (zI gg)] [] U := by
  have r := tE_r (t := cT U) hc.2.2.1
  have h6 := hc.2.2.2.2.2.1
  unfold pEnd at hQ
  by_cases c : tK (cT U) n p = 3
  · rw [if_pos c] at hQ
    rw [c] at h6
    have cV := hc.dr 0 ((gg : Int) + 1) (c := 41) (by decide)
    have tV9 : cT (zup U 41 0 ((gg : Int) + 1)) = cT U := cT_o (zup_o _ (by decide))
    have v5 := cV.2.2.2.2.1
    rw [tV9] at v5
    have q := fun W (h : axM (zup U 41 0 ((gg : Int) + 1)) W n (tE (cT U) n p)) => hQ W ((oU.tr (rO.dr U 0 _ (by decide) ⟨fun z => absurd z (by decide), fun z => absurd z (by decide), fun z => absurd z (by decide), fun z => absurd z (by decide), fun z => absurd z (by decide)⟩)).tr h.o) (by
      have := cV.nx (by rw [tV9]; exact h)
      rw [tV9] at this
      exact this) (by rw [h.1 _ (by decide), zup_e]) (by
      unfold drP
      rw [h.1 42 (by decide), h.1 43 (by decide), h.1 44 (by decide), h.1 45 (by decide), h.1 46 (by decide), zup_o 42 (by decide), zup_o 43 (by decide), zup_o 44 (by decide), zup_o 45 (by decide), zup_o 46 (by decide)]
      exact ⟨hd.1, hd.2.1, hd.2.2.1, hd.2.2.2.1, hd.2.2.2.2.1, fun c j c1 c2 hj => by rw [h.1 c (by omega), zup_o c (by omega)]; exact hd.2.2.2.2.2 c j c1 c2 hj⟩)
    refine zr_aload_n (pc := 115) S dX4_readGate_115 rfl ?_
    refine zr_getI (pc := 116) S fX4_readGate_50 dX4_readGate_116 rfl (Nat.le_of_ble_eq_true rfl) rfl ?_
    refine zr_iconst (pc := 119) S dX4_readGate_119 (by unfold zrI; omega) ?_
    refine zr_icmp_eq (pc := 120) (tgt := 129) S dX4_readGate_120 (by decide) (fun c120 => ?_) (fun c120 => absurd c120 (by omega))
    refine zr_aload_n (pc := 129) S dX4_readGate_129 rfl ?_
    refine zr_getR (pc := 130) S fX4_readGate_22 dX4_readGate_130 rfl (Nat.le_of_ble_eq_true rfl) rfl ?_
    refine zr_dup (pc := 133) S dX4_readGate_133 rfl ?_
    refine zr_getI (pc := 134) S fX4_readGate_44 dX4_readGate_134 rfl (Nat.le_of_ble_eq_true rfl) rfl ?_
    rw [hm]
    refine zr_iconst (pc := 137) S dX4_readGate_137 (by unfold zrI; omega) ?_
    refine zr_iadd (pc := 138) S dX4_readGate_138 (by unfold zrI; omega) ?_
    refine zr_putI (pc := 139) S pX4_readGate_44 dX4_readGate_139 rfl (Nat.le_of_ble_eq_true rfl) rfl ?_
    refine zr_aload_n (pc := 142) S dX4_readGate_142 rfl ?_
    refine zr_invV (pc := 143) S [] (m_X4_advance _) kX4_readGate_47 dX4_readGate_143 rfl (Nat.le_of_ble_eq_true rfl) rfl (Nat.le_of_ble_eq_true rfl) ⟨Nat.le_of_ble_eq_true rfl, Nat.le_of_ble_eq_true rfl⟩ (us_X4_advance cV.1 cV.2.1 v5 r.2.1 ?_)
    dsimp only [zaft, Option.toList, List.cons_append, List.nil_append, Nat.add_zero]
    intro W hW
    refine zr_iconst (pc := 146) S dX4_readGate_146 (by unfold zrI; omega) ?_
    exact zr_zret (pc := 147) S dX4_readGate_147 rfl (by first | omega | exact b01_r) ⟨Nat.le_refl _, Nat.le_refl _⟩ (q W hW)
  · rw [if_neg c] at hQ
    rw [← h6] at c
    have q := hQ (rblM U 2) (oU.tr (rblM.o U 2)) (hc.bl 2)
    refine zr_aload_n (pc := 115) S dX4_readGate_115 rfl ?_
    refine zr_getI (pc := 116) S fX4_readGate_50 dX4_readGate_116 rfl (Nat.le_of_ble_eq_true rfl) rfl ?_
    refine zr_iconst (pc := 119) S dX4_readGate_119 (by unfold zrI; omega) ?_
    refine zr_icmp_eq (pc := 120) (tgt := 129) S dX4_readGate_120 (by decide) (fun c120 => absurd c120 (by omega)) (fun c120 => ?_)
    refine zr_aload_n (pc := 123) S dX4_readGate_123 rfl ?_
    refine zr_iconst (pc := 124) S dX4_readGate_124 (by unfold zrI; omega) ?_
    refine zr_invV (pc := 125) S [zI _] (m_X4_blame _) kX4_readGate_63 dX4_readGate_125 rfl (Nat.le_of_ble_eq_true rfl) rfl (Nat.le_of_ble_eq_true rfl) ⟨Nat.le_of_ble_eq_true rfl, Nat.le_of_ble_eq_true rfl⟩ (us_X4_blame ?_)
    dsimp only [zaft, Option.toList, List.cons_append, List.nil_append, Nat.add_zero]
    exact zr_zret (pc := 128) S dX4_readGate_128 rfl (by first | omega | exact b01_r) ⟨Nat.le_refl _, Nat.le_refl _⟩ (q)
/-- a goal more in the draft -/
theorem drP.g {M U U' : zM} {gg : Nat} {L : List Int} {a b : Int} {c : Nat} (h : drP M U gg L) (hl : (L.length = 3 ∧ c = 45) ∨ (L.length = 5 ∧ c = 46)) (ha : U' c gg = gcode a b) (ho : ∀ k j, 41 ≤ k → k ≤ 46 → (k ≠ c ∨ j ≠ gg) → U' k j = U k j) : drP M U' gg (L ++ [a, b]) := by
  obtain ⟨h0, h1, h2, h3, h4, h5⟩ := h
  have hlen : (L ++ [a, b]).length = L.length + 2 := by rw [List.length_append]; rfl
  have gl : ∀ i, i < L.length → (L ++ [a, b]).getD i 0 = L.getD i 0 := fun i hi => by rw [List.getD_eq_getElem?_getD, List.getD_eq_getElem?_getD, List.getElem?_append_left hi]
  have ga : (L ++ [a, b]).getD L.length 0 = a := by rw [List.getD_eq_getElem?_getD, List.getElem?_append_right (by omega), Nat.sub_self]; rfl
  have gb : (L ++ [a, b]).getD (L.length + 1) 0 = b := by rw [List.getD_eq_getElem?_getD, List.getElem?_append_right (by omega), show L.length + 1 - L.length = 1 by omega]; rfl
  unfold drP
  rw [hlen]
  refine ⟨fun _ => ?_, fun _ => ?_, fun _ => ?_, fun z => ?_, fun z => ?_, fun k j k1 k2 hj => ?_⟩
  · rw [gl 0 (by omega), ho 42 gg (by decide) (by decide) (by omega)]; exact h0 (by omega)
  · rw [gl 1 (by omega), ho 43 gg (by decide) (by decide) (by omega)]; exact h1 (by omega)
  · rw [gl 2 (by omega), ho 44 gg (by decide) (by decide) (by omega)]; exact h2 (by omega)
  · rcases hl with ⟨e, rfl⟩ | ⟨e, rfl⟩
    · rw [e] at ga gb
      rw [ga, gb]; exact ha
    · rw [gl 3 (by omega), gl 4 (by omega), ho 45 gg (by decide) (by decide) (by omega)]; exact h3 (by omega)
  · rcases hl with ⟨e, rfl⟩ | ⟨e, rfl⟩
    · omega
    · rw [e] at ga gb
      rw [ga, gb]; exact ha
  · rw [ho k j (by omega) k2 (by omega)]; exact h5 k j k1 k2 hj
theorem drP.x {M U W : zM} {gg n p : Nat} {L : List Int} (h : drP M U gg L) (g : axM U W n p) : drP M W gg L := by
  unfold drP
  rw [g.1 42 (by decide), g.1 43 (by decide), g.1 44 (by decide), g.1 45 (by decide), g.1 46 (by decide)]
  exact ⟨h.1, h.2.1, h.2.2.1, h.2.2.2.1, h.2.2.2.2.1, fun c j c1 c2 hj => by rw [g.1 c (by omega)]; exact h.2.2.2.2.2 c j c1 c2 hj⟩
theorem cg89 {E : zE} {X : zX} {Qp : Option zV → zM → Prop} {M U : zM} {n p gg : Nat} {L : List Int} (S : zS (zg E) X cX4_readGate 2 wzX4_readGate RX4 (some .boolean)) (hg : gg < 8) (oU : rO M U) (hc : curR U n p) (hm : U 41 0 = gg) (hd : drP M U gg L) (hL : L.length = 5) (hQ : gPostR M n gg (pNo (cT U) n L p) Qp) : zK (zg E) rmX4_readGate 2 (Qp, 0, 0) X (0, 0) 89 [some (zR 39), some (zI gg)] [] U := by
  have r := tE_r (t := cT U) hc.2.2.1
  unfold pNo at hQ
  by_cases c : wrd (cT U) n p 6
  · rw [if_pos c] at hQ
    have kk : ∀ N, axM U N n (tE (cT U) n p) → zK (zg E) rmX4_readGate 2 (Qp, 0, 0) X (0, 0) 98 [some (zR 39), some (zI gg)] [] N := by
      intro N hN
      have cN := hc.nx hN
      have tN := hN.c
      have oN := oU.tr hN.o
      have dN := hd.x hN
      unfold pThen at hQ
      rw [← tN] at hQ
      rcases hG : pGoal (cT N) n (tE (cT U) n p) with f | ⟨⟨a, b⟩, q⟩
      · have q9 : ∀ W, rO N W → flR W f → Qp (some (zI 0)) W := fun W oW fW => by
          rw [tN] at hQ
          rw [tN] at hG
          rw [hG] at hQ
          exact hQ W (oN.tr oW) fW
        refine zr_aload_n (pc := 98) S dX4_readGate_98 rfl ?_
        refine zr_aload_n (pc := 99) S dX4_readGate_99 rfl ?_
        refine zr_getR (pc := 100) S fX4_readGate_22 dX4_readGate_100 rfl (Nat.le_of_ble_eq_true rfl) rfl ?_
        refine zr_getR (pc := 103) S fX4_readGate_87 dX4_readGate_103 rfl (Nat.le_of_ble_eq_true rfl) rfl ?_
        refine zr_iload_n (pc := 106) S dX4_readGate_106 rfl ?_
        refine zr_invV (pc := 107) S [zR _, zI _] (m_X4_readGoal _) kX4_readGate_81 dX4_readGate_107 rfl (Nat.le_of_ble_eq_true rfl) rfl (Nat.le_of_ble_eq_true rfl) ⟨Nat.le_of_ble_eq_true rfl, Nat.le_of_ble_eq_true rfl⟩ (us_X4_readGoal (c := 46) (g := gg) (n := n) (p := tE (cT U) n p) (by decide) hg cN (fun f' hf W oW fW => ?_) (fun a b q hq => absurd (hG.symm.trans hq) (by simp)))
        dsimp only [zaft, Option.toList, List.cons_append, List.nil_append, Nat.add_zero]
        refine zr_if_ne (pc := 110) (tgt := 115) S dX4_readGate_110 (by decide) (fun c110 => absurd c110 (by omega)) (fun c110 => ?_)
        refine zr_iconst (pc := 113) S dX4_readGate_113 (by unfold zrI; omega) ?_
        exact zr_zret (pc := 114) S dX4_readGate_114 rfl (by first | omega | exact b01_r) ⟨Nat.le_refl _, Nat.le_refl _⟩ (q9 W oW (by cases hG.symm.trans hf; exact fW))
      · have l : ∀ W, rO N W → curR W n q → W 46 gg = gcode a b → (∀ k j, 41 ≤ k → k ≤ 46 → (k ≠ 46 ∨ j ≠ gg) → W k j = N k j) → zK (zg E) rmX4_readGate 2 (Qp, 0, 0) X (0, 0) 115 [some (zR 39), some (zI gg)] [] W := fun W oW cW wa wj => by
          have tW := oW.c
          refine cg115 (L := L ++ [a, b]) S hg (oN.tr oW) cW (by rw [wj 41 0 (by decide) (by decide) (by omega), hN.1 _ (by decide)]; exact hm) (dN.g (c := 46) (by omega) wa wj) ?_
          rw [tN] at hQ hG
          rw [hG] at hQ
          rw [tW, tN]
          exact hQ
        refine zr_aload_n (pc := 98) S dX4_readGate_98 rfl ?_
        refine zr_aload_n (pc := 99) S dX4_readGate_99 rfl ?_
        refine zr_getR (pc := 100) S fX4_readGate_22 dX4_readGate_100 rfl (Nat.le_of_ble_eq_true rfl) rfl ?_
        refine zr_getR (pc := 103) S fX4_readGate_87 dX4_readGate_103 rfl (Nat.le_of_ble_eq_true rfl) rfl ?_
        refine zr_iload_n (pc := 106) S dX4_readGate_106 rfl ?_
        refine zr_invV (pc := 107) S [zR _, zI _] (m_X4_readGoal _) kX4_readGate_81 dX4_readGate_107 rfl (Nat.le_of_ble_eq_true rfl) rfl (Nat.le_of_ble_eq_true rfl) ⟨Nat.le_of_ble_eq_true rfl, Nat.le_of_ble_eq_true rfl⟩ (us_X4_readGoal (c := 46) (g := gg) (n := n) (p := tE (cT U) n p) (by decide) hg cN (fun f' hf => absurd (hG.symm.trans hf) (by simp)) (fun a' b' q' hq W oW cW wa wj => ?_))
        dsimp only [zaft, Option.toList, List.cons_append, List.nil_append, Nat.add_zero]
        refine zr_if_ne (pc := 110) (tgt := 115) S dX4_readGate_110 (by decide) (fun c110 => ?_) (fun c110 => absurd c110 (by omega))
        cases hG.symm.trans hq
        exact l W oW cW wa wj
    refine zr_aload_n (pc := 89) S dX4_readGate_89 rfl ?_
    refine zr_ldcS (pc := 90) (k9 := 6) S (List.mem_of_getElem? (i := 6) rfl) dX4_readGate_90 ?_
    refine zr_invV (pc := 92) S [zR _] (m_X4_passWord _) kX4_readGate_75 dX4_readGate_92 rfl (Nat.le_of_ble_eq_true rfl) rfl (Nat.le_of_ble_eq_true rfl) ⟨Nat.le_of_ble_eq_true rfl, Nat.le_of_ble_eq_true rfl⟩ (us_X4_passWord (i := 6) (n := n) (p := p) (by decide) hc (fun z => absurd c z) (fun _ N hN => ?_))
    dsimp only [zaft, Option.toList, List.cons_append, List.nil_append, Nat.add_zero]
    refine zr_if_eq (pc := 95) (tgt := 113) S dX4_readGate_95 (by decide) (fun c95 => absurd c95 (by omega)) (fun c95 => ?_)
    exact kk N hN
  · rw [if_neg c] at hQ
    have q := hQ (rblM U 2) (oU.tr (rblM.o U 2)) (hc.bl 2)
    refine zr_aload_n (pc := 89) S dX4_readGate_89 rfl ?_
    refine zr_ldcS (pc := 90) (k9 := 6) S (List.mem_of_getElem? (i := 6) rfl) dX4_readGate_90 ?_
    refine zr_invV (pc := 92) S [zR _] (m_X4_passWord _) kX4_readGate_75 dX4_readGate_92 rfl (Nat.le_of_ble_eq_true rfl) rfl (Nat.le_of_ble_eq_true rfl) ⟨Nat.le_of_ble_eq_true rfl, Nat.le_of_ble_eq_true rfl⟩ (us_X4_passWord (i := 6) (n := n) (p := p) (by decide) hc (fun _ => ?_) (fun z => absurd z c))
    dsimp only [zaft, Option.toList, List.cons_append, List.nil_append, Nat.add_zero]
    refine zr_if_eq (pc := 95) (tgt := 113) S dX4_readGate_95 (by decide) (fun c95 => ?_) (fun c95 => absurd c95 (by omega))
    refine zr_iconst (pc := 113) S dX4_readGate_113 (by unfold zrI; omega) ?_
    exact zr_zret (pc := 114) S dX4_readGate_114 rfl (by first | omega | exact b01_r) ⟨Nat.le_refl _, Nat.le_refl _⟩ (q)
theorem cg63 {E : zE} {X : zX} {Qp : Option zV → zM → Prop} {M U : zM} {n p gg : Nat} {L : List Int} (S : zS (zg E) X cX4_readGate 2 wzX4_readGate RX4 (some .boolean)) (hg : gg < 8) (oU : rO M U) (hc : curR U n p) (hm : U 41 0 = gg) (hd : drP M U gg L) (hL : L.length = 3) (hQ : gPostR M n gg (pYes (cT U) n L p) Qp) : zK (zg E) rmX4_readGate 2 (Qp, 0, 0) X (0, 0) 63 [some (zR 39), some (zI gg)] [] U := by
  have r := tE_r (t := cT U) hc.2.2.1
  unfold pYes at hQ
  by_cases c : wrd (cT U) n p 5
  · rw [if_pos c] at hQ
    have kk : ∀ N, axM U N n (tE (cT U) n p) → zK (zg E) rmX4_readGate 2 (Qp, 0, 0) X (0, 0) 72 [some (zR 39), some (zI gg)] [] N := by
      intro N hN
      have cN := hc.nx hN
      have tN := hN.c
      have oN := oU.tr hN.o
      have dN := hd.x hN
      unfold pThen at hQ
      rw [← tN] at hQ
      rcases hG : pGoal (cT N) n (tE (cT U) n p) with f | ⟨⟨a, b⟩, q⟩
      · have q9 : ∀ W, rO N W → flR W f → Qp (some (zI 0)) W := fun W oW fW => by
          rw [tN] at hQ
          rw [tN] at hG
          rw [hG] at hQ
          exact hQ W (oN.tr oW) fW
        refine zr_aload_n (pc := 72) S dX4_readGate_72 rfl ?_
        refine zr_aload_n (pc := 73) S dX4_readGate_73 rfl ?_
        refine zr_getR (pc := 74) S fX4_readGate_22 dX4_readGate_74 rfl (Nat.le_of_ble_eq_true rfl) rfl ?_
        refine zr_getR (pc := 77) S fX4_readGate_78 dX4_readGate_77 rfl (Nat.le_of_ble_eq_true rfl) rfl ?_
        refine zr_iload_n (pc := 80) S dX4_readGate_80 rfl ?_
        refine zr_invV (pc := 81) S [zR _, zI _] (m_X4_readGoal _) kX4_readGate_81 dX4_readGate_81 rfl (Nat.le_of_ble_eq_true rfl) rfl (Nat.le_of_ble_eq_true rfl) ⟨Nat.le_of_ble_eq_true rfl, Nat.le_of_ble_eq_true rfl⟩ (us_X4_readGoal (c := 45) (g := gg) (n := n) (p := tE (cT U) n p) (by decide) hg cN (fun f' hf W oW fW => ?_) (fun a b q hq => absurd (hG.symm.trans hq) (by simp)))
        dsimp only [zaft, Option.toList, List.cons_append, List.nil_append, Nat.add_zero]
        refine zr_if_ne (pc := 84) (tgt := 89) S dX4_readGate_84 (by decide) (fun c84 => absurd c84 (by omega)) (fun c84 => ?_)
        refine zr_iconst (pc := 87) S dX4_readGate_87 (by unfold zrI; omega) ?_
        exact zr_zret (pc := 88) S dX4_readGate_88 rfl (by first | omega | exact b01_r) ⟨Nat.le_refl _, Nat.le_refl _⟩ (q9 W oW (by cases hG.symm.trans hf; exact fW))
      · have l : ∀ W, rO N W → curR W n q → W 45 gg = gcode a b → (∀ k j, 41 ≤ k → k ≤ 46 → (k ≠ 45 ∨ j ≠ gg) → W k j = N k j) → zK (zg E) rmX4_readGate 2 (Qp, 0, 0) X (0, 0) 89 [some (zR 39), some (zI gg)] [] W := fun W oW cW wa wj => by
          have tW := oW.c
          refine cg89 (L := L ++ [a, b]) S hg (oN.tr oW) cW (by rw [wj 41 0 (by decide) (by decide) (by omega), hN.1 _ (by decide)]; exact hm) (dN.g (c := 45) (by omega) wa wj) (by rw [List.length_append, hL]; rfl) ?_
          rw [tN] at hQ hG
          rw [hG] at hQ
          rw [tW, tN]
          exact hQ
        refine zr_aload_n (pc := 72) S dX4_readGate_72 rfl ?_
        refine zr_aload_n (pc := 73) S dX4_readGate_73 rfl ?_
        refine zr_getR (pc := 74) S fX4_readGate_22 dX4_readGate_74 rfl (Nat.le_of_ble_eq_true rfl) rfl ?_
        refine zr_getR (pc := 77) S fX4_readGate_78 dX4_readGate_77 rfl (Nat.le_of_ble_eq_true rfl) rfl ?_
        refine zr_iload_n (pc := 80) S dX4_readGate_80 rfl ?_
        refine zr_invV (pc := 81) S [zR _, zI _] (m_X4_readGoal _) kX4_readGate_81 dX4_readGate_81 rfl (Nat.le_of_ble_eq_true rfl) rfl (Nat.le_of_ble_eq_true rfl) ⟨Nat.le_of_ble_eq_true rfl, Nat.le_of_ble_eq_true rfl⟩ (us_X4_readGoal (c := 45) (g := gg) (n := n) (p := tE (cT U) n p) (by decide) hg cN (fun f' hf => absurd (hG.symm.trans hf) (by simp)) (fun a' b' q' hq W oW cW wa wj => ?_))
        dsimp only [zaft, Option.toList, List.cons_append, List.nil_append, Nat.add_zero]
        refine zr_if_ne (pc := 84) (tgt := 89) S dX4_readGate_84 (by decide) (fun c84 => ?_) (fun c84 => absurd c84 (by omega))
        cases hG.symm.trans hq
        exact l W oW cW wa wj
    refine zr_aload_n (pc := 63) S dX4_readGate_63 rfl ?_
    refine zr_ldcS (pc := 64) (k9 := 5) S (List.mem_of_getElem? (i := 5) rfl) dX4_readGate_64 ?_
    refine zr_invV (pc := 66) S [zR _] (m_X4_passWord _) kX4_readGate_75 dX4_readGate_66 rfl (Nat.le_of_ble_eq_true rfl) rfl (Nat.le_of_ble_eq_true rfl) ⟨Nat.le_of_ble_eq_true rfl, Nat.le_of_ble_eq_true rfl⟩ (us_X4_passWord (i := 5) (n := n) (p := p) (by decide) hc (fun z => absurd c z) (fun _ N hN => ?_))
    dsimp only [zaft, Option.toList, List.cons_append, List.nil_append, Nat.add_zero]
    refine zr_if_eq (pc := 69) (tgt := 87) S dX4_readGate_69 (by decide) (fun c69 => absurd c69 (by omega)) (fun c69 => ?_)
    exact kk N hN
  · rw [if_neg c] at hQ
    have q := hQ (rblM U 2) (oU.tr (rblM.o U 2)) (hc.bl 2)
    refine zr_aload_n (pc := 63) S dX4_readGate_63 rfl ?_
    refine zr_ldcS (pc := 64) (k9 := 5) S (List.mem_of_getElem? (i := 5) rfl) dX4_readGate_64 ?_
    refine zr_invV (pc := 66) S [zR _] (m_X4_passWord _) kX4_readGate_75 dX4_readGate_66 rfl (Nat.le_of_ble_eq_true rfl) rfl (Nat.le_of_ble_eq_true rfl) ⟨Nat.le_of_ble_eq_true rfl, Nat.le_of_ble_eq_true rfl⟩ (us_X4_passWord (i := 5) (n := n) (p := p) (by decide) hc (fun _ => ?_) (fun z => absurd z c))
    dsimp only [zaft, Option.toList, List.cons_append, List.nil_append, Nat.add_zero]
    refine zr_if_eq (pc := 69) (tgt := 87) S dX4_readGate_69 (by decide) (fun c69 => ?_) (fun c69 => absurd c69 (by omega))
    refine zr_iconst (pc := 87) S dX4_readGate_87 (by unfold zrI; omega) ?_
    exact zr_zret (pc := 88) S dX4_readGate_88 rfl (by first | omega | exact b01_r) ⟨Nat.le_refl _, Nat.le_refl _⟩ (q)
end
