section
def rmX12_readGate : Room := { frames := 6, cells := 0, slots := 0, locals := 130 }
abbrev wzX12_readGate : List Cond := .code yX12_readGate cX12_readGate 4 none :: zW
theorem fX12_readGate_163 : zfl wzX12_readGate RX12 vwCl 163 12 12 := ⟨_, _, _, rfl, (fun w h => List.mem_cons_of_mem _ (zWuX12 w h)), by decide, List.mem_cons_of_mem _ (zWi_9 _ (List.mem_of_getElem? (i := 13) rfl))⟩
theorem fX12_readGate_23 : zfl wzX12_readGate RX12 vwCl 23 12 5 := ⟨_, _, _, rfl, (fun w h => List.mem_cons_of_mem _ (zWuX12 w h)), by decide, List.mem_cons_of_mem _ (zWi_9 _ (List.mem_of_getElem? (i := 17) rfl))⟩
theorem fX12_readGate_148 : zfl wzX12_readGate RX12 vwCl 148 12 10 := ⟨_, _, _, rfl, (fun w h => List.mem_cons_of_mem _ (zWuX12 w h)), by decide, List.mem_cons_of_mem _ (zWi_9 _ (List.mem_of_getElem? (i := 10) rfl))⟩
theorem kX12_readGate_202 : ∀ (s9 : State) (a9 : Array Value), (∀ w ∈ wzX12_readGate, w.before a9 s9 = true) → CallW rmX12_readGate s9 a9 RX12 RX12 202 yX12_needs cX12_needs 2 none wzX12_needs rmX12_needs 0 0 1 := zcV (zWi_22 _ (List.mem_of_getElem? (i := 32) rfl)) (zWi_14 _ (List.mem_of_getElem? (i := 47) rfl)) (zWi_27 _ (List.mem_of_getElem? (i := 38) rfl)) (zWi_12 _ (List.mem_of_getElem? (i := 13) rfl)) (zWi_3 _ (List.mem_of_getElem? (i := 29) rfl)) (by decide +kernel) rfl rfl ⟨Nat.le_of_ble_eq_true rfl, Nat.le_of_ble_eq_true rfl⟩
theorem kX12_readGate_179 : ∀ (s9 : State) (a9 : Array Value), (∀ w ∈ wzX12_readGate, w.before a9 s9 = true) → CallW rmX12_readGate s9 a9 RX12 RX12 179 yX12_isWord cX12_isWord 4 (some .boolean) wzX12_isWord rmX12_isWord 0 0 1 := zcV (zWi_22 _ (List.mem_of_getElem? (i := 28) rfl)) (zWi_14 _ (List.mem_of_getElem? (i := 31) rfl)) (zWi_27 _ (List.mem_of_getElem? (i := 22) rfl)) (zWi_12 _ (List.mem_of_getElem? (i := 13) rfl)) (zWi_3 _ (List.mem_of_getElem? (i := 13) rfl)) (by decide +kernel) rfl rfl ⟨Nat.le_of_ble_eq_true rfl, Nat.le_of_ble_eq_true rfl⟩
theorem kX12_readGate_183 : ∀ (s9 : State) (a9 : Array Value), (∀ w ∈ wzX12_readGate, w.before a9 s9 = true) → CallW rmX12_readGate s9 a9 RX12 RX12 183 yX12_blames cX12_blames 2 none wzX12_blames rmX12_blames 0 0 1 := zcV (zWi_22 _ (List.mem_of_getElem? (i := 29) rfl)) (zWi_13 _ (List.mem_of_getElem? (i := 45) rfl)) (zWi_26 _ (List.mem_of_getElem? (i := 37) rfl)) (zWi_12 _ (List.mem_of_getElem? (i := 13) rfl)) (zWi_2 _ (List.mem_of_getElem? (i := 24) rfl)) (by decide +kernel) rfl rfl ⟨Nat.le_of_ble_eq_true rfl, Nat.le_of_ble_eq_true rfl⟩
theorem kX12_readGate_187 : ∀ (s9 : State) (a9 : Array Value), (∀ w ∈ wzX12_readGate, w.before a9 s9 = true) → CallW rmX12_readGate s9 a9 RX12 RX12 187 yX12_next cX12_next 2 none wzX12_next rmX12_next 0 0 0 := zcV (zWi_22 _ (List.mem_of_getElem? (i := 30) rfl)) (zWi_14 _ (List.mem_of_getElem? (i := 48) rfl)) (zWi_27 _ (List.mem_of_getElem? (i := 39) rfl)) (zWi_12 _ (List.mem_of_getElem? (i := 13) rfl)) (zWi_3 _ (List.mem_of_getElem? (i := 30) rfl)) (by decide +kernel) rfl rfl ⟨Nat.le_of_ble_eq_true rfl, Nat.le_of_ble_eq_true rfl⟩
theorem kX12_readGate_197 : ∀ (s9 : State) (a9 : Array Value), (∀ w ∈ wzX12_readGate, w.before a9 s9 = true) → CallW rmX12_readGate s9 a9 RX12 RX12 197 yX12_number cX12_number 5 (some .int) wzX12_number rmX12_number 0 0 3 := zcV (zWi_22 _ (List.mem_of_getElem? (i := 31) rfl)) (zWi_14 _ (List.mem_of_getElem? (i := 49) rfl)) (zWi_27 _ (List.mem_of_getElem? (i := 40) rfl)) (zWi_12 _ (List.mem_of_getElem? (i := 13) rfl)) (zWi_3 _ (List.mem_of_getElem? (i := 31) rfl)) (by decide +kernel) rfl rfl ⟨Nat.le_of_ble_eq_true rfl, Nat.le_of_ble_eq_true rfl⟩
theorem kX12_readGate_214 : ∀ (s9 : State) (a9 : Array Value), (∀ w ∈ wzX12_readGate, w.before a9 s9 = true) → CallW rmX12_readGate s9 a9 RX12 RX12 214 yX12_readGoal cX12_readGoal 3 none wzX12_readGoal rmX12_readGoal 0 0 1 := zcV (zWi_22 _ (List.mem_of_getElem? (i := 33) rfl)) (zWi_15 _ (List.mem_of_getElem? (i := 8) rfl)) (zWi_27 _ (List.mem_of_getElem? (i := 49) rfl)) (zWi_12 _ (List.mem_of_getElem? (i := 13) rfl)) (zWi_3 _ (List.mem_of_getElem? (i := 40) rfl)) (by decide +kernel) rfl rfl ⟨Nat.le_of_ble_eq_true rfl, Nat.le_of_ble_eq_true rfl⟩
/-- a fault is told, and the reader stands somewhere on its tape -/
def fst (M U : zM) (f : Int × Int) (n : Nat) : Prop := rdO M U ∧ flt U f ∧ f.1 ≠ 0 ∧ rdS U n
theorem fst.up {M U : zM} {f : Int × Int} {n : Nat} (h : fst M U f n) (o : Nat) (v : Int) : fst M (zup U 185 o v) f n := by
  obtain ⟨h1, h2, h3, h4⟩ := h
  refine ⟨h1.tr ⟨fun k _ k2 => zup_o k k2, fun j _ _ _ _ _ _ => by rw [zup_o _ (by decide)]⟩, ?_, h3, ?_⟩
  · unfold flt; rw [zup_o 180 (by decide)]; exact h2
  · unfold rdS; rw [zup_o 180 (by decide)]; exact h4
theorem rb160 {E : zE} {X : zX} {Qp : Option zV → zM → Prop} {M U : zM} {f : Int × Int} {n : Nat} {g k ms : Int} (S : zS (zg E) X cX12_readGate 4 wzX12_readGate RX12 none) (hQ : ∀ M', rdO M M' → flt M' f → Qp none M') (hU : fst M U f n) : zK (zg E) rmX12_readGate 4 (Qp, 0, 0) X (0, 0) 160 [some (zR 180), some (zI g), some (zI k), some (zI ms)] [] U := by
  obtain ⟨h1, h2, h3, h4⟩ := hU
  have b : ¬ U 180 12 = 0 := by rw [h2.1]; exact h3
  have q := hQ U h1 h2
  refine zr_aload_n (pc := 160) S dX12_readGate_160 rfl ?_
  refine zr_getI (pc := 161) S fX12_readGate_163 dX12_readGate_161 rfl (Nat.le_of_ble_eq_true rfl) rfl ?_
  refine zr_if_ne (pc := 164) (tgt := 180) S dX12_readGate_164 (by decide) (fun c164 => ?_) (fun c164 => absurd c164 (by omega))
  refine zr_aload_n (pc := 180) S dX12_readGate_180 rfl ?_
  refine zr_getI (pc := 181) S fX12_readGate_163 dX12_readGate_181 rfl (Nat.le_of_ble_eq_true rfl) rfl ?_
  refine zr_if_ne (pc := 184) (tgt := 191) S dX12_readGate_184 (by decide) (fun c184 => ?_) (fun c184 => absurd c184 (by omega))
  exact zr_vret (pc := 191) S dX12_readGate_191 rfl ⟨Nat.le_refl _, Nat.le_refl _⟩ (q)
theorem rb140 {E : zE} {X : zX} {Qp : Option zV → zM → Prop} {M U : zM} {f : Int × Int} {n : Nat} {g k ms : Int} (S : zS (zg E) X cX12_readGate 4 wzX12_readGate RX12 none) (hQ : ∀ M', rdO M M' → flt M' f → Qp none M') (hU : fst M U f n) : zK (zg E) rmX12_readGate 4 (Qp, 0, 0) X (0, 0) 140 [some (zR 180), some (zI g), some (zI k), some (zI ms)] [] U := by
  have l := rb160 (E := E) (X := X) (g := g) (k := k) (ms := ms) S hQ hU
  obtain ⟨h1, h2, h3, h4⟩ := hU
  obtain ⟨a1, a2, s, e, a3, a4, a5, a6⟩ := h4
  have b : ¬ U 180 12 = 0 := by rw [h2.1]; exact h3
  refine zr_aload_n (pc := 140) S dX12_readGate_140 rfl ?_
  refine zr_ldcS (pc := 141) (k9 := 6) S (List.mem_of_getElem? (i := 16) rfl) dX12_readGate_141 ?_
  refine zr_invV (pc := 143) S [zR _] (m_X12_needs _) kX12_readGate_202 dX12_readGate_143 rfl (Nat.le_of_ble_eq_true rfl) rfl (Nat.le_of_ble_eq_true rfl) ⟨Nat.le_of_ble_eq_true rfl, Nat.le_of_ble_eq_true rfl⟩ (us_X12_needs (i := 6) (by decide) a3 a4 ⟨a5, a6⟩ a1 a2 (fun _ => ?_) (fun z => absurd z b) (fun z => absurd z b))
  dsimp only [zaft, Option.toList, List.cons_append, List.nil_append, Nat.add_zero]
  refine zr_aload_n (pc := 146) S dX12_readGate_146 rfl ?_
  refine zr_getI (pc := 147) S fX12_readGate_163 dX12_readGate_147 rfl (Nat.le_of_ble_eq_true rfl) rfl ?_
  refine zr_if_ne (pc := 150) (tgt := 160) S dX12_readGate_150 (by decide) (fun c150 => ?_) (fun c150 => absurd c150 (by omega))
  exact l
theorem rb120 {E : zE} {X : zX} {Qp : Option zV → zM → Prop} {M U : zM} {f : Int × Int} {n : Nat} {g k ms : Int} (S : zS (zg E) X cX12_readGate 4 wzX12_readGate RX12 none) (hQ : ∀ M', rdO M M' → flt M' f → Qp none M') (hU : fst M U f n) : zK (zg E) rmX12_readGate 4 (Qp, 0, 0) X (0, 0) 120 [some (zR 180), some (zI g), some (zI k), some (zI ms)] [] U := by
  have l := rb140 (E := E) (X := X) (g := g) (k := k) (ms := ms) S hQ hU
  obtain ⟨h1, h2, h3, h4⟩ := hU
  obtain ⟨a1, a2, s, e, a3, a4, a5, a6⟩ := h4
  have b : ¬ U 180 12 = 0 := by rw [h2.1]; exact h3
  refine zr_aload_n (pc := 120) S dX12_readGate_120 rfl ?_
  refine zr_ldcS (pc := 121) (k9 := 5) S (List.mem_of_getElem? (i := 15) rfl) dX12_readGate_121 ?_
  refine zr_invV (pc := 123) S [zR _] (m_X12_needs _) kX12_readGate_202 dX12_readGate_123 rfl (Nat.le_of_ble_eq_true rfl) rfl (Nat.le_of_ble_eq_true rfl) ⟨Nat.le_of_ble_eq_true rfl, Nat.le_of_ble_eq_true rfl⟩ (us_X12_needs (i := 5) (by decide) a3 a4 ⟨a5, a6⟩ a1 a2 (fun _ => ?_) (fun z => absurd z b) (fun z => absurd z b))
  dsimp only [zaft, Option.toList, List.cons_append, List.nil_append, Nat.add_zero]
  refine zr_aload_n (pc := 126) S dX12_readGate_126 rfl ?_
  refine zr_getI (pc := 127) S fX12_readGate_163 dX12_readGate_127 rfl (Nat.le_of_ble_eq_true rfl) rfl ?_
  refine zr_if_ne (pc := 130) (tgt := 140) S dX12_readGate_130 (by decide) (fun c130 => ?_) (fun c130 => absurd c130 (by omega))
  exact l
theorem rb97 {E : zE} {X : zX} {Qp : Option zV → zM → Prop} {M U : zM} {f : Int × Int} {n gg : Nat} {g ms : Int} (S : zS (zg E) X cX12_readGate 4 wzX12_readGate RX12 none) (hg : gg < 8) (hQ : ∀ M', rdO M M' → flt M' f → Qp none M') (hU : fst M U f n) : zK (zg E) rmX12_readGate 4 (Qp, 0, 0) X (0, 0) 97 [some (zR 180), some (zI g), some (zI (7 * (gg : Int))), some (zI ms)] [] U := by
  have l := fun v => rb120 (E := E) (X := X) (g := g) (k := 7 * (gg : Int)) (ms := ms) S hQ (hU.up ((7 * (gg : Int)) + 2).toNat v)
  obtain ⟨h1, h2, h3, h4⟩ := hU
  obtain ⟨a1, a2, s, e, a3, a4, a5, a6⟩ := h4
  have b : ¬ U 180 12 = 0 := by rw [h2.1]; exact h3
  refine zr_aload_n (pc := 97) S dX12_readGate_97 rfl ?_
  refine zr_getR (pc := 98) S fX12_readGate_23 dX12_readGate_98 rfl (Nat.le_of_ble_eq_true rfl) rfl ?_
  refine zr_iload_n (pc := 101) S dX12_readGate_101 rfl ?_
  refine zr_iconst (pc := 102) S dX12_readGate_102 (by unfold zrI; omega) ?_
  refine zr_iadd (pc := 103) S dX12_readGate_103 (by unfold zrI; omega) ?_
  refine zr_aload_n (pc := 104) S dX12_readGate_104 rfl ?_
  refine zr_aload_n (pc := 105) S dX12_readGate_105 rfl ?_
  refine zr_getR (pc := 106) S fX12_readGate_23 dX12_readGate_106 rfl (Nat.le_of_ble_eq_true rfl) rfl ?_
  refine zr_iload_n (pc := 109) S dX12_readGate_109 rfl ?_
  refine zr_iconst (pc := 110) S dX12_readGate_110 (by unfold zrI; omega) ?_
  refine zr_iadd (pc := 111) S dX12_readGate_111 (by unfold zrI; omega) ?_
  refine zr_iaload (pc := 112) S dX12_readGate_112 rfl (Nat.le_of_ble_eq_true rfl) (by omega) (by omega) ?_
  refine zr_bipush (pc := 113) S dX12_readGate_113 ⟨by unfold zrI; omega, by decide⟩ ?_
  refine zr_iconst (pc := 115) S dX12_readGate_115 (by unfold zrI; omega) ?_
  refine zr_invV (pc := 116) S [zI _, zI _, zI _] (m_X12_number _) kX12_readGate_197 dX12_readGate_116 rfl (Nat.le_of_ble_eq_true rfl) rfl (Nat.le_of_ble_eq_true rfl) ⟨Nat.le_of_ble_eq_true rfl, Nat.le_of_ble_eq_true rfl⟩ (us_X12_number (by decide) a4 a6 a1 a2 (fun _ => ?_) (fun z => absurd z b) (fun z => absurd z b) (fun z => absurd z b))
  dsimp only [zaft, Option.toList, List.cons_append, List.nil_append, Nat.add_zero]
  refine zr_iastore (pc := 119) S dX12_readGate_119 rfl (Nat.le_of_ble_eq_true rfl) (by omega) (by omega) ?_
  exact l _
end
