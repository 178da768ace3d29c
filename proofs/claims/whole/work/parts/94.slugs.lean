section
def rmX12_slugs : Room := { frames := 24, cells := 0, slots := 0, locals := 681 }
abbrev wzX12_slugs : List Cond := .code yX12_slugs cX12_slugs 7 (some .int) :: zW
def rmX12_explain : Room := { frames := 25, cells := 0, slots := 0, locals := 707 }
abbrev wzX12_explain : List Cond := .code yX12_explain cX12_explain 8 (some .int) :: zW
theorem fX12_slugs_9 : zfl wzX12_slugs RX12 vwCl 9 12 0 := ⟨_, _, _, rfl, (fun w h => List.mem_cons_of_mem _ (zWuX12 w h)), by decide, List.mem_cons_of_mem _ (zWi_9 _ (List.mem_of_getElem? (i := 39) rfl))⟩
theorem fX12_slugs_56 : zfl wzX12_slugs RX12 vwCl 56 12 26 := ⟨_, _, _, rfl, (fun w h => List.mem_cons_of_mem _ (zWuX12 w h)), by decide, List.mem_cons_of_mem _ (zWi_9 _ (List.mem_of_getElem? (i := 30) rfl))⟩
theorem fX12_slugs_53 : zfl wzX12_slugs RX12 vwCl 53 12 25 := ⟨_, _, _, rfl, (fun w h => List.mem_cons_of_mem _ (zWuX12 w h)), by decide, List.mem_cons_of_mem _ (zWi_9 _ (List.mem_of_getElem? (i := 29) rfl))⟩
theorem fX12_slugs_36 : zfl wzX12_slugs RX12 vwCl 36 12 20 := ⟨_, _, _, rfl, (fun w h => List.mem_cons_of_mem _ (zWuX12 w h)), by decide, List.mem_cons_of_mem _ (zWi_9 _ (List.mem_of_getElem? (i := 23) rfl))⟩
theorem kX12_slugs_261 : ∀ (s9 : State) (a9 : Array Value), (∀ w ∈ wzX12_slugs, w.before a9 s9 = true) → CallW rmX12_slugs s9 a9 RX12 RX12 261 yX12_tally cX12_tally 3 none wzX12_tally rmX12_tally 0 0 1 := zcV (zWi_22 _ (List.mem_of_getElem? (i := 44) rfl)) (zWi_15 _ (List.mem_of_getElem? (i := 24) rfl)) (zWi_28 _ (List.mem_of_getElem? (i := 15) rfl)) (zWi_12 _ (List.mem_of_getElem? (i := 13) rfl)) (zWi_4 _ (List.mem_of_getElem? (i := 6) rfl)) (by decide +kernel) rfl rfl ⟨Nat.le_of_ble_eq_true rfl, Nat.le_of_ble_eq_true rfl⟩
theorem kX12_slugs_123 : zml_mmax wzX12_slugs RX12 123 := ⟨List.mem_cons_of_mem _ (zWi_22 _ (List.mem_of_getElem? (i := 20) rfl)), List.mem_cons_of_mem _ (zWi_30 _ (List.mem_of_getElem? (i := 2) rfl)), List.mem_cons_of_mem _ (zWi_12 _ (List.mem_of_getElem? (i := 0) rfl)), List.mem_cons_of_mem _ (zWi_0 _ (List.mem_of_getElem? (i := 27) rfl))⟩
theorem kX12_slugs_228 : zml_mmin wzX12_slugs RX12 228 := ⟨List.mem_cons_of_mem _ (zWi_22 _ (List.mem_of_getElem? (i := 36) rfl)), List.mem_cons_of_mem _ (zWi_30 _ (List.mem_of_getElem? (i := 3) rfl)), List.mem_cons_of_mem _ (zWi_12 _ (List.mem_of_getElem? (i := 0) rfl)), List.mem_cons_of_mem _ (zWi_0 _ (List.mem_of_getElem? (i := 28) rfl))⟩
theorem pX12_explain_80 : zfp wzX12_explain RX12 vwCl 80 12 3 := ⟨_, _, _, _, rfl, (fun w h => List.mem_cons_of_mem _ (zWuX12 w h)), by decide, List.mem_cons_of_mem _ (zWi_9 _ (List.mem_of_getElem? (i := 38) rfl)), tyX12_ok, nmX12, rfl, by decide +kernel⟩
theorem fX12_explain_9 : zfl wzX12_explain RX12 vwCl 9 12 0 := ⟨_, _, _, rfl, (fun w h => List.mem_cons_of_mem _ (zWuX12 w h)), by decide, List.mem_cons_of_mem _ (zWi_9 _ (List.mem_of_getElem? (i := 39) rfl))⟩
theorem fX12_explain_53 : zfl wzX12_explain RX12 vwCl 53 12 25 := ⟨_, _, _, rfl, (fun w h => List.mem_cons_of_mem _ (zWuX12 w h)), by decide, List.mem_cons_of_mem _ (zWi_9 _ (List.mem_of_getElem? (i := 29) rfl))⟩
theorem kX12_explain_83 : ∀ (s9 : State) (a9 : Array Value), (∀ w ∈ wzX12_explain, w.before a9 s9 = true) → CallB rmX12_explain s9 a9 RX12 83 yX12_within cX12_within 6 (some .boolean) wzX12_within rmX12_within 0 0 3 ∧ (Cond.static yX12_within).before a9 s9 = true := zcS (zWi_23 _ (List.mem_of_getElem? (i := 24) rfl)) (zWi_31 _ (List.mem_of_getElem? (i := 13) rfl)) (zWi_12 _ (List.mem_of_getElem? (i := 13) rfl)) (zWi_4 _ (List.mem_of_getElem? (i := 16) rfl)) (by decide +kernel) rfl rfl ⟨Nat.le_of_ble_eq_true rfl, Nat.le_of_ble_eq_true rfl⟩
theorem kX12_explain_95 : ∀ (s9 : State) (a9 : Array Value), (∀ w ∈ wzX12_explain, w.before a9 s9 = true) → CallW rmX12_explain s9 a9 RX12 RX12 95 yX12_fails cX12_fails 2 (some .int) wzX12_fails rmX12_fails 0 0 1 := zcV (zWi_23 _ (List.mem_of_getElem? (i := 26) rfl)) (zWi_14 _ (List.mem_of_getElem? (i := 10) rfl)) (zWi_27 _ (List.mem_of_getElem? (i := 2) rfl)) (zWi_12 _ (List.mem_of_getElem? (i := 13) rfl)) (zWi_2 _ (List.mem_of_getElem? (i := 39) rfl)) (by decide +kernel) rfl rfl ⟨Nat.le_of_ble_eq_true rfl, Nat.le_of_ble_eq_true rfl⟩
theorem kX12_explain_329 : ∀ (s9 : State) (a9 : Array Value), (∀ w ∈ wzX12_explain, w.before a9 s9 = true) → CallW rmX12_explain s9 a9 RX12 RX12 329 yX12_there cX12_there 5 (some .int) wzX12_there rmX12_there 0 0 1 := zcV (zWi_23 _ (List.mem_of_getElem? (i := 13) rfl)) (zWi_15 _ (List.mem_of_getElem? (i := 26) rfl)) (zWi_28 _ (List.mem_of_getElem? (i := 17) rfl)) (zWi_12 _ (List.mem_of_getElem? (i := 13) rfl)) (zWi_4 _ (List.mem_of_getElem? (i := 8) rfl)) (by decide +kernel) rfl rfl ⟨Nat.le_of_ble_eq_true rfl, Nat.le_of_ble_eq_true rfl⟩
theorem kX12_explain_326 : ∀ (s9 : State) (a9 : Array Value), (∀ w ∈ wzX12_explain, w.before a9 s9 = true) → CallW rmX12_explain s9 a9 RX12 RX12 326 yX12_due cX12_due 2 (some .int) wzX12_due rmX12_due 0 0 1 := zcV (zWi_23 _ (List.mem_of_getElem? (i := 12) rfl)) (zWi_14 _ (List.mem_of_getElem? (i := 6) rfl)) (zWi_26 _ (List.mem_of_getElem? (i := 48) rfl)) (zWi_12 _ (List.mem_of_getElem? (i := 13) rfl)) (zWi_2 _ (List.mem_of_getElem? (i := 35) rfl)) (by decide +kernel) rfl rfl ⟨Nat.le_of_ble_eq_true rfl, Nat.le_of_ble_eq_true rfl⟩
theorem kX12_explain_123 : zml_mmax wzX12_explain RX12 123 := ⟨List.mem_cons_of_mem _ (zWi_22 _ (List.mem_of_getElem? (i := 20) rfl)), List.mem_cons_of_mem _ (zWi_30 _ (List.mem_of_getElem? (i := 2) rfl)), List.mem_cons_of_mem _ (zWi_12 _ (List.mem_of_getElem? (i := 0) rfl)), List.mem_cons_of_mem _ (zWi_0 _ (List.mem_of_getElem? (i := 27) rfl))⟩
theorem kX12_explain_332 : ∀ (s9 : State) (a9 : Array Value), (∀ w ∈ wzX12_explain, w.before a9 s9 = true) → CallW rmX12_explain s9 a9 RX12 RX12 332 yX12_slugs cX12_slugs 7 (some .int) wzX12_slugs rmX12_slugs 0 0 0 := zcV (zWi_23 _ (List.mem_of_getElem? (i := 14) rfl)) (zWi_15 _ (List.mem_of_getElem? (i := 18) rfl)) (zWi_28 _ (List.mem_of_getElem? (i := 9) rfl)) (zWi_12 _ (List.mem_of_getElem? (i := 13) rfl)) (zWi_4 _ (List.mem_of_getElem? (i := 0) rfl)) (by decide +kernel) rfl rfl ⟨Nat.le_of_ble_eq_true rfl, Nat.le_of_ble_eq_true rfl⟩
theorem kX12_explain_228 : zml_mmin wzX12_explain RX12 228 := ⟨List.mem_cons_of_mem _ (zWi_22 _ (List.mem_of_getElem? (i := 36) rfl)), List.mem_cons_of_mem _ (zWi_30 _ (List.mem_of_getElem? (i := 3) rfl)), List.mem_cons_of_mem _ (zWi_12 _ (List.mem_of_getElem? (i := 0) rfl)), List.mem_cons_of_mem _ (zWi_0 _ (List.mem_of_getElem? (i := 28) rfl))⟩
def paV (V : zM) (od : Nat → Int) (i : Nat) : Nat := if 0 < od i then pst V i else 0
theorem paV_lt {V : zM} (hs : ICs V) (od : Nat → Int) (i : Nat) : paV V od i < 2 ^ 8 := by
  have := pst_lt hs i
  unfold paV
  split <;> omega
def lm (f : Nat → Int) : Nat → Int
  | 0 => 1000000
  | t + 1 => min (lm f t) (f t)
theorem lm_e {f : Nat → Int} (h : ∀ t, f t ≤ 1000000) : ∀ t, lm f (t + 1) = minU f t
  | 0 => by have := h 0; simp only [lm, minU]; omega
  | t + 1 => by
    have a := lm_e h t
    show min (lm f (t + 1)) (f (t + 1)) = min (minU f t) (f (t + 1))
    rw [a]
theorem sg4 {E : zE} {X : zX} {Qp : Option zV → zM → Prop} {N : zM} {od : Nat → Int} {n set ps : Nat} {c a0 least : Int} (S : zS (zg E) X cX12_slugs 7 wzX12_slugs RX12 (some .int)) (hn8 : n ≤ 8) (hc : c ≤ 10000000) (hc0 : 0 ≤ c) (ho : ∀ i, i < n → N 192 i = od i ∧ -c ≤ od i ∧ od i ≤ c) (hps : ps < 2 ^ 8) (ha : 0 ≤ a0 ∧ a0 ≤ 100000000)
    (k : zK (zg E) rmX12_slugs 7 (Qp, 0, 0) X (0, 0) 206 [some (zR 180), some (zI n), some (zI least), some (zI set), some (zI (a0 + cutB od ps n)), some (zI ps), some (zI n)] [] N) : ∀ r i : Nat, r + i = n → zK (zg E) rmX12_slugs 7 (Qp, 0, 0) X (0, 0) 162 [some (zR 180), some (zI n), some (zI least), some (zI set), some (zI (a0 + cutB od ps i)), some (zI ps), some (zI i)] [] N := by
  intro r
  induction r with
  | zero =>
    intro i hi
    obtain rfl : i = n := by omega
    refine zr_iload (pc := 162) S dX12_slugs_162 rfl ?_
    refine zr_iload_n (pc := 164) S dX12_slugs_164 rfl ?_
    refine zr_icmp_ge (pc := 165) (tgt := 206) S dX12_slugs_165 (by decide) (fun c165 => ?_) (fun c165 => absurd c165 (by omega))
    exact k
  | succ r ih =>
    intro i hi
    have e : (i : Int).toNat = i := Int.toNat_natCast i
    obtain ⟨o1, o⟩ := ho i (by omega)
    have b := cutB_r (od := od) (c := c) (ps := ps) (N := n) (fun i hi => (ho i hi).2) i (by omega)
    have hcm : c * (i : Int) ≤ c * 8 := Int.mul_le_mul_of_nonneg_left (by omega) hc0
    have t := tb_mod ps i
    have q := ih (i + 1) (by omega)
    simp only [cutB] at q
    rw [← Int.add_assoc, Int.natCast_add, Int.natCast_one] at q
    refine zr_iload (pc := 162) S dX12_slugs_162 rfl ?_
    refine zr_iload_n (pc := 164) S dX12_slugs_164 rfl ?_
    refine zr_icmp_ge (pc := 165) (tgt := 206) S dX12_slugs_165 (by decide) (fun c165 => absurd c165 (by omega)) (fun c165 => ?_)
    refine zr_iload (pc := 168) S dX12_slugs_168 rfl ?_
    refine zr_iload (pc := 170) S dX12_slugs_170 rfl ?_
    refine zr_iload (pc := 172) S dX12_slugs_172 rfl ?_
    refine zr_ishr (pc := 174) S dX12_slugs_174 (by omega) (by omega) ?_
    rw [e]
    refine zr_iconst (pc := 175) S dX12_slugs_175 (by unfold zrI; omega) ?_
    refine zr_iandm (pc := 176) S 1 dX12_slugs_176 (by decide) rfl ?_
    refine zr_iconst (pc := 177) S dX12_slugs_177 (by unfold zrI; omega) ?_
    refine zr_icmp_ne (pc := 178) (tgt := 196) S dX12_slugs_178 (by decide) (fun c178 => ?_) (fun c178 => ?_)
    · have hb : ps.testBit i = false := by
        cases hq : ps.testBit i
        · rfl
        · exact absurd (t.mpr hq) c178
      simp only [hb, Bool.false_eq_true, if_false] at q
      refine zr_iconst (pc := 196) S dX12_slugs_196 (by unfold zrI; omega) ?_
      refine zr_iadd (pc := 197) S dX12_slugs_197 (by unfold zrI; omega) ?_
      refine zr_istore (pc := 198) S dX12_slugs_198 (by decide) ?_
      dsimp only [zst1, zst2, zset, zget, zlong]
      refine zr_iinc (pc := 200) S dX12_slugs_200 rfl (by unfold zrI; omega) (by decide) ?_
      dsimp only [zst1, zst2, zset, zget, zlong]
      refine zr_goto (pc := 203) (tgt := 162) S dX12_slugs_203 (by decide) ?_
      exact q
    · have hb : ps.testBit i = true := t.mp c178
      simp only [hb, if_true] at q
      refine zr_iconst (pc := 181) S dX12_slugs_181 (by unfold zrI; omega) ?_
      refine zr_aload_n (pc := 182) S dX12_slugs_182 rfl ?_
      refine zr_getR (pc := 183) S fX12_slugs_53 dX12_slugs_183 rfl (Nat.le_of_ble_eq_true rfl) rfl ?_
      refine zr_iload (pc := 186) S dX12_slugs_186 rfl ?_
      refine zr_iaload (pc := 188) S dX12_slugs_188 rfl (Nat.le_of_ble_eq_true rfl) (by omega) (by omega) ?_
      rw [e, o1]
      refine zr_ineg (pc := 189) S dX12_slugs_189 (by unfold zrI; omega) ?_
      refine zr_mmax (pc := 190) S kX12_slugs_123 dX12_slugs_190 (Nat.le_of_ble_eq_true rfl) (Nat.le_of_ble_eq_true rfl) ⟨Nat.le_of_ble_eq_true rfl, Nat.le_of_ble_eq_true rfl⟩ ?_
      refine zr_goto (pc := 193) (tgt := 197) S dX12_slugs_193 (by decide) ?_
      refine zr_iadd (pc := 197) S dX12_slugs_197 (by unfold zrI; omega) ?_
      refine zr_istore (pc := 198) S dX12_slugs_198 (by decide) ?_
      dsimp only [zst1, zst2, zset, zget, zlong]
      refine zr_iinc (pc := 200) S dX12_slugs_200 rfl (by unfold zrI; omega) (by decide) ?_
      dsimp only [zst1, zst2, zset, zget, zlong]
      refine zr_goto (pc := 203) (tgt := 162) S dX12_slugs_203 (by decide) ?_
      exact q
theorem sg3 {E : zE} {X : zX} {Qp : Option zV → zM → Prop} {N : zM} {od : Nat → Int} {pa : Nat → Nat} {n set : Nat} {c least : Int} (S : zS (zg E) X cX12_slugs 7 wzX12_slugs RX12 (some .int)) (hn8 : n ≤ 8) (hc : c ≤ 10000000) (hc0 : 0 ≤ c) (ho : ∀ i, i < n → N 192 i = od i ∧ -c ≤ od i ∧ od i ≤ c) (hp : ∀ i, i < n → N 193 i = (pa i : Nat) ∧ pa i < 2 ^ 8)
    (k : zK (zg E) rmX12_slugs 7 (Qp, 0, 0) X (0, 0) 206 [some (zR 180), some (zI n), some (zI least), some (zI set), some (zI (cutF od pa n set)), some (zI (cutP pa set n : Nat)), some (zI n)] [] N) : ∀ r i : Nat, r + i = n → zK (zg E) rmX12_slugs 7 (Qp, 0, 0) X (0, 0) 106 [some (zR 180), some (zI n), some (zI least), some (zI set), some (zI (cutA od set i)), some (zI (cutP pa set i : Nat)), some (zI i)] [] N := by
  intro r
  induction r with
  | zero =>
    intro i hi
    obtain rfl : i = n := by omega
    have a := cutA_r (od := od) (c := c) (set := set) (N := i) (fun j hj => (ho j hj).2) i (Nat.le_refl _)
    have hcm : c * (i : Int) ≤ c * 8 := Int.mul_le_mul_of_nonneg_left (by omega) hc0
    have l := sg4 (E := E) (X := X) (Qp := Qp) (N := N) (od := od) (n := i) (set := set) (ps := cutP pa set i) (c := c) (a0 := cutA od set i) (least := least) S hn8 hc hc0 ho (cutP_lt (N := i) (fun j hj => (hp j hj).2) i (Nat.le_refl _)) (by omega) k i 0 (by omega)
    simp only [cutB, Int.add_zero] at l
    refine zr_iload (pc := 106) S dX12_slugs_106 rfl ?_
    refine zr_iload_n (pc := 108) S dX12_slugs_108 rfl ?_
    refine zr_icmp_ge (pc := 109) (tgt := 159) S dX12_slugs_109 (by decide) (fun c109 => ?_) (fun c109 => absurd c109 (by omega))
    refine zr_iconst (pc := 159) S dX12_slugs_159 (by unfold zrI; omega) ?_
    refine zr_istore (pc := 160) S dX12_slugs_160 (by decide) ?_
    dsimp only [zst1, zst2, zset, zget, zlong]
    exact l
  | succ r ih =>
    intro i hi
    have e : (i : Int).toNat = i := Int.toNat_natCast i
    obtain ⟨o1, o⟩ := ho i (by omega)
    obtain ⟨p1, p2⟩ := hp i (by omega)
    have a := cutA_r (od := od) (c := c) (set := set) (N := n) (fun i hi => (ho i hi).2) i (by omega)
    have hcm : c * (i : Int) ≤ c * 8 := Int.mul_le_mul_of_nonneg_left (by omega) hc0
    have t := tb_mod set i
    have q := ih (i + 1) (by omega)
    simp only [cutA, cutP] at q
    rw [Int.natCast_add, Int.natCast_one] at q
    refine zr_iload (pc := 106) S dX12_slugs_106 rfl ?_
    refine zr_iload_n (pc := 108) S dX12_slugs_108 rfl ?_
    refine zr_icmp_ge (pc := 109) (tgt := 159) S dX12_slugs_109 (by decide) (fun c109 => absurd c109 (by omega)) (fun c109 => ?_)
    refine zr_iload_n (pc := 112) S dX12_slugs_112 rfl ?_
    refine zr_iload (pc := 113) S dX12_slugs_113 rfl ?_
    refine zr_ishr (pc := 115) S dX12_slugs_115 (by omega) (by omega) ?_
    rw [e]
    refine zr_iconst (pc := 116) S dX12_slugs_116 (by unfold zrI; omega) ?_
    refine zr_iandm (pc := 117) S 1 dX12_slugs_117 (by decide) rfl ?_
    refine zr_iconst (pc := 118) S dX12_slugs_118 (by unfold zrI; omega) ?_
    refine zr_icmp_ne (pc := 119) (tgt := 137) S dX12_slugs_119 (by decide) (fun c119 => ?_) (fun c119 => ?_)
    · have hb : set.testBit i = false := by
        cases hq : set.testBit i
        · rfl
        · exact absurd (t.mpr hq) c119
      simp only [hb, Bool.false_eq_true, if_false] at q
      refine zr_iload (pc := 137) S dX12_slugs_137 rfl ?_
      refine zr_iconst (pc := 139) S dX12_slugs_139 (by unfold zrI; omega) ?_
      refine zr_aload_n (pc := 140) S dX12_slugs_140 rfl ?_
      refine zr_getR (pc := 141) S fX12_slugs_53 dX12_slugs_141 rfl (Nat.le_of_ble_eq_true rfl) rfl ?_
      refine zr_iload (pc := 144) S dX12_slugs_144 rfl ?_
      refine zr_iaload (pc := 146) S dX12_slugs_146 rfl (Nat.le_of_ble_eq_true rfl) (by omega) (by omega) ?_
      rw [e, o1]
      refine zr_mmax (pc := 147) S kX12_slugs_123 dX12_slugs_147 (Nat.le_of_ble_eq_true rfl) (Nat.le_of_ble_eq_true rfl) ⟨Nat.le_of_ble_eq_true rfl, Nat.le_of_ble_eq_true rfl⟩ ?_
      refine zr_iadd (pc := 150) S dX12_slugs_150 (by unfold zrI; omega) ?_
      refine zr_istore (pc := 151) S dX12_slugs_151 (by decide) ?_
      dsimp only [zst1, zst2, zset, zget, zlong]
      refine zr_iinc (pc := 153) S dX12_slugs_153 rfl (by unfold zrI; omega) (by decide) ?_
      dsimp only [zst1, zst2, zset, zget, zlong]
      refine zr_goto (pc := 156) (tgt := 106) S dX12_slugs_156 (by decide) ?_
      exact q
    · have hb : set.testBit i = true := t.mp c119
      simp only [hb, if_true, Int.add_zero] at q
      refine zr_iload (pc := 122) S dX12_slugs_122 rfl ?_
      refine zr_aload_n (pc := 124) S dX12_slugs_124 rfl ?_
      refine zr_getR (pc := 125) S fX12_slugs_56 dX12_slugs_125 rfl (Nat.le_of_ble_eq_true rfl) rfl ?_
      refine zr_iload (pc := 128) S dX12_slugs_128 rfl ?_
      refine zr_iaload (pc := 130) S dX12_slugs_130 rfl (Nat.le_of_ble_eq_true rfl) (by omega) (by omega) ?_
      rw [e, p1]
      refine zr_ior (pc := 131) S dX12_slugs_131 (by omega) (by omega) ?_
      rw [Int.toNat_natCast, Int.toNat_natCast]
      refine zr_istore (pc := 132) S dX12_slugs_132 (by decide) ?_
      dsimp only [zst1, zst2, zset, zget, zlong]
      refine zr_goto (pc := 134) (tgt := 153) S dX12_slugs_134 (by decide) ?_
      refine zr_iinc (pc := 153) S dX12_slugs_153 rfl (by unfold zrI; omega) (by decide) ?_
      dsimp only [zst1, zst2, zset, zget, zlong]
      refine zr_goto (pc := 156) (tgt := 106) S dX12_slugs_156 (by decide) ?_
      exact q
theorem sg2 {E : zE} {X : zX} {Qp : Option zV → zM → Prop} {N : zM} {od : Nat → Int} {pa : Nat → Nat} {n : Nat} {c : Int} (S : zS (zg E) X cX12_slugs 7 wzX12_slugs RX12 (some .int)) (hn8 : n ≤ 8) (hc : 16 * c ≤ 1000000) (hc0 : 0 ≤ c) (ho : ∀ i, i < n → N 192 i = od i ∧ -c ≤ od i ∧ od i ≤ c) (hp : ∀ i, i < n → N 193 i = (pa i : Nat) ∧ pa i < 2 ^ 8)
    (hQ : Qp (some (zI (minU (cutF od pa n) (2 ^ n - 1)))) N) : ∀ (r t : Nat) (u4 u5 u6 : Option zV), r + t = 2 ^ n → zK (zg E) rmX12_slugs 7 (Qp, 0, 0) X (0, 0) 90 [some (zR 180), some (zI n), some (zI (lm (cutF od pa n) t)), some (zI t), u4, u5, u6] [] N := by
  have hp256 : 2 ^ n ≤ 256 := by
    have : 2 ^ n ≤ 2 ^ 8 := Nat.pow_le_pow_right (by omega) (by omega)
    omega
  have hp0 : 0 < 2 ^ n := Nat.two_pow_pos n
  have en : (n : Int).toNat = n := Int.toNat_natCast n
  have hp2 : 1 * (2 : Int) ^ n = ((2 ^ n : Nat) : Int) := by simp
  have cr : ∀ t, 0 ≤ cutF od pa n t ∧ cutF od pa n t ≤ 16 * c := fun t => cutF_r hc0 hn8 (fun i hi => (ho i hi).2)
  intro r
  induction r with
  | zero =>
    intro t u4 u5 u6 ht
    have ev : lm (cutF od pa n) t = minU (cutF od pa n) (2 ^ n - 1) := by
      rw [show t = (2 ^ n - 1) + 1 by omega, lm_e (fun t => by have := cr t; omega)]
    refine zr_iload_n (pc := 90) S dX12_slugs_90 rfl ?_
    refine zr_iconst (pc := 91) S dX12_slugs_91 (by unfold zrI; omega) ?_
    refine zr_iload_n (pc := 92) S dX12_slugs_92 rfl ?_
    refine zr_ishl (pc := 93) S dX12_slugs_93 (by decide) (by omega) (by omega) (by rw [en, hp2]; omega) ?_
    rw [en, hp2]
    refine zr_icmp_ge (pc := 94) (tgt := 219) S dX12_slugs_94 (by decide) (fun c94 => ?_) (fun c94 => absurd c94 (by omega))
    refine zr_iload_n (pc := 219) S dX12_slugs_219 rfl ?_
    exact zr_iret (pc := 220) S dX12_slugs_220 rfl ⟨Nat.le_refl _, Nat.le_refl _⟩ (zqi hQ ev)
  | succ r ih =>
    intro t u4 u5 u6 ht
    have q := fun u4 u5 u6 => ih (t + 1) u4 u5 u6 (by omega)
    simp only [lm] at q
    rw [Int.natCast_add, Int.natCast_one] at q
    have l := sg3 (E := E) (X := X) (Qp := Qp) (N := N) (od := od) (pa := pa) (n := n) (set := t) (c := c) (least := lm (cutF od pa n) t) S hn8 (by omega) hc0 ho hp (by
      refine zr_iload_n (pc := 206) S dX12_slugs_206 rfl ?_
      refine zr_iload (pc := 207) S dX12_slugs_207 rfl ?_
      refine zr_mmin (pc := 209) S kX12_slugs_228 dX12_slugs_209 (Nat.le_of_ble_eq_true rfl) (Nat.le_of_ble_eq_true rfl) ⟨Nat.le_of_ble_eq_true rfl, Nat.le_of_ble_eq_true rfl⟩ ?_
      refine zr_istore_n (pc := 212) S 2 dX12_slugs_212 rfl (by decide) ?_
      dsimp only [zst1, zst2, zset, zget, zlong]
      refine zr_iinc (pc := 213) S dX12_slugs_213 rfl (by unfold zrI; omega) (by decide) ?_
      dsimp only [zst1, zst2, zset, zget, zlong]
      refine zr_goto (pc := 216) (tgt := 90) S dX12_slugs_216 (by decide) ?_
      exact q _ _ _) n 0 (by omega)
    refine zr_iload_n (pc := 90) S dX12_slugs_90 rfl ?_
    refine zr_iconst (pc := 91) S dX12_slugs_91 (by unfold zrI; omega) ?_
    refine zr_iload_n (pc := 92) S dX12_slugs_92 rfl ?_
    refine zr_ishl (pc := 93) S dX12_slugs_93 (by decide) (by omega) (by omega) (by rw [en, hp2]; omega) ?_
    rw [en, hp2]
    refine zr_icmp_ge (pc := 94) (tgt := 219) S dX12_slugs_94 (by decide) (fun c94 => absurd c94 (by omega)) (fun c94 => ?_)
    refine zr_iconst (pc := 97) S dX12_slugs_97 (by unfold zrI; omega) ?_
    refine zr_istore (pc := 98) S dX12_slugs_98 (by decide) ?_
    dsimp only [zst1, zst2, zset, zget, zlong]
    refine zr_iconst (pc := 100) S dX12_slugs_100 (by unfold zrI; omega) ?_
    refine zr_istore (pc := 101) S dX12_slugs_101 (by decide) ?_
    dsimp only [zst1, zst2, zset, zget, zlong]
    refine zr_iconst (pc := 103) S dX12_slugs_103 (by unfold zrI; omega) ?_
    refine zr_istore (pc := 104) S dX12_slugs_104 (by decide) ?_
    dsimp only [zst1, zst2, zset, zget, zlong]
    exact l
end
