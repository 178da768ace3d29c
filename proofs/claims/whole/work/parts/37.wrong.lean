section
variable {G : zG} {R : Room} {nL : Nat} {q : zq} {X : zX} {b : Nat × Nat} {cc : ByteArray} {Ts : List Cond} {own : String} {ret : Option FieldType} {pc : Nat} {ls : List (Option zV)} {st : List zV} {M : zM}
theorem zr_ldiv (S : zS G X cc nL Ts own ret) {x y : Int} (hd : decode cc pc = .ok (.ldiv, 1)) (h0 : 0 ≤ x) (h1 : 0 < y) (k : zK G R nL q X b (pc + 1) ls (zL (x / y) :: st) M) : zK G R nL q X b pc ls (zL y :: zL x :: st) M := by
  intro ho hl hM H locs arr hP hS hh
  have hy : zrL y := zokh ho
  have hx : zrL x := zokh (zokt ho)
  have hle : x / y ≤ x := Int.ediv_le_self y h0
  have hge : 0 ≤ x / y := Int.ediv_nonneg h0 (by omega)
  have hr : zrL (x / y) := by unfold zrL at *; omega
  refine lv_ldiv S.1.1 S.1.2.1 hd (fun z => ?_) ?_
  · have := (zL_eq hy (show zrL 0 from ⟨by omega, by omega⟩)).mp z
    omega
  · have e : Int64.ofInt x / Int64.ofInt y = Int64.ofInt (x / y) := by
      apply Int64.toInt_inj.mp
      rw [Int64.toInt_div, zL_toInt hx, zL_toInt hy, zL_toInt hr, Int.tdiv_eq_ediv_of_nonneg h0]
      exact Int.bmod_eq_of_le (by unfold zrL at hr; omega) (by unfold zrL at hr; omega)
    rw [e]
    exact k (zokc (v := zL (x / y)) hr (zokt (zokt ho))) hl hM H locs arr hP hS hh
end
section
def rmX6_wrongOf : Room := { frames := 3, cells := 0, slots := 0, locals := 75 }
abbrev wzX6_wrongOf : List Cond := .code yX6_wrongOf cX6_wrongOf 7 (some .long) :: zW
theorem fX6_wrongOf_28 : zfl wzX6_wrongOf RX6 vwCl 28 6 0 := ⟨_, _, _, rfl, (fun w h => List.mem_cons_of_mem _ (zWuX6 w h)), by decide, List.mem_cons_of_mem _ (zWi_11 _ (List.mem_of_getElem? (i := 2) rfl))⟩
theorem fX6_wrongOf_9 : zfl wzX6_wrongOf RX6 vwCl 9 6 2 := ⟨_, _, _, rfl, (fun w h => List.mem_cons_of_mem _ (zWuX6 w h)), by decide, List.mem_cons_of_mem _ (zWi_11 _ (List.mem_of_getElem? (i := 11) rfl))⟩
theorem fX6_wrongOf_70 : zfl wzX6_wrongOf RX6 vwCl 70 7 1 := ⟨_, _, _, rfl, (fun w h => List.mem_cons_of_mem _ (zWuX7 w h)), by decide, List.mem_cons_of_mem _ (zWi_11 _ (List.mem_of_getElem? (i := 9) rfl))⟩
theorem fX6_wrongOf_109 : zfl wzX6_wrongOf RX6 vwCl 109 7 0 := ⟨_, _, _, rfl, (fun w h => List.mem_cons_of_mem _ (zWuX7 w h)), by decide, List.mem_cons_of_mem _ (zWi_10 _ (List.mem_of_getElem? (i := 43) rfl))⟩
theorem kX6_wrongOf_102 : ∀ (s9 : State) (a9 : Array Value), (∀ w ∈ wzX6_wrongOf, w.before a9 s9 = true) → CallW rmX6_wrongOf s9 a9 RX6 RX6 102 yX6_tell cX6_tell 4 none wzX6_tell rmX6_tell 0 0 1 := zcV (zWi_24 _ (List.mem_of_getElem? (i := 21) rfl)) (zWi_16 _ (List.mem_of_getElem? (i := 40) rfl)) (zWi_29 _ (List.mem_of_getElem? (i := 17) rfl)) (zWi_12 _ (List.mem_of_getElem? (i := 18) rfl)) (zWi_5 _ (List.mem_of_getElem? (i := 24) rfl)) (by decide +kernel) rfl rfl ⟨Nat.le_of_ble_eq_true rfl, Nat.le_of_ble_eq_true rfl⟩
theorem kX6_wrongOf_106 : ∀ (s9 : State) (a9 : Array Value), (∀ w ∈ wzX6_wrongOf, w.before a9 s9 = true) → CallW rmX6_wrongOf s9 a9 RX6 RX7 106 yX7_worth cX7_worth 2 (some .int) wzX7_worth rmX7_worth 0 0 1 := zcV (zWi_24 _ (List.mem_of_getElem? (i := 22) rfl)) (zWi_17 _ (List.mem_of_getElem? (i := 2) rfl)) (zWi_29 _ (List.mem_of_getElem? (i := 28) rfl)) (zWi_12 _ (List.mem_of_getElem? (i := 19) rfl)) (zWi_5 _ (List.mem_of_getElem? (i := 36) rfl)) (by decide +kernel) rfl rfl ⟨Nat.le_of_ble_eq_true rfl, Nat.le_of_ble_eq_true rfl⟩
theorem kX6_wrongOf_61 : ∀ (s9 : State) (a9 : Array Value), (∀ w ∈ wzX6_wrongOf, w.before a9 s9 = true) → CallW rmX6_wrongOf s9 a9 RX6 RX7 61 yX7_isGood cX7_isGood 2 (some .boolean) wzX7_isGood rmX7_isGood 0 0 1 := zcV (zWi_24 _ (List.mem_of_getElem? (i := 34) rfl)) (zWi_16 _ (List.mem_of_getElem? (i := 48) rfl)) (zWi_29 _ (List.mem_of_getElem? (i := 24) rfl)) (zWi_12 _ (List.mem_of_getElem? (i := 19) rfl)) (zWi_5 _ (List.mem_of_getElem? (i := 32) rfl)) (by decide +kernel) rfl rfl ⟨Nat.le_of_ble_eq_true rfl, Nat.le_of_ble_eq_true rfl⟩
theorem kX6_wrongOf_110 : zml_mmax wzX6_wrongOf RX6 110 := ⟨List.mem_cons_of_mem _ (zWi_24 _ (List.mem_of_getElem? (i := 23) rfl)), List.mem_cons_of_mem _ (zWi_30 _ (List.mem_of_getElem? (i := 2) rfl)), List.mem_cons_of_mem _ (zWi_12 _ (List.mem_of_getElem? (i := 0) rfl)), List.mem_cons_of_mem _ (zWi_0 _ (List.mem_of_getElem? (i := 27) rfl))⟩
theorem kX6_wrongOf_113 : ∀ (s9 : State) (a9 : Array Value), (∀ w ∈ wzX6_wrongOf, w.before a9 s9 = true) → CallW rmX6_wrongOf s9 a9 RX6 RX7 113 yX7_size cX7_size 5 (some .long) wzX7_size rmX7_size 0 0 1 := zcV (zWi_24 _ (List.mem_of_getElem? (i := 24) rfl)) (zWi_17 _ (List.mem_of_getElem? (i := 0) rfl)) (zWi_29 _ (List.mem_of_getElem? (i := 26) rfl)) (zWi_12 _ (List.mem_of_getElem? (i := 19) rfl)) (zWi_5 _ (List.mem_of_getElem? (i := 34) rfl)) (by decide +kernel) rfl rfl ⟨Nat.le_of_ble_eq_true rfl, Nat.le_of_ble_eq_true rfl⟩
theorem cnt3_r {M : zM} (hs : ICs M) {s : Int} (h0 : 0 ≤ s) (h1 : s < 8) (o : Nat) : 0 ≤ cnt3 M s o ∧ cnt3 M s o ≤ size3 M s := by
  have a := span_r hs h0 h1 (m := 0) (by omega) (by omega)
  have b := span_r hs h0 h1 (m := 1) (by omega) (by omega)
  have c := span_r hs h0 h1 (m := 2) (by omega) (by omega)
  have i1 : ∀ x y : Nat, 0 ≤ sumU (fun c => dlt M o (x ||| y ||| bm M 2 (lowOf M s 2 + c))) (highOf M s 2 + 1 - lowOf M s 2).toNat ∧ sumU (fun c => dlt M o (x ||| y ||| bm M 2 (lowOf M s 2 + c))) (highOf M s 2 + 1 - lowOf M s 2).toNat ≤ 1 * ((highOf M s 2 + 1 - lowOf M s 2).toNat : Int) := fun x y => sumU_r (N := (highOf M s 2 + 1 - lowOf M s 2).toNat) (fun i hi => by simp only [dlt]; split <;> omega) _ (Nat.le_refl _)
  have i2 : ∀ x : Nat, 0 ≤ sumU (fun b => sumU (fun c => dlt M o (x ||| bm M 1 (lowOf M s 1 + b) ||| bm M 2 (lowOf M s 2 + c))) (highOf M s 2 + 1 - lowOf M s 2).toNat) (highOf M s 1 + 1 - lowOf M s 1).toNat ∧ sumU (fun b => sumU (fun c => dlt M o (x ||| bm M 1 (lowOf M s 1 + b) ||| bm M 2 (lowOf M s 2 + c))) (highOf M s 2 + 1 - lowOf M s 2).toNat) (highOf M s 1 + 1 - lowOf M s 1).toNat ≤ 1 * ((highOf M s 2 + 1 - lowOf M s 2).toNat : Int) * ((highOf M s 1 + 1 - lowOf M s 1).toNat : Int) := fun x => sumU_r (N := (highOf M s 1 + 1 - lowOf M s 1).toNat) (fun i hi => i1 x _) _ (Nat.le_refl _)
  have i3 := sumU_r (f := fun a => sumU (fun b => sumU (fun c => dlt M o (bm M 0 (lowOf M s 0 + a) ||| bm M 1 (lowOf M s 1 + b) ||| bm M 2 (lowOf M s 2 + c))) (highOf M s 2 + 1 - lowOf M s 2).toNat) (highOf M s 1 + 1 - lowOf M s 1).toNat) (N := (highOf M s 0 + 1 - lowOf M s 0).toNat) (fun i hi => i2 _) _ (Nat.le_refl _)
  refine ⟨i3.1, ?_⟩
  have e : size3 M s = 1 * ((highOf M s 2 + 1 - lowOf M s 2).toNat : Int) * ((highOf M s 1 + 1 - lowOf M s 1).toNat : Int) * ((highOf M s 0 + 1 - lowOf M s 0).toNat : Int) := by
    rw [Int.toNat_of_nonneg (by omega), Int.toNat_of_nonneg (by omega), Int.toNat_of_nonneg (by omega)]
    unfold size3
    rw [show highOf M s 0 - lowOf M s 0 + 1 = highOf M s 0 + 1 - lowOf M s 0 by omega, show highOf M s 1 - lowOf M s 1 + 1 = highOf M s 1 + 1 - lowOf M s 1 by omega, show highOf M s 2 - lowOf M s 2 + 1 = highOf M s 2 + 1 - lowOf M s 2 by omega]
    rw [Int.one_mul, Int.mul_comm (_ * _) (highOf M s 2 + 1 - lowOf M s 2), Int.mul_assoc, Int.mul_comm (highOf M s 0 + 1 - lowOf M s 0)]
  rw [e]
  exact i3.2
theorem size3_r {M : zM} (hs : ICs M) {s : Int} (h0 : 0 ≤ s) (h1 : s < 8) : 1 ≤ size3 M s ∧ size3 M s ≤ 1000000 := by
  have := size3u_r hs h0 h1 3 (by omega)
  rw [size3_u] at this
  exact ⟨this.1, by have := this.2; omega⟩
theorem worth_r {M : zM} (hs : ICs M) (k : Int) : 0 ≤ worth M k ∧ worth M k ≤ 200 := by
  unfold worth
  split
  · rename_i h
    have h8 := hs.1
    have := hs.v (k := k) h.1.1 (by omega)
    omega
  · omega
/-- what wrong coins of a sort cost -/
def wsum (M : zM) (s : Int) : Nat → Int
  | 0 => if isGood M s then cnt3 M s 0 * M 3 3 else 0
  | k + 1 => wsum M s k + (if (k : Int) = s then 0 else cnt3 M s (k + 1) * max 0 (worth M k - worth M s))
def wrong (M : zM) (s : Int) : Int := 1000000 * wsum M s (M 2 0).toNat / size3 M s
theorem wsum_r {M : zM} (hs : ICs M) {s : Int} (h0 : 0 ≤ s) (h1 : s < 8) : ∀ k : Nat, 0 ≤ wsum M s k ∧ wsum M s k ≤ size3 M s * (999 + 200 * k)
  | 0 => by
    have c := cnt3_r hs h0 h1 0
    have t := hs.2.1
    have z := size3_r hs h0 h1
    have p := zmulr c.1 c.2 t.2.2.2.2.2.2.1 t.2.2.2.2.2.2.2
    simp only [wsum]
    split
    · omega
    · omega
  | k + 1 => by
    have ih := wsum_r hs h0 h1 k
    have c := cnt3_r hs h0 h1 (k + 1)
    have w1 := worth_r hs k
    have w2 := worth_r hs s
    have z := size3_r hs h0 h1
    have p := zmulr (a := cnt3 M s (k + 1)) (b := max 0 (worth M k - worth M s)) (B := 200) c.1 c.2 (by omega) (by omega)
    have e : size3 M s * (999 + 200 * ((k + 1 : Nat) : Int)) = size3 M s * (999 + 200 * k) + size3 M s * 200 := by
      rw [← Int.mul_add, show 999 + 200 * ((k + 1 : Nat) : Int) = 999 + 200 * k + 200 by omega]
    simp only [wsum]
    split
    · omega
    · omega
theorem wrong_r {M : zM} (hs : ICs M) {s : Int} (h0 : 0 ≤ s) (h1 : s < 8) : 0 ≤ wrong M s ∧ wrong M s ≤ 2599000000 := by
  have h8 := hs.1
  have a := wsum_r hs h0 h1 (M 2 0).toNat
  have z := size3_r hs h0 h1
  have b : size3 M s * (999 + 200 * ((M 2 0).toNat : Int)) ≤ size3 M s * 2599 := Int.mul_le_mul_of_nonneg_left (by omega) (by omega)
  unfold wrong
  refine ⟨Int.ediv_nonneg (by omega) (by omega), ?_⟩
  exact Int.ediv_le_of_le_mul (by omega) (by omega)
theorem offS.good {M N : zM} (h : offS M N) (k : Int) : isGood N k ↔ isGood M k := h.ag.good k
theorem ag_worth {M N : zM} (h : AG M N) (k : Int) : worth N k = worth M k := by
  unfold worth
  by_cases g : isGood M k
  · rw [if_pos g, if_pos ((h.good k).mpr g), h 4 (by decide)]
  · rw [if_neg g, if_neg (fun z => g ((h.good k).mp z))]
theorem ag_size3 {M N : zM} (h : AG M N) (k : Int) : size3 N k = size3 M k := by
  unfold size3
  rw [ag_lowOf h, ag_lowOf h, ag_lowOf h, ag_highOf h, ag_highOf h, ag_highOf h]
theorem lp_X6_wrongOf {E : zE} {X : zX} {Qp : Option zV → zM → Prop} {M N : zM} {s : Int} (S : zS (zg E) X cX6_wrongOf 7 wzX6_wrongOf RX6 (some .long)) (hs : ICs M) (h0 : 0 ≤ s) (h1 : s < 8) (hN : offS M N) (hT : ∀ o, o < 9 → N 48 o = cnt3 M s o) (hQ : Qp (some (zL (wrong M s))) N) : ∀ (n k : Nat) (u6 : Option zV), (n : Int) + k = M 2 0 → zK (zg E) rmX6_wrongOf 7 (Qp, 0, 0) X (0, 0) 50 [some (zR 47), some (zI s), some (zI (worth M s)), some (zL (wsum M s k)), none, some (zI k), u6] [] N := by
  have h8 := hs.1
  have ag := hN.ag
  have e2 := ag 2 (by decide)
  have z := size3_r hs h0 h1
  intro n
  induction n with
  | zero =>
    intro k u6 hk
    have e : k = (M 2 0).toNat := by omega
    have a := wsum_r hs h0 h1 k
    have b : size3 M s * (999 + 200 * (k : Int)) ≤ size3 M s * 2599 := Int.mul_le_mul_of_nonneg_left (by omega) (by omega)
    have ez := ag_size3 ag s
    have ew : 1000000 * wsum M s k / size3 M s = wrong M s := by unfold wrong; rw [← e]
    refine zr_iload (pc := 50) S dX6_wrongOf_50 rfl ?_
    refine zr_aload_n (pc := 52) S dX6_wrongOf_52 rfl ?_
    refine zr_getR (pc := 53) S fX6_wrongOf_28 dX6_wrongOf_53 rfl (Nat.le_of_ble_eq_true rfl) rfl ?_
    refine zr_getI (pc := 56) S fX6_wrongOf_109 dX6_wrongOf_56 rfl (Nat.le_of_ble_eq_true rfl) rfl ?_
    rw [e2]
    refine zr_icmp_ge (pc := 59) (tgt := 117) S dX6_wrongOf_59 (by decide) (fun c59 => ?_) (fun c59 => absurd c59 (by omega))
    refine zr_aload_n (pc := 117) S dX6_wrongOf_117 rfl ?_
    refine zr_getR (pc := 118) S fX6_wrongOf_28 dX6_wrongOf_118 rfl (Nat.le_of_ble_eq_true rfl) rfl ?_
    refine zr_iload_n (pc := 121) S dX6_wrongOf_121 rfl ?_
    refine zr_invV (pc := 122) S [zI _] (m_X7_size _) kX6_wrongOf_113 dX6_wrongOf_122 rfl (Nat.le_of_ble_eq_true rfl) rfl (Nat.le_of_ble_eq_true rfl) ⟨Nat.le_of_ble_eq_true rfl, Nat.le_of_ble_eq_true rfl⟩ (us_X7_size (ag.s hs) h0 h1 ?_)
    dsimp only [zaft, Option.toList, List.cons_append, List.nil_append, Nat.add_zero]
    rw [ez]
    refine zr_lstore (pc := 125) S dX6_wrongOf_125 (by decide) ?_
    dsimp only [zst1, zst2, zset, zget, zlong]
    refine zr_lload (pc := 127) S dX6_wrongOf_127 rfl ?_
    refine zr_lconst0 (pc := 129) S dX6_wrongOf_129 ?_
    refine zr_lcmp_le (pc := 130) (tgt := 145) S dX6_wrongOf_130 dX6_wrongOf_131 (by decide) (fun c130 => absurd c130 (by omega)) (fun c130 => ?_)
    refine zr_ldc2 (pc := 134) S (1000000) dX6_wrongOf_134 (List.mem_cons_of_mem _ (zWi_7 _ (List.mem_of_getElem? (i := 35) rfl))) (by unfold zrL; omega) ?_
    refine zr_lload_n (pc := 137) S dX6_wrongOf_137 rfl ?_
    refine zr_lmul (pc := 138) S dX6_wrongOf_138 (by unfold zrL; omega) ?_
    refine zr_lload (pc := 139) S dX6_wrongOf_139 rfl ?_
    refine zr_ldiv (pc := 141) S dX6_wrongOf_141 (by omega) (by omega) ?_
    refine zr_goto (pc := 142) (tgt := 146) S dX6_wrongOf_142 (by decide) ?_
    exact zr_lret (pc := 146) S dX6_wrongOf_146 rfl ⟨Nat.le_refl _, Nat.le_refl _⟩ (zql hQ ew)
  | succ n ih =>
    intro k u6 hk
    have a := wsum_r hs h0 h1 k
    have b : size3 M s * (999 + 200 * (k : Int)) ≤ size3 M s * 2599 := Int.mul_le_mul_of_nonneg_left (by omega) (by omega)
    have c := cnt3_r hs h0 h1 (k + 1)
    have w1 := worth_r hs k
    have w2 := worth_r hs s
    have p := zmulr (a := cnt3 M s (k + 1)) (b := max 0 (worth M k - worth M s)) (B := 200) c.1 c.2 (by omega) (by omega)
    have ek : ((k : Int) + 1).toNat = k + 1 := by omega
    have et := hT (k + 1) (by omega)
    have ew := ag_worth ag k
    have q := fun u6 => ih (k + 1) u6 (by omega)
    simp only [wsum] at q
    refine zr_iload (pc := 50) S dX6_wrongOf_50 rfl ?_
    refine zr_aload_n (pc := 52) S dX6_wrongOf_52 rfl ?_
    refine zr_getR (pc := 53) S fX6_wrongOf_28 dX6_wrongOf_53 rfl (Nat.le_of_ble_eq_true rfl) rfl ?_
    refine zr_getI (pc := 56) S fX6_wrongOf_109 dX6_wrongOf_56 rfl (Nat.le_of_ble_eq_true rfl) rfl ?_
    rw [e2]
    refine zr_icmp_ge (pc := 59) (tgt := 117) S dX6_wrongOf_59 (by decide) (fun c59 => absurd c59 (by omega)) (fun c59 => ?_)
    refine zr_iload (pc := 62) S dX6_wrongOf_62 rfl ?_
    refine zr_iload_n (pc := 64) S dX6_wrongOf_64 rfl ?_
    refine zr_icmp_eq (pc := 65) (tgt := 111) S dX6_wrongOf_65 (by decide) (fun c65 => ?_) (fun c65 => ?_)
    · simp only [if_pos c65, Int.add_zero] at q
      refine zr_iinc (pc := 111) S dX6_wrongOf_111 rfl (by unfold zrI; omega) (by decide) ?_
      dsimp only [zst1, zst2, zset, zget, zlong]
      refine zr_goto (pc := 114) (tgt := 50) S dX6_wrongOf_114 (by decide) ?_
      exact q _
    · rw [if_neg c65] at q
      refine zr_aload_n (pc := 68) S dX6_wrongOf_68 rfl ?_
      refine zr_getR (pc := 69) S fX6_wrongOf_9 dX6_wrongOf_69 rfl (Nat.le_of_ble_eq_true rfl) rfl ?_
      refine zr_iload (pc := 72) S dX6_wrongOf_72 rfl ?_
      refine zr_iconst (pc := 74) S dX6_wrongOf_74 (by unfold zrI; omega) ?_
      refine zr_iadd (pc := 75) S dX6_wrongOf_75 (by unfold zrI; omega) ?_
      refine zr_laload (pc := 76) S dX6_wrongOf_76 rfl (Nat.le_of_ble_eq_true rfl) (by omega) (by omega) ?_
      rw [ek, et]
      refine zr_lconst0 (pc := 77) S dX6_wrongOf_77 ?_
      refine zr_lcmp_le (pc := 78) (tgt := 111) S dX6_wrongOf_78 dX6_wrongOf_79 (by decide) (fun c78 => ?_) (fun c78 => ?_)
      · have e0 : cnt3 M s (k + 1) = 0 := by omega
        rw [e0, Int.zero_mul, Int.add_zero] at q
        refine zr_iinc (pc := 111) S dX6_wrongOf_111 rfl (by unfold zrI; omega) (by decide) ?_
        dsimp only [zst1, zst2, zset, zget, zlong]
        refine zr_goto (pc := 114) (tgt := 50) S dX6_wrongOf_114 (by decide) ?_
        exact q _
      · skip
        refine zr_lload_n (pc := 82) S dX6_wrongOf_82 rfl ?_
        refine zr_aload_n (pc := 83) S dX6_wrongOf_83 rfl ?_
        refine zr_getR (pc := 84) S fX6_wrongOf_9 dX6_wrongOf_84 rfl (Nat.le_of_ble_eq_true rfl) rfl ?_
        refine zr_iload (pc := 87) S dX6_wrongOf_87 rfl ?_
        refine zr_iconst (pc := 89) S dX6_wrongOf_89 (by unfold zrI; omega) ?_
        refine zr_iadd (pc := 90) S dX6_wrongOf_90 (by unfold zrI; omega) ?_
        refine zr_laload (pc := 91) S dX6_wrongOf_91 rfl (Nat.le_of_ble_eq_true rfl) (by omega) (by omega) ?_
        rw [ek, et]
        refine zr_iconst (pc := 92) S dX6_wrongOf_92 (by unfold zrI; omega) ?_
        refine zr_aload_n (pc := 93) S dX6_wrongOf_93 rfl ?_
        refine zr_getR (pc := 94) S fX6_wrongOf_28 dX6_wrongOf_94 rfl (Nat.le_of_ble_eq_true rfl) rfl ?_
        refine zr_iload (pc := 97) S dX6_wrongOf_97 rfl ?_
        refine zr_invV (pc := 99) S [zI _] (m_X7_worth _) kX6_wrongOf_106 dX6_wrongOf_99 rfl (Nat.le_of_ble_eq_true rfl) rfl (Nat.le_of_ble_eq_true rfl) ⟨Nat.le_of_ble_eq_true rfl, Nat.le_of_ble_eq_true rfl⟩ (us_X7_worth (ag.s hs) ?_)
        dsimp only [zaft, Option.toList, List.cons_append, List.nil_append, Nat.add_zero]
        rw [ew]
        refine zr_iload_n (pc := 102) S dX6_wrongOf_102 rfl ?_
        refine zr_isub (pc := 103) S dX6_wrongOf_103 (by unfold zrI; omega) ?_
        refine zr_mmax (pc := 104) S kX6_wrongOf_110 dX6_wrongOf_104 (Nat.le_of_ble_eq_true rfl) (Nat.le_of_ble_eq_true rfl) ⟨Nat.le_of_ble_eq_true rfl, Nat.le_of_ble_eq_true rfl⟩ ?_
        refine zr_i2l (pc := 107) S dX6_wrongOf_107 ?_
        refine zr_lmul (pc := 108) S dX6_wrongOf_108 (by unfold zrL; omega) ?_
        refine zr_ladd (pc := 109) S dX6_wrongOf_109 (by unfold zrL; omega) ?_
        refine zr_lstore_n (pc := 110) S 3 dX6_wrongOf_110 rfl (by decide) ?_
        dsimp only [zst1, zst2, zset, zget, zlong]
        refine zr_iinc (pc := 111) S dX6_wrongOf_111 rfl (by unfold zrI; omega) (by decide) ?_
        dsimp only [zst1, zst2, zset, zget, zlong]
        refine zr_goto (pc := 114) (tgt := 50) S dX6_wrongOf_114 (by decide) ?_
        exact q _
def sp_X6_wrongOf (as : List zV) (M : zM) (Q : Option zV → zM → Prop) : Prop := ∃ (s : Int), as = [zR 47, zI s] ∧ (ICg M) ∧ (ICs M) ∧ (0 ≤ s) ∧ (s < 8) ∧ (∀ n, n < 2 ^ (M 11 0).toNat → M 49 n = gl M n) ∧ (∀ (r : Option zV) (M' : zM), (r = some (zL (wrong M s)) ∧ offS M M') → Q r M')
theorem us_X6_wrongOf {s : Int} {M : zM} {Q : Option zV → zM → Prop} (hg : ICg M) (hs : ICs M) (h0 : 0 ≤ s) (h1 : s < 8) (hl : ∀ n, n < 2 ^ (M 11 0).toNat → M 49 n = gl M n) (h99 : (∀ (r : Option zV) (M' : zM), (r = some (zL (wrong M s)) ∧ offS M M') → Q r M')) : sp_X6_wrongOf [zR 47, zI s] M Q := ⟨s, rfl, hg, hs, h0, h1, hl, h99⟩
set_option maxRecDepth 20000 in
set_option maxHeartbeats 4000000 in
theorem m_X6_wrongOf (l : Launch) : zC l yX6_wrongOf wzX6_wrongOf rmX6_wrongOf sp_X6_wrongOf := by
  refine zMet.of RX6 (by decide +kernel) rfl rfl ?_
  intro E X as M Qp hX S hsp
  obtain ⟨s, rfl, hg, hs, h0, h1, hl, hQ⟩ := hsp
  refine ⟨Nat.le_of_ble_eq_true rfl, ?_⟩
  dsimp only [zpad, zargs]
  refine zr_aload_n (pc := 0) S dX6_wrongOf_0 rfl ?_
  refine zr_iload_n (pc := 1) S dX6_wrongOf_1 rfl ?_
  refine zr_invV (pc := 2) S [zI _] (m_X6_tell _) kX6_wrongOf_102 dX6_wrongOf_2 rfl (Nat.le_of_ble_eq_true rfl) rfl (Nat.le_of_ble_eq_true rfl) ⟨Nat.le_of_ble_eq_true rfl, Nat.le_of_ble_eq_true rfl⟩ (us_X6_tell hg hs h0 h1 hl ?_)
  rintro r N ⟨rfl, hN, hT⟩
  dsimp only [zaft, Option.toList, List.nil_append]
  have h8 := hs.1
  have ag := hN.ag
  have ew := ag_worth ag s
  have e3 := ag 3 (by decide)
  have c := cnt3_r hs h0 h1 0
  have z := size3_r hs h0 h1
  have t := hs.2.1
  have p := zmulr c.1 c.2 t.2.2.2.2.2.2.1 t.2.2.2.2.2.2.2
  have et := hT 0 (by omega)
  have q := fun u6 => lp_X6_wrongOf S hs h0 h1 hN hT (hQ _ _ ⟨rfl, hN⟩) (M 2 0).toNat 0 u6 (by omega)
  simp only [wsum] at q
  refine zr_aload_n (pc := 5) S dX6_wrongOf_5 rfl ?_
  refine zr_getR (pc := 6) S fX6_wrongOf_28 dX6_wrongOf_6 rfl (Nat.le_of_ble_eq_true rfl) rfl ?_
  refine zr_iload_n (pc := 9) S dX6_wrongOf_9 rfl ?_
  refine zr_invV (pc := 10) S [zI _] (m_X7_worth _) kX6_wrongOf_106 dX6_wrongOf_10 rfl (Nat.le_of_ble_eq_true rfl) rfl (Nat.le_of_ble_eq_true rfl) ⟨Nat.le_of_ble_eq_true rfl, Nat.le_of_ble_eq_true rfl⟩ (us_X7_worth (ag.s hs) ?_)
  dsimp only [zaft, Option.toList, List.cons_append, List.nil_append, Nat.add_zero]
  rw [ew]
  refine zr_istore_n (pc := 13) S 2 dX6_wrongOf_13 rfl (by decide) ?_
  dsimp only [zst1, zst2, zset, zget, zlong]
  refine zr_aload_n (pc := 14) S dX6_wrongOf_14 rfl ?_
  refine zr_getR (pc := 15) S fX6_wrongOf_28 dX6_wrongOf_15 rfl (Nat.le_of_ble_eq_true rfl) rfl ?_
  refine zr_iload_n (pc := 18) S dX6_wrongOf_18 rfl ?_
  refine zr_invV (pc := 19) S [zI _] (m_X7_isGood _) kX6_wrongOf_61 dX6_wrongOf_19 rfl (Nat.le_of_ble_eq_true rfl) rfl (Nat.le_of_ble_eq_true rfl) ⟨Nat.le_of_ble_eq_true rfl, Nat.le_of_ble_eq_true rfl⟩ (us_X7_isGood (ag.s hs) ?_)
  dsimp only [zaft, Option.toList, List.cons_append, List.nil_append, Nat.add_zero]
  refine zr_if_eq (pc := 22) (tgt := 45) S dX6_wrongOf_22 (by decide) (fun c22 => ?_) (fun c22 => ?_)
  · rw [b01_0] at c22
    rw [hN.good] at c22
    simp only [if_neg c22] at q
    refine zr_lconst0 (pc := 45) S dX6_wrongOf_45 ?_
    refine zr_lstore_n (pc := 46) S 3 dX6_wrongOf_46 rfl (by decide) ?_
    dsimp only [zst1, zst2, zset, zget, zlong]
    refine zr_iconst (pc := 47) S dX6_wrongOf_47 (by unfold zrI; omega) ?_
    refine zr_istore (pc := 48) S dX6_wrongOf_48 (by decide) ?_
    dsimp only [zst1, zst2, zset, zget, zlong]
    exact q _
  · rw [b01_0, Classical.not_not] at c22
    rw [hN.good] at c22
    simp only [if_pos c22] at q
    refine zr_aload_n (pc := 25) S dX6_wrongOf_25 rfl ?_
    refine zr_getR (pc := 26) S fX6_wrongOf_9 dX6_wrongOf_26 rfl (Nat.le_of_ble_eq_true rfl) rfl ?_
    refine zr_iconst (pc := 29) S dX6_wrongOf_29 (by unfold zrI; omega) ?_
    refine zr_laload (pc := 30) S dX6_wrongOf_30 rfl (Nat.le_of_ble_eq_true rfl) (by omega) (by omega) ?_
    dsimp only [Int.reduceToNat]
    rw [et]
    refine zr_aload_n (pc := 31) S dX6_wrongOf_31 rfl ?_
    refine zr_getR (pc := 32) S fX6_wrongOf_28 dX6_wrongOf_32 rfl (Nat.le_of_ble_eq_true rfl) rfl ?_
    refine zr_getR (pc := 35) S fX6_wrongOf_70 dX6_wrongOf_35 rfl (Nat.le_of_ble_eq_true rfl) rfl ?_
    refine zr_iconst (pc := 38) S dX6_wrongOf_38 (by unfold zrI; omega) ?_
    refine zr_iaload (pc := 39) S dX6_wrongOf_39 rfl (Nat.le_of_ble_eq_true rfl) (by omega) (by omega) ?_
    dsimp only [Int.reduceToNat]
    rw [e3]
    refine zr_i2l (pc := 40) S dX6_wrongOf_40 ?_
    refine zr_lmul (pc := 41) S dX6_wrongOf_41 (by unfold zrL; omega) ?_
    refine zr_goto (pc := 42) (tgt := 46) S dX6_wrongOf_42 (by decide) ?_
    refine zr_lstore_n (pc := 46) S 3 dX6_wrongOf_46 rfl (by decide) ?_
    dsimp only [zst1, zst2, zset, zget, zlong]
    refine zr_iconst (pc := 47) S dX6_wrongOf_47 (by unfold zrI; omega) ?_
    refine zr_istore (pc := 48) S dX6_wrongOf_48 (by decide) ?_
    dsimp only [zst1, zst2, zset, zget, zlong]
    exact q _
end
