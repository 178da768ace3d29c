section
variable {G : zG} {R : Room} {nL : Nat} {q : zq} {X : zX} {b : Nat × Nat} {cc : ByteArray} {Ts : List Cond} {own : String} {ret : Option FieldType} {pc : Nat} {ls : List (Option zV)} {st : List zV} {M : zM}
/-- the memory's values are of their kinds -/
theorem zr_rng (k : zokM G.1 M → zK G R nL q X b pc ls st M) : zK G R nL q X b pc ls st M :=
  fun ho hl hM H locs arr hP hS hh => k hM ho hl hM H locs arr hP hS hh
theorem zr_iushr (S : zS G X cc nL Ts own ret) {x y : Int} (hd : decode cc pc = .ok (.iushr, 1)) (h0 : 0 ≤ y) (h1 : y < 32) (kk : zK G R nL q X b (pc + 1) ls (zI (((x % 4294967296) / 2 ^ y.toNat).bmod 4294967296) :: st) M) : zK G R nL q X b pc ls (zI y :: zI x :: st) M := by
  intro ho hl hM H locs arr hP hS hh
  have e2 : y = (y.toNat : Int) := (Int.toNat_of_nonneg h0).symm
  have hb := zb_bmod (x := (x % 4294967296) / 2 ^ y.toNat) (n := 4294967296) (by decide)
  refine lv_iushr S.1.1 S.1.2.1 hd (v := Int32.ofInt (((x % 4294967296) / 2 ^ y.toNat).bmod 4294967296)) ?_ (kk (zokc (v := zI _) ⟨by omega, by omega⟩ (zokt (zokt ho))) hl hM H locs arr hP hS hh)
  apply Int32.toBitVec_inj.mp
  apply BitVec.eq_of_toNat_eq
  rw [pk_ushr _ _ y.toNat (by rw [e2, zb_n]; exact zb_su y.toNat (by omega)), zb_wrapI, zb_tn, zb_tn]
  obtain ⟨a, ha⟩ : ∃ a : Nat, x % 4294967296 = a := ⟨(x % 4294967296).toNat, by omega⟩
  have ha2 : a < 4294967296 := by omega
  rw [ha, Int.toNat_natCast]
  have e3 : (a : Int) / 2 ^ y.toNat = ((a / 2 ^ y.toNat : Nat) : Int) := by simp
  have h3 : a / 2 ^ y.toNat ≤ a := Nat.div_le_self _ _
  rw [e3]
  generalize a / 2 ^ y.toNat = b at *
  omega
end
section
/-- the byte k of the five words -/
def feW (a b c d e : Int) (k : Nat) : Int := (if k < 4 then a else if k < 8 then b else if k < 12 then c else if k < 16 then d else e) / 2 ^ (24 - 8 * (k % 4))
/-- the tape with i bytes fed behind T -/
def feT (t : Nat → Int) (T : Nat) (a b c d e : Int) (i : Nat) : Nat → Int := fun p => if T ≤ p ∧ p < T + i then feW a b c d e (p - T) % 256 else t p
theorem feT_s {t : Nat → Int} {T : Nat} {a b c d e : Int} {i : Nat} : rUp (feT t T a b c d e i) (T + i) (feW a b c d e i % 256) = feT t T a b c d e (i + 1) := by
  funext j
  unfold rUp feT
  by_cases c : j = T + i
  · rw [if_pos c, if_pos (by omega), show j - T = i by omega]
  · rw [if_neg c]
    by_cases d : T ≤ j ∧ j < T + i
    · rw [if_pos d, if_pos (by omega)]
    · rw [if_neg d, if_neg (by omega)]
theorem feT_0 {t : Nat → Int} {T : Nat} {a b c d e : Int} : feT t T a b c d e 0 = t := by
  funext j
  unfold feT
  rw [if_neg (by omega)]
theorem ushr255 {w y : Int} {k : Nat} (h : y = 24 - 8 * ((k : Int) % 2 ^ 2)) : ((w % 4294967296) / 2 ^ y.toNat).bmod 4294967296 % 2 ^ 8 = w / 2 ^ (24 - 8 * (k % 4)) % 256 := by
  have h4 : k % 4 = 0 ∨ k % 4 = 1 ∨ k % 4 = 2 ∨ k % 4 = 3 := by omega
  unfold Int.bmod
  rcases h4 with e | e | e | e
  · rw [e, show y.toNat = 24 by omega, show (2 : Int) ^ 24 = 16777216 by decide]
    dsimp only; split <;> omega
  · rw [e, show y.toNat = 16 by omega, show (2 : Int) ^ 16 = 65536 by decide]
    dsimp only; split <;> omega
  · rw [e, show y.toNat = 8 by omega, show (2 : Int) ^ 8 = 256 by decide]
    dsimp only; split <;> omega
  · rw [e, show y.toNat = 0 by omega, show (2 : Int) ^ 8 = 256 by decide, show (2 : Int) ^ 0 = 1 by decide]
    dsimp only; split <;> omega
theorem zrow_c {M : zM} {c k j : Nat} {f : Nat → Int} {v : Int} (h : k ≠ c) : zup (zrow M c f) k j v = zrow (zup M k j v) c f := by
  funext k' j'
  unfold zup zrow
  by_cases e : k' = k
  · subst e
    simp [h]
  · by_cases e2 : k' = c
    · subst e2; simp [e]
    · simp [e, e2]
theorem zup_w {M : zM} {k j : Nat} {u v : Int} : zup (zup M k j u) k j v = zup M k j v := by
  funext k' j'
  unfold zup
  by_cases e : k' = k
  · by_cases e2 : j' = j
    · simp [e, e2]
    · simp [e, e2]
  · simp [e]
def rmX12_feed : Room := { frames := 0, cells := 0, slots := 0, locals := 0 }
abbrev wzX12_feed : List Cond := .code yX12_feed cX12_feed 8 (some .int) :: zW
theorem pX12_feed_80 : zfp wzX12_feed RX12 vwCl 80 12 3 := ⟨_, _, _, _, rfl, (fun w h => List.mem_cons_of_mem _ (zWuX12 w h)), by decide, List.mem_cons_of_mem _ (zWi_9 _ (List.mem_of_getElem? (i := 38) rfl)), tyX12_ok, nmX12, rfl, by decide +kernel⟩
theorem fX12_feed_136 : zfl wzX12_feed RX12 vwCl 136 12 6 := ⟨_, _, _, rfl, (fun w h => List.mem_cons_of_mem _ (zWuX12 w h)), by decide, List.mem_cons_of_mem _ (zWi_9 _ (List.mem_of_getElem? (i := 6) rfl))⟩
theorem fX12_feed_20 : zfl wzX12_feed RX12 vwCl 20 12 4 := ⟨_, _, _, rfl, (fun w h => List.mem_cons_of_mem _ (zWuX12 w h)), by decide, List.mem_cons_of_mem _ (zWi_9 _ (List.mem_of_getElem? (i := 15) rfl))⟩
theorem pX12_feed_136 : zfp wzX12_feed RX12 vwCl 136 12 6 := ⟨_, _, _, _, rfl, (fun w h => List.mem_cons_of_mem _ (zWuX12 w h)), by decide, List.mem_cons_of_mem _ (zWi_9 _ (List.mem_of_getElem? (i := 6) rfl)), tyX12_ok, nmX12, rfl, by decide +kernel⟩
/-- the reference's memory when i bytes are fed -/
def fdS (M : zM) (T : Nat) (a b c d e : Int) (i : Nat) : zM := zrow (zup (tz M 0) 180 6 ((T : Int) + i)) 184 (feT (M 184) T a b c d e i)
theorem fdS_s {M : zM} {T : Nat} {a b c d e v : Int} {i : Nat} (hv : v = feW a b c d e i % 256) : zup (zup (fdS M T a b c d e i) 184 (T + i) v) 180 6 ((T : Int) + i + 1) = fdS M T a b c d e (i + 1) := by
  unfold fdS
  rw [zrow_up, zrow_c (by decide), zup_w, hv, feT_s]
  rw [show ((T : Int) + i + 1) = (T : Int) + ((i + 1 : Nat) : Int) by omega]
theorem fd23 {E : zE} {X : zX} {Qp : Option zV → zM → Prop} {M : zM} {T : Nat} {a b c d e : Int} (S : zS (zg E) X cX12_feed 8 wzX12_feed RX12 (some .int)) (hT : T + 20 ≤ 400) (hQ : Qp (some (zI ((T : Int) + 20))) (fdS M T a b c d e 20)) : ∀ (r i : Nat) (o : Option zV), r + i = 20 → (∀ x, o = some x → zlong (some x) = false) → zK (zg E) rmX12_feed 8 (Qp, 0, 0) X (0, 0) 23 [some (zR 180), some (zI a), some (zI b), some (zI c), some (zI d), some (zI e), some (zI i), o] [] (fdS M T a b c d e i) := by
  intro r
  induction r with
  | zero =>
    intro i o hi ho
    obtain rfl : i = 20 := by omega
    have et : fdS M T a b c d e 20 180 6 = (T : Int) + 20 := by
      unfold fdS
      rw [zrow_o (by decide), zup_e]
      rfl
    refine zr_iload (pc := 23) S dX12_feed_23 rfl ?_
    refine zr_bipush (pc := 25) S dX12_feed_25 ⟨by unfold zrI; omega, by decide⟩ ?_
    refine zr_icmp_ge (pc := 27) (tgt := 120) S dX12_feed_27 (by decide) (fun c27 => ?_) (fun c27 => absurd c27 (by omega))
    refine zr_aload_n (pc := 120) S dX12_feed_120 rfl ?_
    refine zr_getI (pc := 121) S fX12_feed_136 dX12_feed_121 rfl (Nat.le_of_ble_eq_true rfl) rfl ?_
    rw [et]
    exact zr_iret (pc := 124) S dX12_feed_124 rfl ⟨Nat.le_refl _, Nat.le_refl _⟩ (hQ)
  | succ r ih =>
    intro i o hi ho
    have et : fdS M T a b c d e i 180 6 = (T : Int) + i := by
      unfold fdS
      rw [zrow_o (by decide), zup_e]
    have ei : ((T : Int) + (i : Int)).toNat = T + i := by omega
    have k76 : ∀ w : Int, w = (if i < 4 then a else if i < 8 then b else if i < 12 then c else if i < 16 then d else e) → zK (zg E) rmX12_feed 8 (Qp, 0, 0) X (0, 0) 76 [some (zR 180), some (zI a), some (zI b), some (zI c), some (zI d), some (zI e), some (zI i), o] [zI w] (fdS M T a b c d e i) := by
      intro w hw
      have k := ih (i + 1) (some (zI w)) (by omega) (fun x hx => by cases hx; rfl)
      rw [Int.natCast_add, Int.natCast_one] at k
      have hv : Int.bmod ((w % (4294967296 : Int)) / (2 : Int) ^ (24 - 8 * ((i : Int) % 2 ^ 2)).toNat) 4294967296 % (2 : Int) ^ 8 = feW a b c d e i % 256 := by
        rw [ushr255 (k := i) rfl]
        unfold feW
        rw [← hw]
      rw [← fdS_s hv] at k
      have et2 : ∀ v : Int, zup (fdS M T a b c d e i) 184 (T + i) v 180 6 = (T : Int) + i := fun v => by rw [zup_o _ (by decide)]; exact et
      refine zr_istore (pc := 76) S dX12_feed_76 (by decide) ?_
      dsimp only [zst1, zst2, zset, zget, zlong]
      refine zr_aload_n (pc := 78) S dX12_feed_78 rfl ?_
      refine zr_getR (pc := 79) S fX12_feed_20 dX12_feed_79 rfl (Nat.le_of_ble_eq_true rfl) rfl ?_
      refine zr_aload_n (pc := 82) S dX12_feed_82 rfl ?_
      refine zr_getI (pc := 83) S fX12_feed_136 dX12_feed_83 rfl (Nat.le_of_ble_eq_true rfl) rfl ?_
      rw [et]
      refine zr_iload (pc := 86) S dX12_feed_86 rfl ?_
      refine zr_bipush (pc := 88) S dX12_feed_88 ⟨by unfold zrI; omega, by decide⟩ ?_
      refine zr_bipush (pc := 90) S dX12_feed_90 ⟨by unfold zrI; omega, by decide⟩ ?_
      refine zr_iload (pc := 92) S dX12_feed_92 rfl ?_
      refine zr_iconst (pc := 94) S dX12_feed_94 (by unfold zrI; omega) ?_
      refine zr_iandm (pc := 95) S 2 dX12_feed_95 (by decide) rfl ?_
      refine zr_imul (pc := 96) S dX12_feed_96 (by unfold zrI; omega) ?_
      refine zr_isub (pc := 97) S dX12_feed_97 (by unfold zrI; omega) ?_
      refine zr_iushr (pc := 98) S dX12_feed_98 (by omega) (by omega) ?_
      refine zr_sipush (pc := 99) S dX12_feed_99 ⟨by unfold zrI; omega, by decide⟩ ?_
      refine zr_iandm (pc := 102) S 8 dX12_feed_102 (by decide) rfl ?_
      refine zr_iastore (pc := 103) S dX12_feed_103 rfl (Nat.le_of_ble_eq_true rfl) (by omega) (by omega) ?_
      rw [ei]
      refine zr_aload_n (pc := 104) S dX12_feed_104 rfl ?_
      refine zr_dup (pc := 105) S dX12_feed_105 rfl ?_
      refine zr_getI (pc := 106) S fX12_feed_136 dX12_feed_106 rfl (Nat.le_of_ble_eq_true rfl) rfl ?_
      try simp only [zup_k, zup_e, ne_eq, Nat.reduceEqDiff, not_false_eq_true, zup_j]
      rw [et]
      refine zr_iconst (pc := 109) S dX12_feed_109 (by unfold zrI; omega) ?_
      refine zr_iadd (pc := 110) S dX12_feed_110 (by unfold zrI; omega) ?_
      refine zr_putI (pc := 111) S pX12_feed_136 dX12_feed_111 rfl (Nat.le_of_ble_eq_true rfl) rfl ?_
      refine zr_iinc (pc := 114) S dX12_feed_114 rfl (by unfold zrI; omega) (by decide) ?_
      dsimp only [zst1, zst2, zset, zget, zlong]
      refine zr_goto (pc := 117) (tgt := 23) S dX12_feed_117 (by decide) ?_
      exact k
    refine zr_iload (pc := 23) S dX12_feed_23 rfl ?_
    refine zr_bipush (pc := 25) S dX12_feed_25 ⟨by unfold zrI; omega, by decide⟩ ?_
    refine zr_icmp_ge (pc := 27) (tgt := 120) S dX12_feed_27 (by decide) (fun c27 => absurd c27 (by omega)) (fun c27 => ?_)
    refine zr_iload (pc := 30) S dX12_feed_30 rfl ?_
    refine zr_iconst (pc := 32) S dX12_feed_32 (by unfold zrI; omega) ?_
    refine zr_icmp_ge (pc := 33) (tgt := 40) S dX12_feed_33 (by decide) (fun c33 => ?_) (fun c33 => ?_)
    · refine zr_iload (pc := 40) S dX12_feed_40 rfl ?_
      refine zr_bipush (pc := 42) S dX12_feed_42 ⟨by unfold zrI; omega, by decide⟩ ?_
      refine zr_icmp_ge (pc := 44) (tgt := 51) S dX12_feed_44 (by decide) (fun c44 => ?_) (fun c44 => ?_)
      · refine zr_iload (pc := 51) S dX12_feed_51 rfl ?_
        refine zr_bipush (pc := 53) S dX12_feed_53 ⟨by unfold zrI; omega, by decide⟩ ?_
        refine zr_icmp_ge (pc := 55) (tgt := 62) S dX12_feed_55 (by decide) (fun c55 => ?_) (fun c55 => ?_)
        · refine zr_iload (pc := 62) S dX12_feed_62 rfl ?_
          refine zr_bipush (pc := 64) S dX12_feed_64 ⟨by unfold zrI; omega, by decide⟩ ?_
          refine zr_icmp_ge (pc := 66) (tgt := 74) S dX12_feed_66 (by decide) (fun c66 => ?_) (fun c66 => ?_)
          · refine zr_iload (pc := 74) S dX12_feed_74 rfl ?_
            exact k76 _ (by first | rw [if_pos (by omega)] | rw [if_neg (by omega), if_pos (by omega)] | rw [if_neg (by omega), if_neg (by omega), if_pos (by omega)] | rw [if_neg (by omega), if_neg (by omega), if_neg (by omega), if_pos (by omega)] | rw [if_neg (by omega), if_neg (by omega), if_neg (by omega), if_neg (by omega)])
          · refine zr_iload (pc := 69) S dX12_feed_69 rfl ?_
            refine zr_goto (pc := 71) (tgt := 76) S dX12_feed_71 (by decide) ?_
            exact k76 _ (by first | rw [if_pos (by omega)] | rw [if_neg (by omega), if_pos (by omega)] | rw [if_neg (by omega), if_neg (by omega), if_pos (by omega)] | rw [if_neg (by omega), if_neg (by omega), if_neg (by omega), if_pos (by omega)] | rw [if_neg (by omega), if_neg (by omega), if_neg (by omega), if_neg (by omega)])
        · refine zr_iload_n (pc := 58) S dX12_feed_58 rfl ?_
          refine zr_goto (pc := 59) (tgt := 76) S dX12_feed_59 (by decide) ?_
          exact k76 _ (by first | rw [if_pos (by omega)] | rw [if_neg (by omega), if_pos (by omega)] | rw [if_neg (by omega), if_neg (by omega), if_pos (by omega)] | rw [if_neg (by omega), if_neg (by omega), if_neg (by omega), if_pos (by omega)] | rw [if_neg (by omega), if_neg (by omega), if_neg (by omega), if_neg (by omega)])
      · refine zr_iload_n (pc := 47) S dX12_feed_47 rfl ?_
        refine zr_goto (pc := 48) (tgt := 76) S dX12_feed_48 (by decide) ?_
        exact k76 _ (by first | rw [if_pos (by omega)] | rw [if_neg (by omega), if_pos (by omega)] | rw [if_neg (by omega), if_neg (by omega), if_pos (by omega)] | rw [if_neg (by omega), if_neg (by omega), if_neg (by omega), if_pos (by omega)] | rw [if_neg (by omega), if_neg (by omega), if_neg (by omega), if_neg (by omega)])
    · refine zr_iload_n (pc := 36) S dX12_feed_36 rfl ?_
      refine zr_goto (pc := 37) (tgt := 76) S dX12_feed_37 (by decide) ?_
      exact k76 _ (by first | rw [if_pos (by omega)] | rw [if_neg (by omega), if_pos (by omega)] | rw [if_neg (by omega), if_neg (by omega), if_pos (by omega)] | rw [if_neg (by omega), if_neg (by omega), if_neg (by omega), if_pos (by omega)] | rw [if_neg (by omega), if_neg (by omega), if_neg (by omega), if_neg (by omega)])
def sp_X12_feed (as : List zV) (M : zM) (Q : Option zV → zM → Prop) : Prop := ∃ (a b c d e : Int), as = [zR 180, zI a, zI b, zI c, zI d, zI e] ∧ (0 ≤ M 180 6 ∧ M 180 6 ≤ 400) ∧ (M 180 6 + 20 ≤ 400 → Q (some (zI (M 180 6 + 20))) (fdS M (M 180 6).toNat a b c d e 20)) ∧ (¬ M 180 6 + 20 ≤ 400 → Q (some (zI (-1))) (tz M 0))
theorem us_X12_feed {a b c d e : Int} {M : zM} {Q : Option zV → zM → Prop} (ht : 0 ≤ M 180 6 ∧ M 180 6 ≤ 400) (hQ : M 180 6 + 20 ≤ 400 → Q (some (zI (M 180 6 + 20))) (fdS M (M 180 6).toNat a b c d e 20)) (hN : ¬ M 180 6 + 20 ≤ 400 → Q (some (zI (-1))) (tz M 0)) : sp_X12_feed [zR 180, zI a, zI b, zI c, zI d, zI e] M Q := ⟨a, b, c, d, e, rfl, ht, hQ, hN⟩
set_option maxRecDepth 20000 in
set_option maxHeartbeats 4000000 in
theorem m_X12_feed (l : Launch) : zC l yX12_feed wzX12_feed rmX12_feed sp_X12_feed := by
  refine zMet.of RX12 (by decide +kernel) rfl rfl ?_
  intro E X as M Qp hX S hsp
  obtain ⟨a, b, c, d, e, rfl, ht, hQ, hN⟩ := hsp
  refine ⟨Nat.le_of_ble_eq_true rfl, ?_⟩
  dsimp only [zpad, zargs]
  obtain ⟨T, hT⟩ : ∃ T : Nat, M 180 6 = T := ⟨(M 180 6).toNat, by omega⟩
  rw [hT] at hQ hN
  rw [Int.toNat_natCast] at hQ
  have e0 : fdS M T a b c d e 0 = tz M 0 := by
    unfold fdS
    rw [feT_0]
    funext k' j'
    unfold zrow tz zup
    by_cases h1 : k' = 184
    · subst h1; simp
    · rw [if_neg h1]
      by_cases h2 : k' = 180
      · subst h2
        simp only [if_pos]
        by_cases h3 : j' = 6
        · subst h3; simp [hT]
        · rw [if_neg h3]
      · rw [if_neg h2]
  have l := fun h => fd23 (E := E) (X := X) (Qp := Qp) (M := M) (T := T) (a := a) (b := b) (c := c) (d := d) (e := e) S (by omega) (hQ h) 20 0 none (by omega) (fun x hx => by cases hx)
  rw [e0] at l
  refine zr_aload_n (pc := 0) S dX12_feed_0 rfl ?_
  refine zr_iconst (pc := 1) S dX12_feed_1 (by unfold zrI; omega) ?_
  refine zr_putI (pc := 2) S pX12_feed_80 dX12_feed_2 rfl (Nat.le_of_ble_eq_true rfl) rfl ?_
  refine zr_aload_n (pc := 5) S dX12_feed_5 rfl ?_
  refine zr_getI (pc := 6) S fX12_feed_136 dX12_feed_6 rfl (Nat.le_of_ble_eq_true rfl) rfl ?_
  try simp only [zup_k, zup_e, ne_eq, Nat.reduceEqDiff, not_false_eq_true, zup_j]
  rw [hT]
  refine zr_bipush (pc := 9) S dX12_feed_9 ⟨by unfold zrI; omega, by decide⟩ ?_
  refine zr_iadd (pc := 11) S dX12_feed_11 (by unfold zrI; omega) ?_
  refine zr_sipush (pc := 12) S dX12_feed_12 ⟨by unfold zrI; omega, by decide⟩ ?_
  refine zr_icmp_le (pc := 15) (tgt := 20) S dX12_feed_15 (by decide) (fun c15 => ?_) (fun c15 => ?_)
  · have kk := l (by omega)
    refine zr_iconst (pc := 20) S dX12_feed_20 (by unfold zrI; omega) ?_
    refine zr_istore (pc := 21) S dX12_feed_21 (by decide) ?_
    dsimp only [zst1, zst2, zset, zget, zlong]
    exact kk
  · have q := hN (by omega)
    refine zr_iconst (pc := 18) S dX12_feed_18 (by unfold zrI; omega) ?_
    exact zr_iret (pc := 19) S dX12_feed_19 rfl ⟨Nat.le_refl _, Nat.le_refl _⟩ (q)
end
