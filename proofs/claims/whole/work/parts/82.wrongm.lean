section
theorem vv_worth {M : zM} (k : Int) : worth (vv M) k = worth (vm M) k := by
  unfold worth isGood
  rw [vv_o (by decide), vv_o (by decide), vv_o (by decide), vv_o (by decide), vv_o (by decide)]
theorem vv_good {M : zM} (k : Int) : isGood (vv M) k ↔ isGood (vm M) k := by
  unfold isGood
  rw [vv_o (by decide), vv_o (by decide), vv_o (by decide), vv_o (by decide), vv_o (by decide)]
theorem vv_size3 {M : zM} (k : Int) : size3 (vv M) k = size3 (vm M) k := by
  unfold size3
  rw [(vv_low k 0).1, (vv_low k 0).2, (vv_low k 1).1, (vv_low k 1).2, (vv_low k 2).1, (vv_low k 2).2]
theorem worth_r2 {M : zM} (hs : ICs M) (k : Int) : 0 ≤ worth M k ∧ worth M k ≤ 200 := by
  unfold worth
  split
  · rename_i h
    have h8 := hs.1
    have := hs.v (k := k) h.1.1 (by omega)
    omega
  · omega
theorem lp_X12_wrongOf {E : zE} {X : zX} {Qp : Option zV → zM → Prop} {M : zM} {G R : Nat → Int} {s : Int} (S : zS (zg E) X cX12_wrongOf 5 wzX12_wrongOf RX12 (some .long)) (hs : ICs (vm M)) (h0 : 0 ≤ s) (h1 : s < 8) (hG : ∀ k, k < 9 → G k = cnt3 (vv M) s (ocG k)) (hQ : Qp (some (zL (wrong (vv M) s))) (TM M G R)) : ∀ n i : Nat, (n : Int) + i = M 181 0 → zK (zg E) rmX12_wrongOf 5 (Qp, 0, 0) X (0, 0) 37 [some (zR 180), some (zI s), some (zL (wsum (vv M) s i)), none, some (zI i)] [] (TM M G R) := by
  have hsv := vv_ICs hs
  have t8 : 0 ≤ M 181 0 ∧ M 181 0 ≤ 8 := hs.1
  have et : TM M G R 181 = M 181 := TM_o (by decide)
  have et0 : TM M G R 181 0 = M 181 0 := by rw [et]
  have sz := size3u_r hs h0 h1 3 (by omega)
  rw [size3_u] at sz
  have sz2 : size3 (vm M) s ≤ 1000000 := by have : (100 : Int) ^ 3 = 1000000 := by decide
                                            omega
  have ez : size3 (vm (TM M G R)) s = size3 (vm M) s := ag_size3 (TM_vm M G R) s
  have ew : ∀ k : Int, worth (vm (TM M G R)) k = worth (vv M) k := fun k => by rw [ag_worth (TM_vm M G R), vv_worth]
  have wr := worth_r2 hsv
  have sr := fun k => wsum_r hsv h0 h1 k
  simp only [vv_size3] at sr
  intro n
  induction n with
  | zero =>
    intro i hi
    have a := sr i
    have b : size3 (vm M) s * (999 + 200 * (i : Int)) ≤ 1000000 * (999 + 200 * 8) := Int.mul_le_mul sz2 (by omega) (by omega) (by omega)
    have eq : wsum (vv M) s i * 1000000 / size3 (vm M) s = wrong (vv M) s := by
      unfold wrong
      rw [vv_o (by decide), vm_many, vv_size3, Int.mul_comm, ← hi, show ((0 : Nat) : Int) + (i : Int) = i by omega, Int.toNat_natCast]
    have nn : 0 ≤ wsum (vv M) s i * 1000000 := by omega
    refine zr_iload (pc := 37) S dX12_wrongOf_37 rfl ?_
    refine zr_aload_n (pc := 39) S dX12_wrongOf_39 rfl ?_
    refine zr_getR (pc := 40) S fX12_wrongOf_9 dX12_wrongOf_40 rfl (Nat.le_of_ble_eq_true rfl) rfl ?_
    refine zr_iconst (pc := 43) S dX12_wrongOf_43 (by unfold zrI; omega) ?_
    refine zr_iaload (pc := 44) S dX12_wrongOf_44 rfl (Nat.le_of_ble_eq_true rfl) (by omega) (by omega) ?_
    dsimp only [Int.reduceToNat]
    rw [et0]
    refine zr_icmp_ge (pc := 45) (tgt := 88) S dX12_wrongOf_45 (by decide) (fun c45 => ?_) (fun c45 => absurd c45 (by omega))
    refine zr_lload_n (pc := 88) S dX12_wrongOf_88 rfl ?_
    refine zr_ldc2 (pc := 89) S (1000000) dX12_wrongOf_89 (List.mem_cons_of_mem _ (zWi_7 _ (List.mem_of_getElem? (i := 25) rfl))) (by unfold zrL; omega) ?_
    refine zr_lmul (pc := 92) S dX12_wrongOf_92 (by unfold zrL; omega) ?_
    refine zr_aload_n (pc := 93) S dX12_wrongOf_93 rfl ?_
    refine zr_iload_n (pc := 94) S dX12_wrongOf_94 rfl ?_
    refine zr_invV (pc := 95) S [zI _] (m_X12_many _) kX12_wrongOf_132 dX12_wrongOf_95 rfl (Nat.le_of_ble_eq_true rfl) rfl (Nat.le_of_ble_eq_true rfl) ⟨Nat.le_of_ble_eq_true rfl, Nat.le_of_ble_eq_true rfl⟩ (us_X12_many ((TM_vm M G R).s hs) h0 h1 ?_)
    dsimp only [zaft, Option.toList, List.cons_append, List.nil_append, Nat.add_zero]
    rw [ez]
    refine zr_ldiv (pc := 98) S dX12_wrongOf_98 nn (by omega) ?_
    rw [eq]
    exact zr_lret (pc := 99) S dX12_wrongOf_99 rfl ⟨Nat.le_refl _, Nat.le_refl _⟩ (hQ)
  | succ n ih =>
    intro i hi
    have k := ih (i + 1) (by omega)
    rw [Int.natCast_add, Int.natCast_one] at k
    have a := sr i
    have a1 := sr (i + 1)
    have b : size3 (vm M) s * (999 + 200 * ((i + 1 : Nat) : Int)) ≤ 1000000 * (999 + 200 * 8) := Int.mul_le_mul sz2 (by omega) (by omega) (by omega)
    have b0 : size3 (vm M) s * (999 + 200 * (i : Int)) ≤ 1000000 * (999 + 200 * 8) := Int.mul_le_mul sz2 (by omega) (by omega) (by omega)
    have eg : TM M G R 187 (i : Int).toNat = cnt3 (vv M) s (i + 1) := by rw [TM_g, Int.toNat_natCast, hG i (by omega)]; unfold ocG; rw [if_neg (by omega)]
    have c := cnt3_r hsv h0 h1 (i + 1)
    rw [vv_size3] at c
    have w1 := wr i
    have w2 := wr s
    have es : wsum (vv M) s (i + 1) = wsum (vv M) s i + (if (i : Int) = s then 0 else cnt3 (vv M) s (i + 1) * max 0 (worth (vv M) i - worth (vv M) s)) := rfl
    have pm := zmulr (a := cnt3 (vv M) s (i + 1)) (A := 1000000) (b := max 0 (worth (vv M) i - worth (vv M) s)) (B := 200) (by omega) (by omega) (by omega) (by omega)
    have t0' : 0 ≤ TM M G R 181 0 ∧ TM M G R 181 0 ≤ 8 := by rw [et0]; exact t8
    by_cases c51 : (i : Int) = s
    · rw [es, if_pos c51, Int.add_zero] at k
      refine zr_iload (pc := 37) S dX12_wrongOf_37 rfl ?_
      refine zr_aload_n (pc := 39) S dX12_wrongOf_39 rfl ?_
      refine zr_getR (pc := 40) S fX12_wrongOf_9 dX12_wrongOf_40 rfl (Nat.le_of_ble_eq_true rfl) rfl ?_
      refine zr_iconst (pc := 43) S dX12_wrongOf_43 (by unfold zrI; omega) ?_
      refine zr_iaload (pc := 44) S dX12_wrongOf_44 rfl (Nat.le_of_ble_eq_true rfl) (by omega) (by omega) ?_
      dsimp only [Int.reduceToNat]
      rw [et0]
      refine zr_icmp_ge (pc := 45) (tgt := 88) S dX12_wrongOf_45 (by decide) (fun c45 => absurd c45 (by omega)) (fun c45 => ?_)
      refine zr_iload (pc := 48) S dX12_wrongOf_48 rfl ?_
      refine zr_iload_n (pc := 50) S dX12_wrongOf_50 rfl ?_
      refine zr_icmp_eq (pc := 51) (tgt := 82) S dX12_wrongOf_51 (by decide) (fun c51 => ?_) (fun c51 => absurd c51 (by omega))
      refine zr_iinc (pc := 82) S dX12_wrongOf_82 rfl (by unfold zrI; omega) (by decide) ?_
      dsimp only [zst1, zst2, zset, zget, zlong]
      refine zr_goto (pc := 85) (tgt := 37) S dX12_wrongOf_85 (by decide) ?_
      exact k
    · rw [es, if_neg c51] at k
      refine zr_iload (pc := 37) S dX12_wrongOf_37 rfl ?_
      refine zr_aload_n (pc := 39) S dX12_wrongOf_39 rfl ?_
      refine zr_getR (pc := 40) S fX12_wrongOf_9 dX12_wrongOf_40 rfl (Nat.le_of_ble_eq_true rfl) rfl ?_
      refine zr_iconst (pc := 43) S dX12_wrongOf_43 (by unfold zrI; omega) ?_
      refine zr_iaload (pc := 44) S dX12_wrongOf_44 rfl (Nat.le_of_ble_eq_true rfl) (by omega) (by omega) ?_
      dsimp only [Int.reduceToNat]
      rw [et0]
      refine zr_icmp_ge (pc := 45) (tgt := 88) S dX12_wrongOf_45 (by decide) (fun c45 => absurd c45 (by omega)) (fun c45 => ?_)
      refine zr_iload (pc := 48) S dX12_wrongOf_48 rfl ?_
      refine zr_iload_n (pc := 50) S dX12_wrongOf_50 rfl ?_
      refine zr_icmp_eq (pc := 51) (tgt := 82) S dX12_wrongOf_51 (by decide) (fun c51 => absurd c51 (by omega)) (fun c51 => ?_)
      refine zr_lload_n (pc := 54) S dX12_wrongOf_54 rfl ?_
      refine zr_aload_n (pc := 55) S dX12_wrongOf_55 rfl ?_
      refine zr_getR (pc := 56) S fX12_wrongOf_36 dX12_wrongOf_56 rfl (Nat.le_of_ble_eq_true rfl) rfl ?_
      refine zr_iload (pc := 59) S dX12_wrongOf_59 rfl ?_
      refine zr_laload (pc := 61) S dX12_wrongOf_61 rfl (Nat.le_of_ble_eq_true rfl) (by omega) (by omega) ?_
      rw [eg]
      refine zr_iconst (pc := 62) S dX12_wrongOf_62 (by unfold zrI; omega) ?_
      refine zr_aload_n (pc := 63) S dX12_wrongOf_63 rfl ?_
      refine zr_iload (pc := 64) S dX12_wrongOf_64 rfl ?_
      refine zr_invV (pc := 66) S [zI _] (m_X12_valueOf _) kX12_wrongOf_264 dX12_wrongOf_66 rfl (Nat.le_of_ble_eq_true rfl) rfl (Nat.le_of_ble_eq_true rfl) ⟨Nat.le_of_ble_eq_true rfl, Nat.le_of_ble_eq_true rfl⟩ (us_X12_valueOf t0'.1 t0'.2 ?_)
      dsimp only [zaft, Option.toList, List.cons_append, List.nil_append, Nat.add_zero]
      rw [ew]
      refine zr_aload_n (pc := 69) S dX12_wrongOf_69 rfl ?_
      refine zr_iload_n (pc := 70) S dX12_wrongOf_70 rfl ?_
      refine zr_invV (pc := 71) S [zI _] (m_X12_valueOf _) kX12_wrongOf_264 dX12_wrongOf_71 rfl (Nat.le_of_ble_eq_true rfl) rfl (Nat.le_of_ble_eq_true rfl) ⟨Nat.le_of_ble_eq_true rfl, Nat.le_of_ble_eq_true rfl⟩ (us_X12_valueOf t0'.1 t0'.2 ?_)
      dsimp only [zaft, Option.toList, List.cons_append, List.nil_append, Nat.add_zero]
      rw [ew]
      refine zr_isub (pc := 74) S dX12_wrongOf_74 (by unfold zrI; omega) ?_
      refine zr_mmax (pc := 75) S kX12_wrongOf_123 dX12_wrongOf_75 (Nat.le_of_ble_eq_true rfl) (Nat.le_of_ble_eq_true rfl) ⟨Nat.le_of_ble_eq_true rfl, Nat.le_of_ble_eq_true rfl⟩ ?_
      refine zr_i2l (pc := 78) S dX12_wrongOf_78 ?_
      refine zr_lmul (pc := 79) S dX12_wrongOf_79 (by unfold zrL; omega) ?_
      refine zr_ladd (pc := 80) S dX12_wrongOf_80 (by unfold zrL; omega) ?_
      refine zr_lstore_n (pc := 81) S 2 dX12_wrongOf_81 rfl (by decide) ?_
      dsimp only [zst1, zst2, zset, zget, zlong]
      refine zr_iinc (pc := 82) S dX12_wrongOf_82 rfl (by unfold zrI; omega) (by decide) ?_
      dsimp only [zst1, zst2, zset, zget, zlong]
      refine zr_goto (pc := 85) (tgt := 37) S dX12_wrongOf_85 (by decide) ?_
      exact k
def sp_X12_wrongOf (as : List zV) (M : zM) (Q : Option zV → zM → Prop) : Prop := ∃ (s : Int), as = [zR 180, zI s] ∧ (ICs (vm M)) ∧ (ICg (vv M)) ∧ (ICk (M 181)) ∧ (-1 ≤ M 180 16) ∧ (0 ≤ s) ∧ (s < 8) ∧ (∀ G R : Nat → Int, Q (some (zL (wrong (vv M) s))) (TM M G R))
theorem us_X12_wrongOf {s : Int} {M : zM} {Q : Option zV → zM → Prop} (hs : ICs (vm M)) (hg : ICg (vv M)) (hk : ICk (M 181)) (hm : -1 ≤ M 180 16) (h0 : 0 ≤ s) (h1 : s < 8) (hQ : ∀ G R : Nat → Int, Q (some (zL (wrong (vv M) s))) (TM M G R)) : sp_X12_wrongOf [zR 180, zI s] M Q := ⟨s, rfl, hs, hg, hk, hm, h0, h1, hQ⟩
set_option maxRecDepth 20000 in
set_option maxHeartbeats 4000000 in
theorem m_X12_wrongOf (l : Launch) : zC l yX12_wrongOf wzX12_wrongOf rmX12_wrongOf sp_X12_wrongOf := by
  refine zMet.of RX12 (by decide +kernel) rfl rfl ?_
  intro E X as M Qp hX S hsp
  obtain ⟨s, rfl, hs, hg, hk, hm, h0, h1, hQ⟩ := hsp
  refine ⟨Nat.le_of_ble_eq_true rfl, ?_⟩
  dsimp only [zpad, zargs]
  have hsv := vv_ICs hs
  have t8 : 0 ≤ M 181 0 ∧ M 181 0 ≤ 8 := hs.1
  have st := hs.2.1
  have c := cnt3_r hsv h0 h1 0
  have sz := size3u_r hs h0 h1 3 (by omega)
  rw [size3_u] at sz
  rw [vv_size3] at c
  have e3 : (100 : Int) ^ 3 = 1000000 := by decide
  have key : ∀ G R : Nat → Int, (∀ k, k < 9 → G k = cnt3 (vv M) s (ocG k)) → zK (zg E) rmX12_wrongOf 5 (Qp, 0, 0) X (0, 0) 5 [some (zR 180), some (zI s), none, none, none] [] (TM M G R) := by
    intro G R hG
    have et : TM M G R 181 = M 181 := TM_o (by decide)
    have t0' : 0 ≤ TM M G R 181 0 ∧ TM M G R 181 0 ≤ 8 := by rw [et]; exact t8
    have eg : TM M G R 187 8 = cnt3 (vv M) s 0 := by rw [TM_g, hG 8 (by omega)]; rfl
    have e10 : TM M G R 181 10 = vv M 3 3 := by rw [et, vv_o (by decide)]; rfl
    have st3 : 0 ≤ vv M 3 3 ∧ vv M 3 3 ≤ 999 := by rw [vv_o (by decide)]; omega
    have pm := zmulr (a := cnt3 (vv M) s 0) (A := 1000000) (b := vv M 3 3) (B := 999) (by omega) (by omega) (by omega) (by omega)
    have ig : isGood (vm (TM M G R)) s ↔ isGood (vv M) s := ((TM_vm M G R).good s).trans (vv_good s).symm
    have l := lp_X12_wrongOf (E := E) (X := X) (Qp := Qp) (R := R) S hs h0 h1 hG (hQ G R) (M 181 0).toNat 0 (by omega)
    have w1 : isGood (vv M) s → wsum (vv M) s 0 = cnt3 (vv M) s 0 * vv M 3 3 := fun h => if_pos h
    have w0 : ¬ isGood (vv M) s → wsum (vv M) s 0 = 0 := fun h => if_neg h
    refine zr_aload_n (pc := 5) S dX12_wrongOf_5 rfl ?_
    refine zr_iload_n (pc := 6) S dX12_wrongOf_6 rfl ?_
    refine zr_invV (pc := 7) S [zI _] (m_X12_isGood _) kX12_wrongOf_120 dX12_wrongOf_7 rfl (Nat.le_of_ble_eq_true rfl) rfl (Nat.le_of_ble_eq_true rfl) ⟨Nat.le_of_ble_eq_true rfl, Nat.le_of_ble_eq_true rfl⟩ (us_X12_isGood t0'.1 t0'.2 ?_)
    dsimp only [zaft, Option.toList, List.cons_append, List.nil_append, Nat.add_zero]
    refine zr_if_eq (pc := 10) (tgt := 32) S dX12_wrongOf_10 (by decide) (fun c10 => ?_) (fun c10 => ?_)
    · rw [b01_0] at c10
      rw [w0 (fun z => c10 (ig.mpr z))] at l
      refine zr_lconst0 (pc := 32) S dX12_wrongOf_32 ?_
      refine zr_lstore_n (pc := 33) S 2 dX12_wrongOf_33 rfl (by decide) ?_
      dsimp only [zst1, zst2, zset, zget, zlong]
      refine zr_iconst (pc := 34) S dX12_wrongOf_34 (by unfold zrI; omega) ?_
      refine zr_istore (pc := 35) S dX12_wrongOf_35 (by decide) ?_
      dsimp only [zst1, zst2, zset, zget, zlong]
      exact l
    · rw [b01_0, Classical.not_not] at c10
      rw [w1 (ig.mp c10)] at l
      refine zr_aload_n (pc := 13) S dX12_wrongOf_13 rfl ?_
      refine zr_getR (pc := 14) S fX12_wrongOf_36 dX12_wrongOf_14 rfl (Nat.le_of_ble_eq_true rfl) rfl ?_
      refine zr_bipush (pc := 17) S dX12_wrongOf_17 ⟨by unfold zrI; omega, by decide⟩ ?_
      refine zr_laload (pc := 19) S dX12_wrongOf_19 rfl (Nat.le_of_ble_eq_true rfl) (by omega) (by omega) ?_
      dsimp only [Int.reduceToNat]
      rw [eg]
      refine zr_aload_n (pc := 20) S dX12_wrongOf_20 rfl ?_
      refine zr_getR (pc := 21) S fX12_wrongOf_9 dX12_wrongOf_21 rfl (Nat.le_of_ble_eq_true rfl) rfl ?_
      refine zr_bipush (pc := 24) S dX12_wrongOf_24 ⟨by unfold zrI; omega, by decide⟩ ?_
      refine zr_iaload (pc := 26) S dX12_wrongOf_26 rfl (Nat.le_of_ble_eq_true rfl) (by omega) (by omega) ?_
      dsimp only [Int.reduceToNat]
      rw [e10]
      refine zr_i2l (pc := 27) S dX12_wrongOf_27 ?_
      refine zr_lmul (pc := 28) S dX12_wrongOf_28 (by unfold zrL; omega) ?_
      refine zr_goto (pc := 29) (tgt := 33) S dX12_wrongOf_29 (by decide) ?_
      refine zr_lstore_n (pc := 33) S 2 dX12_wrongOf_33 rfl (by decide) ?_
      dsimp only [zst1, zst2, zset, zget, zlong]
      refine zr_iconst (pc := 34) S dX12_wrongOf_34 (by unfold zrI; omega) ?_
      refine zr_istore (pc := 35) S dX12_wrongOf_35 (by decide) ?_
      dsimp only [zst1, zst2, zset, zget, zlong]
      exact l
  refine zr_aload_n (pc := 0) S dX12_wrongOf_0 rfl ?_
  refine zr_iload_n (pc := 1) S dX12_wrongOf_1 rfl ?_
  refine zr_invV (pc := 2) S [zI _] (m_X12_tally _) kX12_wrongOf_261 dX12_wrongOf_2 rfl (Nat.le_of_ble_eq_true rfl) rfl (Nat.le_of_ble_eq_true rfl) ⟨Nat.le_of_ble_eq_true rfl, Nat.le_of_ble_eq_true rfl⟩ (us_X12_tally hs hg hk hm h0 h1 ?_)
  dsimp only [zaft, Option.toList, List.cons_append, List.nil_append, Nat.add_zero]
  intro G R hG
  exact key G R hG
/-- all but what the counting uses is the same, no gate is moved -/
def offT (M N : zM) : Prop := (∀ k, k ≠ 180 → k ≠ 187 → k ≠ 186 → N k = M k) ∧ (∀ j, j ≠ 16 → j ≠ 17 → j ≠ 18 → N 180 j = M 180 j) ∧ N 180 16 = -1
theorem offT_TM {M : zM} (h : M 180 16 = -1) (G R : Nat → Int) : offT M (TM M G R) := by
  have e : TM M G R 180 = M 180 := TM_o (by decide)
  exact ⟨fun k _ h2 h3 => TM_o ⟨h2, h3⟩, fun j _ _ _ => by rw [e], by rw [e]; exact h⟩
theorem offT_vm {M N : zM} (h : offT M N) : AG (vm M) (vm N) := fun k hk => by
  show vw (N 181) N k = vw (M 181) M k
  rw [h.1 181 (by decide) (by decide) (by decide)]
  funext j
  unfold vw
  split <;> first | rfl | (rw [h.1 _ (by omega) (by omega) (by omega)])
theorem offT.tr {M N T : zM} (h : offT M N) (g : offT N T) : offT M T := ⟨fun k h1 h2 h3 => by rw [g.1 k h1 h2 h3, h.1 k h1 h2 h3], fun j h1 h2 h3 => by rw [g.2.1 j h1 h2 h3, h.2.1 j h1 h2 h3], g.2.2⟩
def sp_X12_wrong (as : List zV) (M : zM) (Q : Option zV → zM → Prop) : Prop := ∃ (s : Int), as = [zR 180, zI s] ∧ (ICs (vm M)) ∧ (ICg (vm M)) ∧ (ICk (M 181)) ∧ (M 180 16 = -1) ∧ ((0 ≤ s ∧ s < M 181 0) → ∀ N, offT (tz M 0) N → Q (some (zL (wrong (vm M) s))) N) ∧ (¬ (0 ≤ s ∧ s < M 181 0) → Q (some (zL 0)) (tz (tz M 0) 1))
theorem us_X12_wrong {s : Int} {M : zM} {Q : Option zV → zM → Prop} (hs : ICs (vm M)) (hg : ICg (vm M)) (hk : ICk (M 181)) (hm : M 180 16 = -1) (hQ : (0 ≤ s ∧ s < M 181 0) → ∀ N, offT (tz M 0) N → Q (some (zL (wrong (vm M) s))) N) (hT : ¬ (0 ≤ s ∧ s < M 181 0) → Q (some (zL 0)) (tz (tz M 0) 1)) : sp_X12_wrong [zR 180, zI s] M Q := ⟨s, rfl, hs, hg, hk, hm, hQ, hT⟩
set_option maxRecDepth 20000 in
set_option maxHeartbeats 4000000 in
theorem m_X12_wrong (l : Launch) : zC l yX12_wrong wzX12_wrong rmX12_wrong sp_X12_wrong := by
  refine zMet.of RX12 (by decide +kernel) rfl rfl ?_
  intro E X as M Qp hX S hsp
  obtain ⟨s, rfl, hs, hg, hk, hm, hQ, hT⟩ := hsp
  refine ⟨Nat.le_of_ble_eq_true rfl, ?_⟩
  dsimp only [zpad, zargs]
  have t8 : 0 ≤ M 181 0 ∧ M 181 0 ≤ 8 := hs.1
  have hm0 : tz M 0 180 16 = -1 := by show zup M 180 3 0 180 16 = -1; rw [zup_j (by decide)]; exact hm
  have et : tz M 0 181 = M 181 := zup_o _ (by decide)
  have ew : wrong (vv (tz M 0)) s = wrong (vm M) s := by rw [tz_vv hm, ag_wrong (tz_ag M 0)]
  refine zr_aload_n (pc := 0) S dX12_wrong_0 rfl ?_
  refine zr_iconst (pc := 1) S dX12_wrong_1 (by unfold zrI; omega) ?_
  refine zr_putI (pc := 2) S pX12_wrong_80 dX12_wrong_2 rfl (Nat.le_of_ble_eq_true rfl) rfl ?_
  refine zr_aload_n (pc := 5) S dX12_wrong_5 rfl ?_
  refine zr_iload_n (pc := 6) S dX12_wrong_6 rfl ?_
  refine zr_invV (pc := 7) S [zI _] (m_X12_isSort _) kX12_wrong_99 dX12_wrong_7 rfl (Nat.le_of_ble_eq_true rfl) rfl (Nat.le_of_ble_eq_true rfl) ⟨Nat.le_of_ble_eq_true rfl, Nat.le_of_ble_eq_true rfl⟩ (us_X12_isSort t8.1 ?_)
  dsimp only [zaft, Option.toList, List.cons_append, List.nil_append, Nat.add_zero]
  refine zr_if_eq (pc := 10) (tgt := 21) S dX12_wrong_10 (by decide) (fun c10 => ?_) (fun c10 => ?_)
  · rw [b01_0] at c10
    have f := hT (fun z => c10 (by show _ ∧ _ ≤ M 181 0 - 1; omega))
    refine zr_aload_n (pc := 21) S dX12_wrong_21 rfl ?_
    refine zr_iconst (pc := 22) S dX12_wrong_22 (by unfold zrI; omega) ?_
    refine zr_invV (pc := 23) S [zI _] (m_X12_fails _) kX12_wrong_95 dX12_wrong_23 rfl (Nat.le_of_ble_eq_true rfl) rfl (Nat.le_of_ble_eq_true rfl) ⟨Nat.le_of_ble_eq_true rfl, Nat.le_of_ble_eq_true rfl⟩ (us_X12_fails ?_)
    dsimp only [zaft, Option.toList, List.cons_append, List.nil_append, Nat.add_zero]
    refine zr_i2l (pc := 26) S dX12_wrong_26 ?_
    exact zr_lret (pc := 27) S dX12_wrong_27 rfl ⟨Nat.le_refl _, Nat.le_refl _⟩ (f)
  · rw [b01_0, Classical.not_not] at c10
    have c10' : 0 ≤ s ∧ s ≤ M 181 0 - 1 := c10
    refine zr_aload_n (pc := 13) S dX12_wrong_13 rfl ?_
    refine zr_iload_n (pc := 14) S dX12_wrong_14 rfl ?_
    refine zr_invV (pc := 15) S [zI _] (m_X12_wrongOf _) kX12_wrong_269 dX12_wrong_15 rfl (Nat.le_of_ble_eq_true rfl) rfl (Nat.le_of_ble_eq_true rfl) ⟨Nat.le_of_ble_eq_true rfl, Nat.le_of_ble_eq_true rfl⟩ (us_X12_wrongOf ((tz_ag M 0).s hs) (by rw [tz_vv hm]; exact (tz_ag M 0).g hg) (by rw [zup_o _ (by decide)]; exact hk) (by show -1 ≤ tz M 0 180 16; omega) (by omega) (by omega) ?_)
    dsimp only [zaft, Option.toList, List.cons_append, List.nil_append, Nat.add_zero]
    intro G R
    have f := hQ (by omega) _ (offT_TM hm0 G R)
    rw [ew]
    refine zr_goto (pc := 18) (tgt := 27) S dX12_wrong_18 (by decide) ?_
    exact zr_lret (pc := 27) S dX12_wrong_27 rfl ⟨Nat.le_refl _, Nat.le_refl _⟩ (f)
def sp_X12_passes (as : List zV) (M : zM) (Q : Option zV → zM → Prop) : Prop := ∃ (s a : Int), as = [zR 180, zI s, zI a] ∧ (ICs (vm M)) ∧ (ICg (vm M)) ∧ (ICk (M 181)) ∧ (M 180 16 = -1) ∧ ((0 ≤ s ∧ s < M 181 0) → (a = -1 ∨ (0 ≤ a ∧ a < M 181 0)) → ∀ N, offT (tz M 0) N → Q (some (zL (cnt3 (vm M) s (a + 1).toNat))) N) ∧ (¬ ((0 ≤ s ∧ s < M 181 0) ∧ (a = -1 ∨ (0 ≤ a ∧ a < M 181 0))) → Q (some (zL 0)) (tz (tz M 0) 1))
theorem us_X12_passes {s a : Int} {M : zM} {Q : Option zV → zM → Prop} (hs : ICs (vm M)) (hg : ICg (vm M)) (hk : ICk (M 181)) (hm : M 180 16 = -1) (hQ : (0 ≤ s ∧ s < M 181 0) → (a = -1 ∨ (0 ≤ a ∧ a < M 181 0)) → ∀ N, offT (tz M 0) N → Q (some (zL (cnt3 (vm M) s (a + 1).toNat))) N) (hT : ¬ ((0 ≤ s ∧ s < M 181 0) ∧ (a = -1 ∨ (0 ≤ a ∧ a < M 181 0))) → Q (some (zL 0)) (tz (tz M 0) 1)) : sp_X12_passes [zR 180, zI s, zI a] M Q := ⟨s, a, rfl, hs, hg, hk, hm, hQ, hT⟩
set_option maxRecDepth 20000 in
set_option maxHeartbeats 4000000 in
theorem m_X12_passes (l : Launch) : zC l yX12_passes wzX12_passes rmX12_passes sp_X12_passes := by
  refine zMet.of RX12 (by decide +kernel) rfl rfl ?_
  intro E X as M Qp hX S hsp
  obtain ⟨s, a, rfl, hs, hg, hk, hm, hQ, hT⟩ := hsp
  refine ⟨Nat.le_of_ble_eq_true rfl, ?_⟩
  dsimp only [zpad, zargs]
  have t8 : 0 ≤ M 181 0 ∧ M 181 0 ≤ 8 := hs.1
  have hm0 : tz M 0 180 16 = -1 := by show zup M 180 3 0 180 16 = -1; rw [zup_j (by decide)]; exact hm
  have et : tz M 0 181 = M 181 := zup_o _ (by decide)
  have ec : ∀ o, cnt3 (vv (tz M 0)) s o = cnt3 (vm M) s o := fun o => by rw [tz_vv hm, ag_cnt3 (tz_ag M 0)]
  have key : (0 ≤ s ∧ s < M 181 0) → (a = -1 ∨ (0 ≤ a ∧ a < M 181 0)) → ∀ G R : Nat → Int, (∀ k, k < 9 → G k = cnt3 (vv (tz M 0)) s (ocG k)) → zK (zg E) rmX12_passes 3 (Qp, 0, 0) X (0, 0) 38 [some (zR 180), some (zI s), some (zI a)] [] (TM (tz M 0) G R) := by
    intro c1 c2 G R hG
    have f := hQ c1 c2 _ (offT_TM hm0 G R)
    have g8 : a = -1 → TM (tz M 0) G R 187 8 = cnt3 (vm M) s (a + 1).toNat := fun z => by rw [TM_g, hG 8 (by omega), ec, z]; rfl
    have ga : 0 ≤ a → a < 8 → TM (tz M 0) G R 187 a.toNat = cnt3 (vm M) s (a + 1).toNat := fun z z2 => by
      rw [TM_g, hG a.toNat (by omega), ec]
      unfold ocG
      rw [if_neg (by omega), show a.toNat + 1 = (a + 1).toNat by omega]
    refine zr_aload_n (pc := 38) S dX12_passes_38 rfl ?_
    refine zr_getR (pc := 39) S fX12_passes_36 dX12_passes_39 rfl (Nat.le_of_ble_eq_true rfl) rfl ?_
    refine zr_iload_n (pc := 42) S dX12_passes_42 rfl ?_
    refine zr_iconst (pc := 43) S dX12_passes_43 (by unfold zrI; omega) ?_
    refine zr_icmp_ne (pc := 44) (tgt := 52) S dX12_passes_44 (by decide) (fun c44 => ?_) (fun c44 => ?_)
    · refine zr_iload_n (pc := 52) S dX12_passes_52 rfl ?_
      refine zr_laload (pc := 53) S dX12_passes_53 rfl (Nat.le_of_ble_eq_true rfl) (by omega) (by omega) ?_
      first | rw [show TM (tz M 0) G R 187 (Int.toNat 8) = _ from g8 c44] | rw [ga (by omega) (by omega)]
      exact zr_lret (pc := 54) S dX12_passes_54 rfl ⟨Nat.le_refl _, Nat.le_refl _⟩ (f)
    · refine zr_bipush (pc := 47) S dX12_passes_47 ⟨by unfold zrI; omega, by decide⟩ ?_
      refine zr_goto (pc := 49) (tgt := 53) S dX12_passes_49 (by decide) ?_
      refine zr_laload (pc := 53) S dX12_passes_53 rfl (Nat.le_of_ble_eq_true rfl) (by omega) (by omega) ?_
      first | rw [show TM (tz M 0) G R 187 (Int.toNat 8) = _ from g8 c44] | rw [ga (by omega) (by omega)]
      exact zr_lret (pc := 54) S dX12_passes_54 rfl ⟨Nat.le_refl _, Nat.le_refl _⟩ (f)
  refine zr_aload_n (pc := 0) S dX12_passes_0 rfl ?_
  refine zr_iconst (pc := 1) S dX12_passes_1 (by unfold zrI; omega) ?_
  refine zr_putI (pc := 2) S pX12_passes_80 dX12_passes_2 rfl (Nat.le_of_ble_eq_true rfl) rfl ?_
  refine zr_aload_n (pc := 5) S dX12_passes_5 rfl ?_
  refine zr_iload_n (pc := 6) S dX12_passes_6 rfl ?_
  refine zr_invV (pc := 7) S [zI _] (m_X12_isSort _) kX12_passes_99 dX12_passes_7 rfl (Nat.le_of_ble_eq_true rfl) rfl (Nat.le_of_ble_eq_true rfl) ⟨Nat.le_of_ble_eq_true rfl, Nat.le_of_ble_eq_true rfl⟩ (us_X12_isSort t8.1 ?_)
  dsimp only [zaft, Option.toList, List.cons_append, List.nil_append, Nat.add_zero]
  refine zr_if_eq (pc := 10) (tgt := 26) S dX12_passes_10 (by decide) (fun c10 => ?_) (fun c10 => ?_)
  · rw [b01_0] at c10
    have f := hT (fun z => c10 (by show _ ∧ _ ≤ M 181 0 - 1; omega))
    refine zr_aload_n (pc := 26) S dX12_passes_26 rfl ?_
    refine zr_iconst (pc := 27) S dX12_passes_27 (by unfold zrI; omega) ?_
    refine zr_invV (pc := 28) S [zI _] (m_X12_fails _) kX12_passes_95 dX12_passes_28 rfl (Nat.le_of_ble_eq_true rfl) rfl (Nat.le_of_ble_eq_true rfl) ⟨Nat.le_of_ble_eq_true rfl, Nat.le_of_ble_eq_true rfl⟩ (us_X12_fails ?_)
    dsimp only [zaft, Option.toList, List.cons_append, List.nil_append, Nat.add_zero]
    refine zr_i2l (pc := 31) S dX12_passes_31 ?_
    exact zr_lret (pc := 32) S dX12_passes_32 rfl ⟨Nat.le_refl _, Nat.le_refl _⟩ (f)
  · rw [b01_0, Classical.not_not] at c10
    have c10' : 0 ≤ s ∧ s ≤ M 181 0 - 1 := c10
    refine zr_iload_n (pc := 13) S dX12_passes_13 rfl ?_
    refine zr_iconst (pc := 14) S dX12_passes_14 (by unfold zrI; omega) ?_
    refine zr_icmp_eq (pc := 15) (tgt := 33) S dX12_passes_15 (by decide) (fun c15 => ?_) (fun c15 => ?_)
    · have ca : a = -1 ∨ (0 ≤ a ∧ a < M 181 0) := Or.inl c15
      refine zr_aload_n (pc := 33) S dX12_passes_33 rfl ?_
      refine zr_iload_n (pc := 34) S dX12_passes_34 rfl ?_
      refine zr_invV (pc := 35) S [zI _] (m_X12_tally _) kX12_passes_261 dX12_passes_35 rfl (Nat.le_of_ble_eq_true rfl) rfl (Nat.le_of_ble_eq_true rfl) ⟨Nat.le_of_ble_eq_true rfl, Nat.le_of_ble_eq_true rfl⟩ (us_X12_tally ((tz_ag M 0).s hs) (by rw [tz_vv hm]; exact (tz_ag M 0).g hg) (by rw [zup_o _ (by decide)]; exact hk) (by show -1 ≤ tz M 0 180 16; omega) (by omega) (by omega) ?_)
      dsimp only [zaft, Option.toList, List.cons_append, List.nil_append, Nat.add_zero]
      intro G R hG
      exact key (by omega) ca G R hG
    · refine zr_aload_n (pc := 18) S dX12_passes_18 rfl ?_
      refine zr_iload_n (pc := 19) S dX12_passes_19 rfl ?_
      refine zr_invV (pc := 20) S [zI _] (m_X12_isSort _) kX12_passes_99 dX12_passes_20 rfl (Nat.le_of_ble_eq_true rfl) rfl (Nat.le_of_ble_eq_true rfl) ⟨Nat.le_of_ble_eq_true rfl, Nat.le_of_ble_eq_true rfl⟩ (us_X12_isSort t8.1 ?_)
      dsimp only [zaft, Option.toList, List.cons_append, List.nil_append, Nat.add_zero]
      refine zr_if_ne (pc := 23) (tgt := 33) S dX12_passes_23 (by decide) (fun c23 => ?_) (fun c23 => ?_)
      · rw [b01_0, Classical.not_not] at c23
        have c23' : 0 ≤ a ∧ a ≤ M 181 0 - 1 := c23
        have ca : a = -1 ∨ (0 ≤ a ∧ a < M 181 0) := Or.inr (by omega)
        refine zr_aload_n (pc := 33) S dX12_passes_33 rfl ?_
        refine zr_iload_n (pc := 34) S dX12_passes_34 rfl ?_
        refine zr_invV (pc := 35) S [zI _] (m_X12_tally _) kX12_passes_261 dX12_passes_35 rfl (Nat.le_of_ble_eq_true rfl) rfl (Nat.le_of_ble_eq_true rfl) ⟨Nat.le_of_ble_eq_true rfl, Nat.le_of_ble_eq_true rfl⟩ (us_X12_tally ((tz_ag M 0).s hs) (by rw [tz_vv hm]; exact (tz_ag M 0).g hg) (by rw [zup_o _ (by decide)]; exact hk) (by show -1 ≤ tz M 0 180 16; omega) (by omega) (by omega) ?_)
        dsimp only [zaft, Option.toList, List.cons_append, List.nil_append, Nat.add_zero]
        intro G R hG
        exact key (by omega) ca G R hG
      · rw [b01_0] at c23
        have f := hT (fun z => z.2.elim c15 (fun z => c23 (by show _ ∧ _ ≤ M 181 0 - 1; omega)))
        refine zr_aload_n (pc := 26) S dX12_passes_26 rfl ?_
        refine zr_iconst (pc := 27) S dX12_passes_27 (by unfold zrI; omega) ?_
        refine zr_invV (pc := 28) S [zI _] (m_X12_fails _) kX12_passes_95 dX12_passes_28 rfl (Nat.le_of_ble_eq_true rfl) rfl (Nat.le_of_ble_eq_true rfl) ⟨Nat.le_of_ble_eq_true rfl, Nat.le_of_ble_eq_true rfl⟩ (us_X12_fails ?_)
        dsimp only [zaft, Option.toList, List.cons_append, List.nil_append, Nat.add_zero]
        refine zr_i2l (pc := 31) S dX12_passes_31 ?_
        exact zr_lret (pc := 32) S dX12_passes_32 rfl ⟨Nat.le_refl _, Nat.le_refl _⟩ (f)
end
