section
theorem TM_TM {M : zM} {G R G' R' : Nat → Int} : TM (TM M G R) G' R' = TM M G' R' := by
  funext k
  unfold TM zrow
  by_cases h1 : k = 186
  · rw [if_pos h1, if_pos h1]
  · by_cases h2 : k = 187
    · subst h2; rfl
    · simp only [if_neg h1, if_neg h2]
theorem mv_vm (M : zM) (g : Nat) (d e : Int) : AG (vm M) (vm (movesM M g d e)) := fun k hk => by
  have e1 : ∀ c, c ≠ 180 → movesM M g d e c = M c := fun c hc => by unfold movesM; rw [zup_o c hc, zup_o c hc, zup_o c hc]
  show vw (movesM M g d e 181) (movesM M g d e) k = vw (M 181) M k
  rw [e1 _ (by decide)]
  funext j
  unfold vw
  split <;> first | rfl | (rw [e1 _ (by omega)])
theorem mv_vv {M : zM} {g : Nat} (hg : (g : Int) < M 181 1) (d e : Int) : AG (moved (vm M) g d e) (vv (movesM M g d e)) := fun k hk => by
  have a := vm_gate hg
  have m1 : movesM M g d e 180 16 = g := by unfold movesM; rw [zup_j (by decide), zup_j (by decide), zup_e]
  have m2 : movesM M g d e 180 17 = kept (M 181 (104 + 7 * g) + d) := by unfold movesM; rw [zup_j (by decide), zup_e]
  have m3 : movesM M g d e 180 18 = kept (M 181 (105 + 7 * g) + e) := by unfold movesM; rw [zup_e]
  unfold vv moved
  rw [m1, if_neg (by omega), m2, m3, Int.toNat_natCast, a.2.1, a.2.2.1]
  funext j
  unfold zup
  rw [mv_vm M g d e k hk]
theorem moved_g2 {M : zM} (hg : ICg M) (g : Nat) (d e : Int) : ICg (moved M g d e) := by
  refine ⟨by rw [moved_o _ (by decide)]; exact hg.1, fun i hi => ?_⟩
  have a := hg.2 i hi
  have el : 0 ≤ moved M g d e 13 i ∧ moved M g d e 13 i ≤ 99 := by
    unfold moved
    rw [zup_k (by decide)]
    by_cases h : i = g
    · rw [h, zup_e]; unfold kept; omega
    · rw [zup_j h]; omega
  have eh : 0 ≤ moved M g d e 14 i ∧ moved M g d e 14 i ≤ 99 := by
    unfold moved
    by_cases h : i = g
    · rw [h, zup_e]; unfold kept; omega
    · rw [zup_j h, zup_k (by decide)]; omega
  rw [moved_o 12 (by decide), moved_o 15 (by decide), moved_o 16 (by decide)]
  omega
theorem moved_s2 {M : zM} (hs : ICs M) (g : Nat) (d e : Int) : ICs (moved M g d e) := by
  unfold ICs at *
  rw [moved_o _ (by decide), moved_o _ (by decide), moved_o _ (by decide), moved_o _ (by decide), moved_o _ (by decide), moved_o _ (by decide), moved_o _ (by decide)]
  exact hs
theorem wrong_r2 {M : zM} (hs : ICs M) {s : Int} (h0 : 0 ≤ s) (h1 : s < 8) : 0 ≤ wrong M s ∧ wrong M s ≤ 2599000000 := by
  have h8 := hs.1
  have sz := size3u_r hs h0 h1 3 (by omega)
  rw [size3_u] at sz
  have a := wsum_r hs h0 h1 (M 2 0).toNat
  have b : size3 M s * (999 + 200 * ((M 2 0).toNat : Int)) ≤ size3 M s * 2599 := Int.mul_le_mul_of_nonneg_left (by omega) (by omega)
  unfold wrong
  refine ⟨Int.ediv_nonneg (by omega) (by omega), ?_⟩
  apply Int.ediv_le_of_le_mul (by omega)
  have : (1000000 : Int) * (size3 M s * 2599) = 2599000000 * size3 M s := by rw [Int.mul_comm (size3 M s), ← Int.mul_assoc]; rfl
  omega
theorem lp_X12_lossOf {E : zE} {X : zX} {Qp : Option zV → zM → Prop} {M V : zM} {g d e : Int} (S : zS (zg E) X cX12_lossOf 7 wzX12_lossOf RX12 (some .long)) (hV : AG V (vv M)) (hs : ICs (vm M)) (hsV : ICs V) (hg : ICg V) (hk : ICk (M 181)) (hm : -1 ≤ M 180 16) (hQ : ∀ G R : Nat → Int, Qp (some (zL (lossU V (M 181 0).toNat))) (zup (TM M G R) 180 16 (-1))) : ∀ (n i : Nat) (G R : Nat → Int), (n : Int) + i = M 181 0 → zK (zg E) rmX12_lossOf 7 (Qp, 0, 0) X (0, 0) 13 [some (zR 180), some (zI g), some (zI d), some (zI e), some (zL (lossU V i)), none, some (zI i)] [] (TM M G R) := by
  have t8 : 0 ≤ M 181 0 ∧ M 181 0 ≤ 8 := hs.1
  intro n
  induction n with
  | zero =>
    intro i G R hi
    have q := hQ G R
    rw [show (M 181 0).toNat = i by omega] at q
    have et0 : TM M G R 181 0 = M 181 0 := by rw [TM_o (by decide)]
    refine zr_iload (pc := 13) S dX12_lossOf_13 rfl ?_
    refine zr_aload_n (pc := 15) S dX12_lossOf_15 rfl ?_
    refine zr_getR (pc := 16) S fX12_lossOf_9 dX12_lossOf_16 rfl (Nat.le_of_ble_eq_true rfl) rfl ?_
    refine zr_iconst (pc := 19) S dX12_lossOf_19 (by unfold zrI; omega) ?_
    refine zr_iaload (pc := 20) S dX12_lossOf_20 rfl (Nat.le_of_ble_eq_true rfl) (by omega) (by omega) ?_
    dsimp only [Int.reduceToNat]
    rw [et0]
    refine zr_icmp_ge (pc := 21) (tgt := 62) S dX12_lossOf_21 (by decide) (fun c21 => ?_) (fun c21 => absurd c21 (by omega))
    refine zr_aload_n (pc := 62) S dX12_lossOf_62 rfl ?_
    refine zr_iconst (pc := 63) S dX12_lossOf_63 (by unfold zrI; omega) ?_
    refine zr_putI (pc := 64) S pX12_lossOf_30 dX12_lossOf_64 rfl (Nat.le_of_ble_eq_true rfl) rfl ?_
    refine zr_lload (pc := 67) S dX12_lossOf_67 rfl ?_
    exact zr_lret (pc := 69) S dX12_lossOf_69 rfl ⟨Nat.le_refl _, Nat.le_refl _⟩ (q)
  | succ n ih =>
    intro i G R hi
    have et : TM M G R 181 = M 181 := TM_o (by decide)
    have et0 : TM M G R 181 0 = M 181 0 := by rw [et]
    have lr := lossU_r hsV i (by omega)
    have wr := wrong_r2 hsV (s := i) (by omega) (by omega)
    have fl := hs.v (k := i) (by omega) (by omega)
    rw [Int.toNat_natCast] at fl
    have ef : TM M G R 181 (15 + 11 * (i : Int).toNat + Int.toNat 10) = V 10 i := by
      rw [et, ← hV 10 (by decide), vv_o (by decide), vm_flow (by omega), Int.toNat_natCast]
      congr 1
      show 15 + 11 * i + 10 = _
      omega
    have fv : 0 ≤ V 10 i ∧ V 10 i ≤ 1000 := by rw [← hV 10 (by decide), vv_o (by decide)]; omega
    have pm := zmulr (a := V 10 i) (A := 1000) (b := wrong V i) (B := 2599000000) (by omega) (by omega) (by omega) (by omega)
    have agT : AG V (vv (TM M G R)) := fun k hk => by rw [TM_vv M G R k hk]; exact hV k hk
    have ew : wrong (vv (TM M G R)) i = wrong V i := ag_wrong agT i
    have es : lossU V (i + 1) = if 0 < V 10 i then lossU V i + V 10 i * wrong V i else lossU V i := rfl
    by_cases c : 0 < V 10 i
    · have k := fun G' R' => ih (i + 1) G' R' (by omega)
      simp only [es, if_pos c, Int.natCast_add, Int.natCast_one] at k
      refine zr_iload (pc := 13) S dX12_lossOf_13 rfl ?_
      refine zr_aload_n (pc := 15) S dX12_lossOf_15 rfl ?_
      refine zr_getR (pc := 16) S fX12_lossOf_9 dX12_lossOf_16 rfl (Nat.le_of_ble_eq_true rfl) rfl ?_
      refine zr_iconst (pc := 19) S dX12_lossOf_19 (by unfold zrI; omega) ?_
      refine zr_iaload (pc := 20) S dX12_lossOf_20 rfl (Nat.le_of_ble_eq_true rfl) (by omega) (by omega) ?_
      dsimp only [Int.reduceToNat]
      rw [et0]
      refine zr_icmp_ge (pc := 21) (tgt := 62) S dX12_lossOf_21 (by decide) (fun c21 => absurd c21 (by omega)) (fun c21 => ?_)
      refine zr_aload_n (pc := 24) S dX12_lossOf_24 rfl ?_
      refine zr_iload (pc := 25) S dX12_lossOf_25 rfl ?_
      refine zr_bipush (pc := 27) S dX12_lossOf_27 ⟨by unfold zrI; omega, by decide⟩ ?_
      refine zr_invV (pc := 29) S [zI _, zI _] (m_X12_of _) kX12_lossOf_117 dX12_lossOf_29 rfl (Nat.le_of_ble_eq_true rfl) rfl (Nat.le_of_ble_eq_true rfl) ⟨Nat.le_of_ble_eq_true rfl, Nat.le_of_ble_eq_true rfl⟩ (us_X12_of (by omega) (by omega) (by decide) (by decide) ?_)
      dsimp only [zaft, Option.toList, List.cons_append, List.nil_append, Nat.add_zero]
      rw [ef]
      refine zr_if_le (pc := 32) (tgt := 56) S dX12_lossOf_32 (by decide) (fun c32 => absurd c32 (by omega)) (fun c32 => ?_)
      refine zr_lload (pc := 35) S dX12_lossOf_35 rfl ?_
      refine zr_aload_n (pc := 37) S dX12_lossOf_37 rfl ?_
      refine zr_iload (pc := 38) S dX12_lossOf_38 rfl ?_
      refine zr_bipush (pc := 40) S dX12_lossOf_40 ⟨by unfold zrI; omega, by decide⟩ ?_
      refine zr_invV (pc := 42) S [zI _, zI _] (m_X12_of _) kX12_lossOf_117 dX12_lossOf_42 rfl (Nat.le_of_ble_eq_true rfl) rfl (Nat.le_of_ble_eq_true rfl) ⟨Nat.le_of_ble_eq_true rfl, Nat.le_of_ble_eq_true rfl⟩ (us_X12_of (by omega) (by omega) (by decide) (by decide) ?_)
      dsimp only [zaft, Option.toList, List.cons_append, List.nil_append, Nat.add_zero]
      rw [ef]
      refine zr_i2l (pc := 45) S dX12_lossOf_45 ?_
      refine zr_aload_n (pc := 46) S dX12_lossOf_46 rfl ?_
      refine zr_iload (pc := 47) S dX12_lossOf_47 rfl ?_
      refine zr_invV (pc := 49) S [zI _] (m_X12_wrongOf _) kX12_lossOf_269 dX12_lossOf_49 rfl (Nat.le_of_ble_eq_true rfl) rfl (Nat.le_of_ble_eq_true rfl) ⟨Nat.le_of_ble_eq_true rfl, Nat.le_of_ble_eq_true rfl⟩ (us_X12_wrongOf ((TM_vm M G R).s hs) (agT.g hg) (by rw [et]; exact hk) (by rw [TM_o (by decide)]; exact hm) (by omega) (by omega) ?_)
      dsimp only [zaft, Option.toList, List.cons_append, List.nil_append, Nat.add_zero]
      intro G' R'
      rw [ew, TM_TM]
      refine zr_lmul (pc := 52) S dX12_lossOf_52 (by unfold zrL; omega) ?_
      refine zr_ladd (pc := 53) S dX12_lossOf_53 (by unfold zrL; omega) ?_
      refine zr_lstore (pc := 54) S dX12_lossOf_54 (by decide) ?_
      dsimp only [zst1, zst2, zset, zget, zlong]
      refine zr_iinc (pc := 56) S dX12_lossOf_56 rfl (by unfold zrI; omega) (by decide) ?_
      dsimp only [zst1, zst2, zset, zget, zlong]
      refine zr_goto (pc := 59) (tgt := 13) S dX12_lossOf_59 (by decide) ?_
      exact k G' R'
    · have k := ih (i + 1) G R (by omega)
      simp only [es, if_neg c, Int.natCast_add, Int.natCast_one] at k
      refine zr_iload (pc := 13) S dX12_lossOf_13 rfl ?_
      refine zr_aload_n (pc := 15) S dX12_lossOf_15 rfl ?_
      refine zr_getR (pc := 16) S fX12_lossOf_9 dX12_lossOf_16 rfl (Nat.le_of_ble_eq_true rfl) rfl ?_
      refine zr_iconst (pc := 19) S dX12_lossOf_19 (by unfold zrI; omega) ?_
      refine zr_iaload (pc := 20) S dX12_lossOf_20 rfl (Nat.le_of_ble_eq_true rfl) (by omega) (by omega) ?_
      dsimp only [Int.reduceToNat]
      rw [et0]
      refine zr_icmp_ge (pc := 21) (tgt := 62) S dX12_lossOf_21 (by decide) (fun c21 => absurd c21 (by omega)) (fun c21 => ?_)
      refine zr_aload_n (pc := 24) S dX12_lossOf_24 rfl ?_
      refine zr_iload (pc := 25) S dX12_lossOf_25 rfl ?_
      refine zr_bipush (pc := 27) S dX12_lossOf_27 ⟨by unfold zrI; omega, by decide⟩ ?_
      refine zr_invV (pc := 29) S [zI _, zI _] (m_X12_of _) kX12_lossOf_117 dX12_lossOf_29 rfl (Nat.le_of_ble_eq_true rfl) rfl (Nat.le_of_ble_eq_true rfl) ⟨Nat.le_of_ble_eq_true rfl, Nat.le_of_ble_eq_true rfl⟩ (us_X12_of (by omega) (by omega) (by decide) (by decide) ?_)
      dsimp only [zaft, Option.toList, List.cons_append, List.nil_append, Nat.add_zero]
      rw [ef]
      refine zr_if_le (pc := 32) (tgt := 56) S dX12_lossOf_32 (by decide) (fun c32 => ?_) (fun c32 => absurd c32 (by omega))
      refine zr_iinc (pc := 56) S dX12_lossOf_56 rfl (by unfold zrI; omega) (by decide) ?_
      dsimp only [zst1, zst2, zset, zget, zlong]
      refine zr_goto (pc := 59) (tgt := 13) S dX12_lossOf_59 (by decide) ?_
      exact k
theorem off_mv {M : zM} {g : Nat} {d e : Int} {G R : Nat → Int} : offT M (zup (TM (movesM M g d e) G R) 180 16 (-1)) := by
  have e1 : ∀ c, c ≠ 180 → movesM M g d e c = M c := fun c hc => by unfold movesM; rw [zup_o c hc, zup_o c hc, zup_o c hc]
  refine ⟨fun k h1 h2 h3 => by rw [zup_o k h1, TM_o ⟨h2, h3⟩, e1 k h1], fun j h1 h2 h3 => ?_, zup_e⟩
  rw [zup_j h1, TM_o (by decide)]
  unfold movesM
  rw [zup_j h3, zup_j h2, zup_j h1]
def sp_X12_lossOf (as : List zV) (M : zM) (Q : Option zV → zM → Prop) : Prop := ∃ (g : Nat) (d e : Int), as = [zR 180, zI g, zI d, zI e] ∧ (ICs (vm M)) ∧ (ICg (vm M)) ∧ (ICk (M 181)) ∧ ((g : Int) < M 181 1) ∧ (-99 ≤ d ∧ d ≤ 99) ∧ (-99 ≤ e ∧ e ≤ 99) ∧ (∀ N, offT M N → Q (some (zL (lossM (vm M) g d e))) N)
theorem us_X12_lossOf {g : Nat} {d e : Int} {M : zM} {Q : Option zV → zM → Prop} (hs : ICs (vm M)) (hg : ICg (vm M)) (hk : ICk (M 181)) (h1 : (g : Int) < M 181 1) (hd : -99 ≤ d ∧ d ≤ 99) (he : -99 ≤ e ∧ e ≤ 99) (hQ : ∀ N, offT M N → Q (some (zL (lossM (vm M) g d e))) N) : sp_X12_lossOf [zR 180, zI g, zI d, zI e] M Q := ⟨g, d, e, rfl, hs, hg, hk, h1, hd, he, hQ⟩
set_option maxRecDepth 20000 in
set_option maxHeartbeats 4000000 in
theorem m_X12_lossOf (l : Launch) : zC l yX12_lossOf wzX12_lossOf rmX12_lossOf sp_X12_lossOf := by
  refine zMet.of RX12 (by decide +kernel) rfl rfl ?_
  intro E X as M Qp hX S hsp
  obtain ⟨g, d, e, rfl, hs, hg, hk, h1, hd, he, hQ⟩ := hsp
  refine ⟨Nat.le_of_ble_eq_true rfl, ?_⟩
  dsimp only [zpad, zargs]
  have t8 : 0 ≤ M 181 0 ∧ M 181 0 ≤ 8 := hs.1
  have g8 : 0 ≤ M 181 1 ∧ M 181 1 ≤ 8 := hg.1
  have a := vm_gate h1
  have gr := hg.2 g (by omega)
  rw [a.2.1, a.2.2.1] at gr
  have e1 : ∀ c, c ≠ 180 → movesM M g d e c = M c := fun c hc => by unfold movesM; rw [zup_o c hc, zup_o c hc, zup_o c hc]
  have et : movesM M g d e 181 = M 181 := e1 _ (by decide)
  have m1 : movesM M g d e 180 16 = g := by unfold movesM; rw [zup_j (by decide), zup_j (by decide), zup_e]
  have l := lp_X12_lossOf (E := E) (X := X) (Qp := Qp) (M := movesM M g d e) (V := moved (vm M) g d e) (g := g) (d := d) (e := e) S (mv_vv h1 d e) ((mv_vm M g d e).s hs) (moved_s2 hs g d e) (moved_g2 hg g d e) (by rw [et]; exact hk) (by rw [m1]; omega) (fun G R => by rw [et]; exact hQ _ off_mv) (M 181 0).toNat 0 (movesM M g d e 187) (movesM M g d e 186) (by rw [et]; omega)
  rw [TM_s] at l
  refine zr_aload_n (pc := 0) S dX12_lossOf_0 rfl ?_
  refine zr_iload_n (pc := 1) S dX12_lossOf_1 rfl ?_
  refine zr_iload_n (pc := 2) S dX12_lossOf_2 rfl ?_
  refine zr_iload_n (pc := 3) S dX12_lossOf_3 rfl ?_
  refine zr_invV (pc := 4) S [zI _, zI _, zI _] (m_X12_moves _) kX12_lossOf_272 dX12_lossOf_4 rfl (Nat.le_of_ble_eq_true rfl) rfl (Nat.le_of_ble_eq_true rfl) ⟨Nat.le_of_ble_eq_true rfl, Nat.le_of_ble_eq_true rfl⟩ (us_X12_moves (by omega) hd he (by omega) (by omega) ?_)
  dsimp only [zaft, Option.toList, List.cons_append, List.nil_append, Nat.add_zero]
  refine zr_lconst0 (pc := 7) S dX12_lossOf_7 ?_
  refine zr_lstore (pc := 8) S dX12_lossOf_8 (by decide) ?_
  dsimp only [zst1, zst2, zset, zget, zlong]
  refine zr_iconst (pc := 10) S dX12_lossOf_10 (by unfold zrI; omega) ?_
  refine zr_istore (pc := 11) S dX12_lossOf_11 (by decide) ?_
  dsimp only [zst1, zst2, zset, zget, zlong]
  exact l
def sp_X12_loss (as : List zV) (M : zM) (Q : Option zV → zM → Prop) : Prop := ∃ (g d e : Int), as = [zR 180, zI g, zI d, zI e] ∧ (ICs (vm M)) ∧ (ICg (vm M)) ∧ (ICk (M 181)) ∧ ((0 ≤ g ∧ g < M 181 1) → (-99 ≤ d ∧ d ≤ 99) → (-99 ≤ e ∧ e ≤ 99) → ∀ N, offT (tz M 0) N → Q (some (zL (lossM (vm M) g.toNat d e))) N) ∧ (¬ (0 ≤ g ∧ g < M 181 1) → Q (some (zL 0)) (tz M 1)) ∧ ((0 ≤ g ∧ g < M 181 1) → ¬ ((-99 ≤ d ∧ d ≤ 99) ∧ (-99 ≤ e ∧ e ≤ 99)) → Q (some (zL 0)) (tz M 2))
theorem us_X12_loss {g d e : Int} {M : zM} {Q : Option zV → zM → Prop} (hs : ICs (vm M)) (hg : ICg (vm M)) (hk : ICk (M 181)) (hQ : (0 ≤ g ∧ g < M 181 1) → (-99 ≤ d ∧ d ≤ 99) → (-99 ≤ e ∧ e ≤ 99) → ∀ N, offT (tz M 0) N → Q (some (zL (lossM (vm M) g.toNat d e))) N) (hT : ¬ (0 ≤ g ∧ g < M 181 1) → Q (some (zL 0)) (tz M 1)) (hU : (0 ≤ g ∧ g < M 181 1) → ¬ ((-99 ≤ d ∧ d ≤ 99) ∧ (-99 ≤ e ∧ e ≤ 99)) → Q (some (zL 0)) (tz M 2)) : sp_X12_loss [zR 180, zI g, zI d, zI e] M Q := ⟨g, d, e, rfl, hs, hg, hk, hQ, hT, hU⟩
set_option maxRecDepth 20000 in
set_option maxHeartbeats 4000000 in
theorem m_X12_loss (l : Launch) : zC l yX12_loss wzX12_loss rmX12_loss sp_X12_loss := by
  refine zMet.of RX12 (by decide +kernel) rfl rfl ?_
  intro E X as M Qp hX S hsp
  obtain ⟨g, d, e, rfl, hs, hg, hk, hQ, hT, hU⟩ := hsp
  refine ⟨Nat.le_of_ble_eq_true rfl, ?_⟩
  dsimp only [zpad, zargs]
  have h8 : 0 ≤ M 181 1 ∧ M 181 1 ≤ 8 := hg.1
  refine zr_aload_n (pc := 0) S dX12_loss_0 rfl ?_
  refine zr_aload_n (pc := 1) S dX12_loss_1 rfl ?_
  refine zr_iload_n (pc := 2) S dX12_loss_2 rfl ?_
  refine zr_iload_n (pc := 3) S dX12_loss_3 rfl ?_
  refine zr_iload_n (pc := 4) S dX12_loss_4 rfl ?_
  refine zr_invV (pc := 5) S [zI _, zI _, zI _] (m_X12_moveFault _) kX12_loss_278 dX12_loss_5 rfl (Nat.le_of_ble_eq_true rfl) rfl (Nat.le_of_ble_eq_true rfl) ⟨Nat.le_of_ble_eq_true rfl, Nat.le_of_ble_eq_true rfl⟩ (us_X12_moveFault h8.1 (fun c1 c2 c3 => ?_) (fun c => ?_) (fun c c' => ?_))
  · dsimp only [zaft, Nat.add_zero]
    have f := hQ c1 c2 c3
    obtain ⟨n, rfl⟩ : ∃ n : Nat, g = n := ⟨g.toNat, by omega⟩
    rw [Int.toNat_natCast] at f
    have el : lossM (vm (zup M 180 3 0)) n d e = lossM (vm M) n d e := ag_lossM (tz_ag M 0) n d e
    refine zr_putI (pc := 8) S pX12_loss_80 dX12_loss_8 rfl (Nat.le_of_ble_eq_true rfl) rfl ?_
    refine zr_aload_n (pc := 11) S dX12_loss_11 rfl ?_
    refine zr_getI (pc := 12) S fX12_loss_80 dX12_loss_12 rfl (Nat.le_of_ble_eq_true rfl) rfl ?_
    try simp only [zup_k, zup_e, ne_eq, Nat.reduceEqDiff, not_false_eq_true, zup_j]
    refine zr_if_le (pc := 15) (tgt := 22) S dX12_loss_15 (by decide) (fun c15 => ?_) (fun c15 => absurd c15 (by omega))
    refine zr_aload_n (pc := 22) S dX12_loss_22 rfl ?_
    refine zr_iload_n (pc := 23) S dX12_loss_23 rfl ?_
    refine zr_iload_n (pc := 24) S dX12_loss_24 rfl ?_
    refine zr_iload_n (pc := 25) S dX12_loss_25 rfl ?_
    refine zr_invV (pc := 26) S [zI _, zI _, zI _] (m_X12_lossOf _) kX12_loss_281 dX12_loss_26 rfl (Nat.le_of_ble_eq_true rfl) rfl (Nat.le_of_ble_eq_true rfl) ⟨Nat.le_of_ble_eq_true rfl, Nat.le_of_ble_eq_true rfl⟩ (us_X12_lossOf ((tz_ag M 0).s hs) ((tz_ag M 0).g hg) (by rw [zup_o _ (by decide)]; exact hk) (by rw [zup_o _ (by decide)]; exact c1.2) c2 c3 ?_)
    dsimp only [zaft, Option.toList, List.cons_append, List.nil_append, Nat.add_zero]
    intro N hN
    rw [el]
    exact zr_lret (pc := 29) S dX12_loss_29 rfl ⟨Nat.le_refl _, Nat.le_refl _⟩ (f N hN)
  · dsimp only [zaft, Nat.add_zero]
    have f := hT c
    refine zr_putI (pc := 8) S pX12_loss_80 dX12_loss_8 rfl (Nat.le_of_ble_eq_true rfl) rfl ?_
    refine zr_aload_n (pc := 11) S dX12_loss_11 rfl ?_
    refine zr_getI (pc := 12) S fX12_loss_80 dX12_loss_12 rfl (Nat.le_of_ble_eq_true rfl) rfl ?_
    try simp only [zup_k, zup_e, ne_eq, Nat.reduceEqDiff, not_false_eq_true, zup_j]
    refine zr_if_le (pc := 15) (tgt := 22) S dX12_loss_15 (by decide) (fun c15 => absurd c15 (by omega)) (fun c15 => ?_)
    refine zr_lconst0 (pc := 18) S dX12_loss_18 ?_
    refine zr_goto (pc := 19) (tgt := 29) S dX12_loss_19 (by decide) ?_
    exact zr_lret (pc := 29) S dX12_loss_29 rfl ⟨Nat.le_refl _, Nat.le_refl _⟩ (f)
  · dsimp only [zaft, Nat.add_zero]
    have f := hU c c'
    refine zr_putI (pc := 8) S pX12_loss_80 dX12_loss_8 rfl (Nat.le_of_ble_eq_true rfl) rfl ?_
    refine zr_aload_n (pc := 11) S dX12_loss_11 rfl ?_
    refine zr_getI (pc := 12) S fX12_loss_80 dX12_loss_12 rfl (Nat.le_of_ble_eq_true rfl) rfl ?_
    try simp only [zup_k, zup_e, ne_eq, Nat.reduceEqDiff, not_false_eq_true, zup_j]
    refine zr_if_le (pc := 15) (tgt := 22) S dX12_loss_15 (by decide) (fun c15 => absurd c15 (by omega)) (fun c15 => ?_)
    refine zr_lconst0 (pc := 18) S dX12_loss_18 ?_
    refine zr_goto (pc := 19) (tgt := 29) S dX12_loss_19 (by decide) ?_
    exact zr_lret (pc := 29) S dX12_loss_29 rfl ⟨Nat.le_refl _, Nat.le_refl _⟩ (f)
end
