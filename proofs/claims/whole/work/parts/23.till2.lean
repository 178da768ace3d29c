section
/-- the coins of a tube come to the bag -/
def bagU (M : zM) (t : Int) : Nat → zM
  | 0 => M
  | n + 1 => zup (bagU M t n) 20 (M 18 (t * 20 + n).toNat).toNat (bagU M t n 20 (M 18 (t * 20 + n).toNat).toNat + 1)
theorem bagU_o {M : zM} {t : Int} {k : Nat} (h : k ≠ 20) : ∀ n, bagU M t n k = M k
  | 0 => rfl
  | n + 1 => by
    simp only [bagU]
    rw [zup_o k h, bagU_o h n]
theorem bagU_r {B : Int} {M : zM} (h : ICt B M) {t : Int} : ∀ (n : Nat) (s : Nat), s < 8 → 0 ≤ bagU M t n 20 s ∧ bagU M t n 20 s ≤ B + n
  | 0, s, hs => by
    have a := h.2.2.1 s hs
    simp only [bagU]
    omega
  | n + 1, s, hs => by
    have a := bagU_r h (t := t) n s hs
    simp only [bagU, zup, if_true]
    split
    · rename_i e
      rw [← e]
      omega
    · omega
theorem lp_X9_tubeToBag {E : zE} {X : zX} {Qp : Option zV → zM → Prop} {M : zM} {B t : Int} (S : zS (zg E) X cX9_tubeToBag 3 wzX9_tubeToBag RX9 none) (hI : ICt B M) (hB : B ≤ 1000000) (h0 : 0 ≤ t) (h1 : t < 8) (hQ : Qp none (zup (bagU M t (M 19 t.toNat).toNat) 19 t.toNat 0)) : ∀ (n i : Nat), (n : Int) + i = M 19 t.toNat → zK (zg E) rmX9_tubeToBag 3 (Qp, 0, 0) X (0, 0) 2 [some (zR 17), some (zI t), some (zI i)] [] (bagU M t i) := by
  have a := hI.b h0 h1
  have eh : ∀ i, bagU M t i 19 = M 19 := bagU_o (by decide)
  have ec : ∀ i, bagU M t i 18 = M 18 := bagU_o (by decide)
  intro n
  induction n with
  | zero =>
    intro i hi
    have e : i = (M 19 t.toNat).toNat := by omega
    rw [← e] at hQ
    refine zr_iload_n (pc := 2) S dX9_tubeToBag_2 rfl ?_
    refine zr_aload_n (pc := 3) S dX9_tubeToBag_3 rfl ?_
    refine zr_getR (pc := 4) S fX9_tubeToBag_15 dX9_tubeToBag_4 rfl (Nat.le_of_ble_eq_true rfl) rfl ?_
    refine zr_iload_n (pc := 7) S dX9_tubeToBag_7 rfl ?_
    refine zr_iaload (pc := 8) S dX9_tubeToBag_8 rfl (Nat.le_of_ble_eq_true rfl) (by omega) (by omega) ?_
    rw [eh]
    refine zr_icmp_ge (pc := 9) (tgt := 38) S dX9_tubeToBag_9 (by decide) (fun c9 => ?_) (fun c9 => absurd c9 (by omega))
    refine zr_aload_n (pc := 38) S dX9_tubeToBag_38 rfl ?_
    refine zr_getR (pc := 39) S fX9_tubeToBag_15 dX9_tubeToBag_39 rfl (Nat.le_of_ble_eq_true rfl) rfl ?_
    refine zr_iload_n (pc := 42) S dX9_tubeToBag_42 rfl ?_
    refine zr_iconst (pc := 43) S dX9_tubeToBag_43 (by unfold zrI; omega) ?_
    refine zr_iastore (pc := 44) S dX9_tubeToBag_44 rfl (Nat.le_of_ble_eq_true rfl) (by omega) (by omega) ?_
    exact zr_vret (pc := 45) S dX9_tubeToBag_45 rfl ⟨Nat.le_refl _, Nat.le_refl _⟩ (hQ)
  | succ n ih =>
    intro i hi
    have b := hI.c (j := t * 20 + i) (by omega) (by omega)
    have c := bagU_r hI (t := t) i (M 18 (t * 20 + i).toNat).toNat (by omega)
    refine zr_iload_n (pc := 2) S dX9_tubeToBag_2 rfl ?_
    refine zr_aload_n (pc := 3) S dX9_tubeToBag_3 rfl ?_
    refine zr_getR (pc := 4) S fX9_tubeToBag_15 dX9_tubeToBag_4 rfl (Nat.le_of_ble_eq_true rfl) rfl ?_
    refine zr_iload_n (pc := 7) S dX9_tubeToBag_7 rfl ?_
    refine zr_iaload (pc := 8) S dX9_tubeToBag_8 rfl (Nat.le_of_ble_eq_true rfl) (by omega) (by omega) ?_
    rw [eh]
    refine zr_icmp_ge (pc := 9) (tgt := 38) S dX9_tubeToBag_9 (by decide) (fun c9 => absurd c9 (by omega)) (fun c9 => ?_)
    refine zr_aload_n (pc := 12) S dX9_tubeToBag_12 rfl ?_
    refine zr_getR (pc := 13) S fX9_tubeToBag_18 dX9_tubeToBag_13 rfl (Nat.le_of_ble_eq_true rfl) rfl ?_
    refine zr_aload_n (pc := 16) S dX9_tubeToBag_16 rfl ?_
    refine zr_getR (pc := 17) S fX9_tubeToBag_9 dX9_tubeToBag_17 rfl (Nat.le_of_ble_eq_true rfl) rfl ?_
    refine zr_iload_n (pc := 20) S dX9_tubeToBag_20 rfl ?_
    refine zr_bipush (pc := 21) S dX9_tubeToBag_21 ⟨by unfold zrI; omega, by decide⟩ ?_
    refine zr_imul (pc := 23) S dX9_tubeToBag_23 (by unfold zrI; omega) ?_
    refine zr_iload_n (pc := 24) S dX9_tubeToBag_24 rfl ?_
    refine zr_iadd (pc := 25) S dX9_tubeToBag_25 (by unfold zrI; omega) ?_
    refine zr_iaload (pc := 26) S dX9_tubeToBag_26 rfl (Nat.le_of_ble_eq_true rfl) (by omega) (by omega) ?_
    rw [ec]
    refine zr_dup2 (pc := 27) S dX9_tubeToBag_27 rfl rfl ?_
    refine zr_iaload (pc := 28) S dX9_tubeToBag_28 rfl (Nat.le_of_ble_eq_true rfl) (by omega) (by omega) ?_
    refine zr_iconst (pc := 29) S dX9_tubeToBag_29 (by unfold zrI; omega) ?_
    refine zr_iadd (pc := 30) S dX9_tubeToBag_30 (by unfold zrI; omega) ?_
    refine zr_iastore (pc := 31) S dX9_tubeToBag_31 rfl (Nat.le_of_ble_eq_true rfl) (by omega) (by omega) ?_
    refine zr_iinc (pc := 32) S dX9_tubeToBag_32 rfl (by unfold zrI; omega) (by decide) ?_
    dsimp only [zst1, zst2, zset, zget, zlong]
    refine zr_goto (pc := 35) (tgt := 2) S dX9_tubeToBag_35 (by decide) ?_
    exact ih (i + 1) (by omega)
def sp_X9_tubeToBag (as : List zV) (M : zM) (Q : Option zV → zM → Prop) : Prop := ∃ (B t : Int), as = [zR 17, zI t] ∧ (ICt B M) ∧ (B ≤ 1000000) ∧ (0 ≤ t) ∧ (t < 8) ∧ Q (none) (zup (bagU M t (M 19 t.toNat).toNat) 19 t.toNat 0)
theorem us_X9_tubeToBag {B t : Int} {M : zM} {Q : Option zV → zM → Prop} (hI : ICt B M) (hB : B ≤ 1000000) (h0 : 0 ≤ t) (h1 : t < 8) (h99 : Q (none) (zup (bagU M t (M 19 t.toNat).toNat) 19 t.toNat 0)) : sp_X9_tubeToBag [zR 17, zI t] M Q := ⟨B, t, rfl, hI, hB, h0, h1, h99⟩
set_option maxRecDepth 20000 in
set_option maxHeartbeats 4000000 in
theorem m_X9_tubeToBag (l : Launch) : zC l yX9_tubeToBag wzX9_tubeToBag rmX9_tubeToBag sp_X9_tubeToBag := by
  refine zMet.of RX9 (by decide +kernel) rfl rfl ?_
  intro E X as M Qp hX S hsp
  obtain ⟨B, t, rfl, hI, hB, h0, h1, hQ⟩ := hsp
  refine ⟨Nat.le_of_ble_eq_true rfl, ?_⟩
  dsimp only [zpad, zargs]
  have a := hI.b h0 h1
  refine zr_iconst (pc := 0) S dX9_tubeToBag_0 (by unfold zrI; omega) ?_
  refine zr_istore_n (pc := 1) S 2 dX9_tubeToBag_1 rfl (by decide) ?_
  dsimp only [zst1, zst2, zset, zget, zlong]
  exact lp_X9_tubeToBag S hI hB h0 h1 hQ (M 19 t.toNat).toNat 0 (by omega)
def slideIn (M : zM) (c s r w : Int) : zM := zup (zup (zup (zup (zup (zup M 24 (M 17 6).toNat c) 25 (M 17 6).toNat s) 26 (M 17 6).toNat r) 27 (M 17 6).toNat w) 17 6 (M 17 6 + 1)) 22 s.toNat (M 22 s.toNat + r)
def sp_X9_slideIn (as : List zV) (M : zM) (Q : Option zV → zM → Prop) : Prop := ∃ (B c s r w : Int), as = [zR 17, zI c, zI s, zI r, zI w] ∧ (ICt B M) ∧ (B ≤ 1000000) ∧ (0 ≤ s) ∧ (s < 8) ∧ (0 ≤ r) ∧ (r ≤ 2) ∧ (M 17 6 < 12) ∧ Q (none) (slideIn M c s r w)
theorem us_X9_slideIn {B c s r w : Int} {M : zM} {Q : Option zV → zM → Prop} (hI : ICt B M) (hB : B ≤ 1000000) (h0 : 0 ≤ s) (h1 : s < 8) (h2 : 0 ≤ r) (h3 : r ≤ 2) (h4 : M 17 6 < 12) (h99 : Q (none) (slideIn M c s r w)) : sp_X9_slideIn [zR 17, zI c, zI s, zI r, zI w] M Q := ⟨B, c, s, r, w, rfl, hI, hB, h0, h1, h2, h3, h4, h99⟩
set_option maxRecDepth 20000 in
set_option maxHeartbeats 4000000 in
theorem m_X9_slideIn (l : Launch) : zC l yX9_slideIn wzX9_slideIn rmX9_slideIn sp_X9_slideIn := by
  refine zMet.of RX9 (by decide +kernel) rfl rfl ?_
  intro E X as M Qp hX S hsp
  obtain ⟨B, c, s, r, w, rfl, hI, hB, h0, h1, h2, h3, h4, hQ⟩ := hsp
  refine ⟨Nat.le_of_ble_eq_true rfl, ?_⟩
  dsimp only [zpad, zargs]
  have a := hI.b h0 h1
  have b := hI.1
  refine zr_aload_n (pc := 0) S dX9_slideIn_0 rfl ?_
  refine zr_getR (pc := 1) S fX9_slideIn_30 dX9_slideIn_1 rfl (Nat.le_of_ble_eq_true rfl) rfl ?_
  refine zr_aload_n (pc := 4) S dX9_slideIn_4 rfl ?_
  refine zr_getI (pc := 5) S fX9_slideIn_53 dX9_slideIn_5 rfl (Nat.le_of_ble_eq_true rfl) rfl ?_
  refine zr_iload_n (pc := 8) S dX9_slideIn_8 rfl ?_
  refine zr_iastore (pc := 9) S dX9_slideIn_9 rfl (Nat.le_of_ble_eq_true rfl) (by omega) (by omega) ?_
  refine zr_aload_n (pc := 10) S dX9_slideIn_10 rfl ?_
  refine zr_getR (pc := 11) S fX9_slideIn_33 dX9_slideIn_11 rfl (Nat.le_of_ble_eq_true rfl) rfl ?_
  try simp only [zup_k, zup_e, ne_eq, Nat.reduceEqDiff, not_false_eq_true, zup_j]
  refine zr_aload_n (pc := 14) S dX9_slideIn_14 rfl ?_
  refine zr_getI (pc := 15) S fX9_slideIn_53 dX9_slideIn_15 rfl (Nat.le_of_ble_eq_true rfl) rfl ?_
  try simp only [zup_k, zup_e, ne_eq, Nat.reduceEqDiff, not_false_eq_true, zup_j]
  refine zr_iload_n (pc := 18) S dX9_slideIn_18 rfl ?_
  refine zr_iastore (pc := 19) S dX9_slideIn_19 rfl (Nat.le_of_ble_eq_true rfl) (by omega) (by omega) ?_
  refine zr_aload_n (pc := 20) S dX9_slideIn_20 rfl ?_
  refine zr_getR (pc := 21) S fX9_slideIn_36 dX9_slideIn_21 rfl (Nat.le_of_ble_eq_true rfl) rfl ?_
  try simp only [zup_k, zup_e, ne_eq, Nat.reduceEqDiff, not_false_eq_true, zup_j]
  refine zr_aload_n (pc := 24) S dX9_slideIn_24 rfl ?_
  refine zr_getI (pc := 25) S fX9_slideIn_53 dX9_slideIn_25 rfl (Nat.le_of_ble_eq_true rfl) rfl ?_
  try simp only [zup_k, zup_e, ne_eq, Nat.reduceEqDiff, not_false_eq_true, zup_j]
  refine zr_iload_n (pc := 28) S dX9_slideIn_28 rfl ?_
  refine zr_iastore (pc := 29) S dX9_slideIn_29 rfl (Nat.le_of_ble_eq_true rfl) (by omega) (by omega) ?_
  refine zr_aload_n (pc := 30) S dX9_slideIn_30 rfl ?_
  refine zr_getR (pc := 31) S fX9_slideIn_39 dX9_slideIn_31 rfl (Nat.le_of_ble_eq_true rfl) rfl ?_
  try simp only [zup_k, zup_e, ne_eq, Nat.reduceEqDiff, not_false_eq_true, zup_j]
  refine zr_aload_n (pc := 34) S dX9_slideIn_34 rfl ?_
  refine zr_getI (pc := 35) S fX9_slideIn_53 dX9_slideIn_35 rfl (Nat.le_of_ble_eq_true rfl) rfl ?_
  try simp only [zup_k, zup_e, ne_eq, Nat.reduceEqDiff, not_false_eq_true, zup_j]
  refine zr_iload (pc := 38) S dX9_slideIn_38 rfl ?_
  refine zr_iastore (pc := 40) S dX9_slideIn_40 rfl (Nat.le_of_ble_eq_true rfl) (by omega) (by omega) ?_
  refine zr_aload_n (pc := 41) S dX9_slideIn_41 rfl ?_
  refine zr_dup (pc := 42) S dX9_slideIn_42 rfl ?_
  refine zr_getI (pc := 43) S fX9_slideIn_53 dX9_slideIn_43 rfl (Nat.le_of_ble_eq_true rfl) rfl ?_
  try simp only [zup_k, zup_e, ne_eq, Nat.reduceEqDiff, not_false_eq_true, zup_j]
  refine zr_iconst (pc := 46) S dX9_slideIn_46 (by unfold zrI; omega) ?_
  refine zr_iadd (pc := 47) S dX9_slideIn_47 (by unfold zrI; omega) ?_
  refine zr_putI (pc := 48) S pX9_slideIn_53 dX9_slideIn_48 rfl (Nat.le_of_ble_eq_true rfl) rfl ?_
  refine zr_aload_n (pc := 51) S dX9_slideIn_51 rfl ?_
  refine zr_getR (pc := 52) S fX9_slideIn_24 dX9_slideIn_52 rfl (Nat.le_of_ble_eq_true rfl) rfl ?_
  try simp only [zup_k, zup_e, ne_eq, Nat.reduceEqDiff, not_false_eq_true, zup_j]
  refine zr_iload_n (pc := 55) S dX9_slideIn_55 rfl ?_
  refine zr_dup2 (pc := 56) S dX9_slideIn_56 rfl rfl ?_
  refine zr_iaload (pc := 57) S dX9_slideIn_57 rfl (Nat.le_of_ble_eq_true rfl) (by omega) (by omega) ?_
  try simp only [zup_k, zup_e, ne_eq, Nat.reduceEqDiff, not_false_eq_true]
  refine zr_iload_n (pc := 58) S dX9_slideIn_58 rfl ?_
  refine zr_iadd (pc := 59) S dX9_slideIn_59 (by unfold zrI; omega) ?_
  refine zr_iastore (pc := 60) S dX9_slideIn_60 rfl (Nat.le_of_ble_eq_true rfl) (by omega) (by omega) ?_
  exact zr_vret (pc := 61) S dX9_slideIn_61 rfl ⟨Nat.le_refl _, Nat.le_refl _⟩ (hQ)
def sumU (f : Nat → Int) : Nat → Int
  | 0 => 0
  | n + 1 => sumU f n + f n
theorem sumU_r {f : Nat → Int} {c : Int} {N : Nat} (h : ∀ i, i < N → 0 ≤ f i ∧ f i ≤ c) : ∀ n, n ≤ N → 0 ≤ sumU f n ∧ sumU f n ≤ c * n
  | 0, _ => by simp [sumU]
  | n + 1, hn => by
    have a := sumU_r h n (by omega)
    have b := h n (by omega)
    have e : c * ((n + 1 : Nat) : Int) = c * n + c := by rw [Int.natCast_add, Int.mul_add]; simp
    simp only [sumU]
    omega
def credit (M : zM) : Int := sumU (M 27) (M 17 6).toNat
theorem credit_r {B : Int} {M : zM} (h : ICt B M) : 0 ≤ credit M ∧ credit M ≤ 4800 := by
  have a := h.1
  have b := sumU_r (f := M 27) (c := 400) (N := 12) (fun i hi => ⟨(h.2.2.2.2 i hi).2.2.2.2.2.2.1, (h.2.2.2.2 i hi).2.2.2.2.2.2.2⟩) (M 17 6).toNat (by omega)
  unfold credit
  omega
theorem lp_X9_allCredit {E : zE} {X : zX} {Qp : Option zV → zM → Prop} {M : zM} {B : Int} (S : zS (zg E) X cX9_allCredit 3 wzX9_allCredit RX9 (some .int)) (hI : ICt B M) (hQ : Qp (some (zI (credit M))) M) : ∀ (n i : Nat), (n : Int) + i = M 17 6 → zK (zg E) rmX9_allCredit 3 (Qp, 0, 0) X (0, 0) 4 [some (zR 17), some (zI (sumU (M 27) i)), some (zI i)] [] M := by
  have a := hI.1
  intro n
  induction n with
  | zero =>
    intro i hi
    refine zr_iload_n (pc := 4) S dX9_allCredit_4 rfl ?_
    refine zr_aload_n (pc := 5) S dX9_allCredit_5 rfl ?_
    refine zr_getI (pc := 6) S fX9_allCredit_53 dX9_allCredit_6 rfl (Nat.le_of_ble_eq_true rfl) rfl ?_
    refine zr_icmp_ge (pc := 9) (tgt := 27) S dX9_allCredit_9 (by decide) (fun c9 => ?_) (fun c9 => absurd c9 (by omega))
    refine zr_iload_n (pc := 27) S dX9_allCredit_27 rfl ?_
    exact zr_iret (pc := 28) S dX9_allCredit_28 rfl ⟨Nat.le_refl _, Nat.le_refl _⟩ (zqi hQ (by unfold credit; congr 1; omega))
  | succ n ih =>
    intro i hi
    have b := sumU_r (f := M 27) (c := 400) (N := 12) (fun i hi => ⟨(hI.2.2.2.2 i hi).2.2.2.2.2.2.1, (hI.2.2.2.2 i hi).2.2.2.2.2.2.2⟩) i (by omega)
    have c := hI.l (i := i) (by omega) (by omega)
    have e : (i : Int).toNat = i := Int.toNat_natCast i
    rw [e] at c
    refine zr_iload_n (pc := 4) S dX9_allCredit_4 rfl ?_
    refine zr_aload_n (pc := 5) S dX9_allCredit_5 rfl ?_
    refine zr_getI (pc := 6) S fX9_allCredit_53 dX9_allCredit_6 rfl (Nat.le_of_ble_eq_true rfl) rfl ?_
    refine zr_icmp_ge (pc := 9) (tgt := 27) S dX9_allCredit_9 (by decide) (fun c9 => absurd c9 (by omega)) (fun c9 => ?_)
    refine zr_iload_n (pc := 12) S dX9_allCredit_12 rfl ?_
    refine zr_aload_n (pc := 13) S dX9_allCredit_13 rfl ?_
    refine zr_getR (pc := 14) S fX9_allCredit_39 dX9_allCredit_14 rfl (Nat.le_of_ble_eq_true rfl) rfl ?_
    refine zr_iload_n (pc := 17) S dX9_allCredit_17 rfl ?_
    refine zr_iaload (pc := 18) S dX9_allCredit_18 rfl (Nat.le_of_ble_eq_true rfl) (by omega) (by omega) ?_
    rw [e]
    refine zr_iadd (pc := 19) S dX9_allCredit_19 (by unfold zrI; omega) ?_
    refine zr_istore_n (pc := 20) S 1 dX9_allCredit_20 rfl (by decide) ?_
    dsimp only [zst1, zst2, zset, zget, zlong]
    refine zr_iinc (pc := 21) S dX9_allCredit_21 rfl (by unfold zrI; omega) (by decide) ?_
    dsimp only [zst1, zst2, zset, zget, zlong]
    refine zr_goto (pc := 24) (tgt := 4) S dX9_allCredit_24 (by decide) ?_
    exact ih (i + 1) (by omega)
def sp_X9_allCredit (as : List zV) (M : zM) (Q : Option zV → zM → Prop) : Prop := ∃ (B : Int), as = [zR 17] ∧ (ICt B M) ∧ Q (some (zI (credit M))) (M)
theorem us_X9_allCredit {B : Int} {M : zM} {Q : Option zV → zM → Prop} (hI : ICt B M) (h99 : Q (some (zI (credit M))) (M)) : sp_X9_allCredit [zR 17] M Q := ⟨B, rfl, hI, h99⟩
set_option maxRecDepth 20000 in
set_option maxHeartbeats 4000000 in
theorem m_X9_allCredit (l : Launch) : zC l yX9_allCredit wzX9_allCredit rmX9_allCredit sp_X9_allCredit := by
  refine zMet.of RX9 (by decide +kernel) rfl rfl ?_
  intro E X as M Qp hX S hsp
  obtain ⟨B, rfl, hI, hQ⟩ := hsp
  refine ⟨Nat.le_of_ble_eq_true rfl, ?_⟩
  dsimp only [zpad, zargs]
  have a := hI.1
  refine zr_iconst (pc := 0) S dX9_allCredit_0 (by unfold zrI; omega) ?_
  refine zr_istore_n (pc := 1) S 1 dX9_allCredit_1 rfl (by decide) ?_
  dsimp only [zst1, zst2, zset, zget, zlong]
  refine zr_iconst (pc := 2) S dX9_allCredit_2 (by unfold zrI; omega) ?_
  refine zr_istore_n (pc := 3) S 2 dX9_allCredit_3 rfl (by decide) ?_
  dsimp only [zst1, zst2, zset, zget, zlong]
  exact lp_X9_allCredit S hI hQ (M 17 6).toNat 0 (by omega)
def giveOut (M : zM) (s : Int) : zM := if M 17 11 < 160 then zup (zup M 28 (M 17 11).toNat s) 17 11 (M 17 11 + 1) else M
theorem giveOut_o {M : zM} {s : Int} {k : Nat} (h : k ≠ 28 ∧ k ≠ 17) : giveOut M s k = M k := by
  unfold giveOut
  split
  · rw [zup_o k h.2, zup_o k h.1]
  · rfl
theorem giveOut_m {M : zM} {s : Int} : giveOut M s 17 6 = M 17 6 := by
  unfold giveOut
  split
  · simp [zup]
  · rfl
theorem giveOut_g {M : zM} {s : Int} (h : 0 ≤ M 17 11 ∧ M 17 11 ≤ 160) : 0 ≤ giveOut M s 17 11 ∧ giveOut M s 17 11 ≤ 160 := by
  unfold giveOut
  split
  · simp [zup]; omega
  · exact h
def sp_X9_giveOut (as : List zV) (M : zM) (Q : Option zV → zM → Prop) : Prop := ∃ (s : Int), as = [zR 17, zI s] ∧ (0 ≤ M 17 11 ∧ M 17 11 ≤ 160) ∧ Q (none) (giveOut M s)
theorem us_X9_giveOut {s : Int} {M : zM} {Q : Option zV → zM → Prop} (h0 : 0 ≤ M 17 11 ∧ M 17 11 ≤ 160) (h99 : Q (none) (giveOut M s)) : sp_X9_giveOut [zR 17, zI s] M Q := ⟨s, rfl, h0, h99⟩
set_option maxRecDepth 20000 in
set_option maxHeartbeats 4000000 in
theorem m_X9_giveOut (l : Launch) : zC l yX9_giveOut wzX9_giveOut rmX9_giveOut sp_X9_giveOut := by
  refine zMet.of RX9 (by decide +kernel) rfl rfl ?_
  intro E X as M Qp hX S hsp
  obtain ⟨s, rfl, h0, hQ⟩ := hsp
  refine ⟨Nat.le_of_ble_eq_true rfl, ?_⟩
  dsimp only [zpad, zargs]
  unfold giveOut at hQ
  refine zr_aload_n (pc := 0) S dX9_giveOut_0 rfl ?_
  refine zr_getI (pc := 1) S fX9_giveOut_65 dX9_giveOut_1 rfl (Nat.le_of_ble_eq_true rfl) rfl ?_
  refine zr_aload_n (pc := 4) S dX9_giveOut_4 rfl ?_
  refine zr_getR (pc := 5) S fX9_giveOut_42 dX9_giveOut_5 rfl (Nat.le_of_ble_eq_true rfl) rfl ?_
  refine zr_alen (pc := 8) S dX9_giveOut_8 rfl (Nat.le_of_ble_eq_true rfl) ⟨_, rfl⟩ (by unfold zrI; omega) ?_
  refine zr_icmp_ge (pc := 9) (tgt := 32) S dX9_giveOut_9 (by decide) (fun c9 => ?_) (fun c9 => ?_)
  · rw [if_neg (by omega)] at hQ
    exact zr_vret (pc := 32) S dX9_giveOut_32 rfl ⟨Nat.le_refl _, Nat.le_refl _⟩ (hQ)
  · rw [if_pos (by omega)] at hQ
    refine zr_aload_n (pc := 12) S dX9_giveOut_12 rfl ?_
    refine zr_getR (pc := 13) S fX9_giveOut_42 dX9_giveOut_13 rfl (Nat.le_of_ble_eq_true rfl) rfl ?_
    refine zr_aload_n (pc := 16) S dX9_giveOut_16 rfl ?_
    refine zr_getI (pc := 17) S fX9_giveOut_65 dX9_giveOut_17 rfl (Nat.le_of_ble_eq_true rfl) rfl ?_
    refine zr_iload_n (pc := 20) S dX9_giveOut_20 rfl ?_
    refine zr_iastore (pc := 21) S dX9_giveOut_21 rfl (Nat.le_of_ble_eq_true rfl) (by omega) (by omega) ?_
    refine zr_aload_n (pc := 22) S dX9_giveOut_22 rfl ?_
    refine zr_dup (pc := 23) S dX9_giveOut_23 rfl ?_
    refine zr_getI (pc := 24) S fX9_giveOut_65 dX9_giveOut_24 rfl (Nat.le_of_ble_eq_true rfl) rfl ?_
    try simp only [zup_k, zup_e, ne_eq, Nat.reduceEqDiff, not_false_eq_true, zup_j]
    refine zr_iconst (pc := 27) S dX9_giveOut_27 (by unfold zrI; omega) ?_
    refine zr_iadd (pc := 28) S dX9_giveOut_28 (by unfold zrI; omega) ?_
    refine zr_putI (pc := 29) S pX9_giveOut_65 dX9_giveOut_29 rfl (Nat.le_of_ble_eq_true rfl) rfl ?_
    exact zr_vret (pc := 32) S dX9_giveOut_32 rfl ⟨Nat.le_refl _, Nat.le_refl _⟩ (hQ)
end
