section
/-- the reading of tokens -/
def runP (P : Nat → Prop) [DecidablePred P] : Nat → Nat → Nat
  | 0, p => p
  | f + 1, p => if P p then runP P f (p + 1) else p
abbrev isBl (t : Nat → Int) (n p : Nat) : Prop := p < n ∧ (t p = 32 ∨ t p = 10)
abbrev isLe (t : Nat → Int) (n p : Nat) : Prop := p < n ∧ 97 ≤ t p ∧ t p ≤ 122
abbrev isDi (t : Nat → Int) (n p : Nat) : Prop := p < n ∧ 48 ≤ t p ∧ t p ≤ 57
def run (P : Nat → Prop) [DecidablePred P] (n p : Nat) : Nat := runP P (n - p) p
theorem run_t {P : Nat → Prop} [DecidablePred P] {n p : Nat} (h : P p) (hp : p < n) : run P n p = run P n (p + 1) := by
  unfold run
  rw [show n - p = (n - (p + 1)) + 1 by omega]
  simp only [runP]
  rw [if_pos h]
theorem run_f {P : Nat → Prop} [DecidablePred P] {n p : Nat} (h : ¬ P p) : run P n p = p := by
  unfold run
  cases n - p with
  | zero => rfl
  | succ k => simp only [runP]; rw [if_neg h]
theorem runP_r {P : Nat → Prop} [DecidablePred P] : ∀ f p, p ≤ runP P f p ∧ runP P f p ≤ p + f
  | 0, p => ⟨Nat.le_refl _, Nat.le_refl _⟩
  | f + 1, p => by
    have := runP_r (P := P) f (p + 1)
    simp only [runP]
    split <;> omega
theorem run_r {P : Nat → Prop} [DecidablePred P] {n p : Nat} (h : p ≤ n) : p ≤ run P n p ∧ run P n p ≤ n := by
  have := runP_r (P := P) (n - p) p
  unfold run
  omega
def tS (t : Nat → Int) (n p : Nat) : Nat := run (isBl t n) n p
def tE (t : Nat → Int) (n p : Nat) : Nat := if tS t n p < n then (if isLe t n (tS t n p) then run (isLe t n) n (tS t n p) else if isDi t n (tS t n p) then run (isDi t n) n (tS t n p) else tS t n p + 1) else tS t n p
def tK (t : Nat → Int) (n p : Nat) : Int := if tS t n p < n then (if isLe t n (tS t n p) then 1 else if isDi t n (tS t n p) then (if 2 < run (isDi t n) n (tS t n p) - tS t n p then 4 else 2) else if t (tS t n p) = 59 then 3 else 4) else 0
def tV (t : Nat → Int) (s e : Nat) : Int := if e - s = 0 then 0 else if e - s = 1 then t s - 48 else 10 * (t s - 48) + (t (s + 1) - 48)
def rmX12_see : Room := { frames := 0, cells := 0, slots := 0, locals := 0 }
abbrev wzX12_see : List Cond := .code yX12_see cX12_see 2 (some .int) :: zW
def rmX12_isLetter : Room := { frames := 0, cells := 0, slots := 0, locals := 0 }
abbrev wzX12_isLetter : List Cond := .code yX12_isLetter cX12_isLetter 1 (some .boolean) :: zW
def rmX12_isDigit : Room := { frames := 0, cells := 0, slots := 0, locals := 0 }
abbrev wzX12_isDigit : List Cond := .code yX12_isDigit cX12_isDigit 1 (some .boolean) :: zW
def rmX12_next : Room := { frames := 1, cells := 0, slots := 0, locals := 21 }
abbrev wzX12_next : List Cond := .code yX12_next cX12_next 2 none :: zW
theorem fX12_see_139 : zfl wzX12_see RX12 vwCl 139 12 7 := ⟨_, _, _, rfl, (fun w h => List.mem_cons_of_mem _ (zWuX12 w h)), by decide, List.mem_cons_of_mem _ (zWi_9 _ (List.mem_of_getElem? (i := 7) rfl))⟩
theorem fX12_see_20 : zfl wzX12_see RX12 vwCl 20 12 4 := ⟨_, _, _, rfl, (fun w h => List.mem_cons_of_mem _ (zWuX12 w h)), by decide, List.mem_cons_of_mem _ (zWi_9 _ (List.mem_of_getElem? (i := 15) rfl))⟩
theorem fX12_next_142 : zfl wzX12_next RX12 vwCl 142 12 8 := ⟨_, _, _, rfl, (fun w h => List.mem_cons_of_mem _ (zWuX12 w h)), by decide, List.mem_cons_of_mem _ (zWi_9 _ (List.mem_of_getElem? (i := 8) rfl))⟩
theorem fX12_next_139 : zfl wzX12_next RX12 vwCl 139 12 7 := ⟨_, _, _, rfl, (fun w h => List.mem_cons_of_mem _ (zWuX12 w h)), by decide, List.mem_cons_of_mem _ (zWi_9 _ (List.mem_of_getElem? (i := 7) rfl))⟩
theorem fX12_next_20 : zfl wzX12_next RX12 vwCl 20 12 4 := ⟨_, _, _, rfl, (fun w h => List.mem_cons_of_mem _ (zWuX12 w h)), by decide, List.mem_cons_of_mem _ (zWi_9 _ (List.mem_of_getElem? (i := 15) rfl))⟩
theorem pX12_next_142 : zfp wzX12_next RX12 vwCl 142 12 8 := ⟨_, _, _, _, rfl, (fun w h => List.mem_cons_of_mem _ (zWuX12 w h)), by decide, List.mem_cons_of_mem _ (zWi_9 _ (List.mem_of_getElem? (i := 8) rfl)), tyX12_ok, nmX12, rfl, by decide +kernel⟩
theorem pX12_next_145 : zfp wzX12_next RX12 vwCl 145 12 9 := ⟨_, _, _, _, rfl, (fun w h => List.mem_cons_of_mem _ (zWuX12 w h)), by decide, List.mem_cons_of_mem _ (zWi_9 _ (List.mem_of_getElem? (i := 9) rfl)), tyX12_ok, nmX12, rfl, by decide +kernel⟩
theorem pX12_next_148 : zfp wzX12_next RX12 vwCl 148 12 10 := ⟨_, _, _, _, rfl, (fun w h => List.mem_cons_of_mem _ (zWuX12 w h)), by decide, List.mem_cons_of_mem _ (zWi_9 _ (List.mem_of_getElem? (i := 10) rfl)), tyX12_ok, nmX12, rfl, by decide +kernel⟩
theorem pX12_next_160 : zfp wzX12_next RX12 vwCl 160 12 11 := ⟨_, _, _, _, rfl, (fun w h => List.mem_cons_of_mem _ (zWuX12 w h)), by decide, List.mem_cons_of_mem _ (zWi_9 _ (List.mem_of_getElem? (i := 12) rfl)), tyX12_ok, nmX12, rfl, by decide +kernel⟩
theorem fX12_next_145 : zfl wzX12_next RX12 vwCl 145 12 9 := ⟨_, _, _, rfl, (fun w h => List.mem_cons_of_mem _ (zWuX12 w h)), by decide, List.mem_cons_of_mem _ (zWi_9 _ (List.mem_of_getElem? (i := 9) rfl))⟩
theorem fX12_next_160 : zfl wzX12_next RX12 vwCl 160 12 11 := ⟨_, _, _, rfl, (fun w h => List.mem_cons_of_mem _ (zWuX12 w h)), by decide, List.mem_cons_of_mem _ (zWi_9 _ (List.mem_of_getElem? (i := 12) rfl))⟩
theorem kX12_next_151 : ∀ (s9 : State) (a9 : Array Value), (∀ w ∈ wzX12_next, w.before a9 s9 = true) → CallB rmX12_next s9 a9 RX12 151 yX12_isLetter cX12_isLetter 1 (some .boolean) wzX12_isLetter rmX12_isLetter 0 0 1 ∧ (Cond.static yX12_isLetter).before a9 s9 = true := zcS (zWi_22 _ (List.mem_of_getElem? (i := 23) rfl)) (zWi_31 _ (List.mem_of_getElem? (i := 11) rfl)) (zWi_12 _ (List.mem_of_getElem? (i := 13) rfl)) (zWi_3 _ (List.mem_of_getElem? (i := 9) rfl)) (by decide +kernel) rfl rfl ⟨Nat.le_of_ble_eq_true rfl, Nat.le_of_ble_eq_true rfl⟩
theorem kX12_next_154 : ∀ (s9 : State) (a9 : Array Value), (∀ w ∈ wzX12_next, w.before a9 s9 = true) → CallW rmX12_next s9 a9 RX12 RX12 154 yX12_see cX12_see 2 (some .int) wzX12_see rmX12_see 0 0 1 := zcV (zWi_22 _ (List.mem_of_getElem? (i := 24) rfl)) (zWi_15 _ (List.mem_of_getElem? (i := 13) rfl)) (zWi_28 _ (List.mem_of_getElem? (i := 4) rfl)) (zWi_12 _ (List.mem_of_getElem? (i := 13) rfl)) (zWi_3 _ (List.mem_of_getElem? (i := 45) rfl)) (by decide +kernel) rfl rfl ⟨Nat.le_of_ble_eq_true rfl, Nat.le_of_ble_eq_true rfl⟩
theorem kX12_next_157 : ∀ (s9 : State) (a9 : Array Value), (∀ w ∈ wzX12_next, w.before a9 s9 = true) → CallB rmX12_next s9 a9 RX12 157 yX12_isDigit cX12_isDigit 1 (some .boolean) wzX12_isDigit rmX12_isDigit 0 0 1 ∧ (Cond.static yX12_isDigit).before a9 s9 = true := zcS (zWi_22 _ (List.mem_of_getElem? (i := 25) rfl)) (zWi_31 _ (List.mem_of_getElem? (i := 10) rfl)) (zWi_12 _ (List.mem_of_getElem? (i := 13) rfl)) (zWi_3 _ (List.mem_of_getElem? (i := 6) rfl)) (by decide +kernel) rfl rfl ⟨Nat.le_of_ble_eq_true rfl, Nat.le_of_ble_eq_true rfl⟩
def sp_X12_isLetter (as : List zV) (M : zM) (Q : Option zV → zM → Prop) : Prop := ∃ (c : Int), as = [zI c] ∧ (Q (some (zI (b01 (97 ≤ c ∧ c ≤ 122)))) M)
theorem us_X12_isLetter {c : Int} {M : zM} {Q : Option zV → zM → Prop} (hQ : Q (some (zI (b01 (97 ≤ c ∧ c ≤ 122)))) M) : sp_X12_isLetter [zI c] M Q := ⟨c, rfl, hQ⟩
set_option maxRecDepth 20000 in
set_option maxHeartbeats 4000000 in
theorem m_X12_isLetter (l : Launch) : zC l yX12_isLetter wzX12_isLetter rmX12_isLetter sp_X12_isLetter := by
  refine zMet.of RX12 (by decide +kernel) rfl rfl ?_
  intro E X as M Qp hX S hsp
  obtain ⟨c, rfl, hQ⟩ := hsp
  refine ⟨Nat.le_of_ble_eq_true rfl, ?_⟩
  dsimp only [zpad, zargs]
  refine zr_iload_n (pc := 0) S dX12_isLetter_0 rfl ?_
  refine zr_bipush (pc := 1) S dX12_isLetter_1 ⟨by unfold zrI; omega, by decide⟩ ?_
  refine zr_icmp_lt (pc := 3) (tgt := 16) S dX12_isLetter_3 (by decide) (fun c3 => ?_) (fun c3 => ?_)
  · refine zr_iconst (pc := 16) S dX12_isLetter_16 (by unfold zrI; omega) ?_
    exact zr_zret (pc := 17) S dX12_isLetter_17 rfl (by first | omega | exact b01_r) ⟨Nat.le_refl _, Nat.le_refl _⟩ (zqi hQ (by unfold b01; split <;> omega))
  · refine zr_iload_n (pc := 6) S dX12_isLetter_6 rfl ?_
    refine zr_bipush (pc := 7) S dX12_isLetter_7 ⟨by unfold zrI; omega, by decide⟩ ?_
    refine zr_icmp_gt (pc := 9) (tgt := 16) S dX12_isLetter_9 (by decide) (fun c9 => ?_) (fun c9 => ?_)
    · refine zr_iconst (pc := 16) S dX12_isLetter_16 (by unfold zrI; omega) ?_
      exact zr_zret (pc := 17) S dX12_isLetter_17 rfl (by first | omega | exact b01_r) ⟨Nat.le_refl _, Nat.le_refl _⟩ (zqi hQ (by unfold b01; split <;> omega))
    · refine zr_iconst (pc := 12) S dX12_isLetter_12 (by unfold zrI; omega) ?_
      refine zr_goto (pc := 13) (tgt := 17) S dX12_isLetter_13 (by decide) ?_
      exact zr_zret (pc := 17) S dX12_isLetter_17 rfl (by first | omega | exact b01_r) ⟨Nat.le_refl _, Nat.le_refl _⟩ (zqi hQ (by unfold b01; split <;> omega))
def sp_X12_isDigit (as : List zV) (M : zM) (Q : Option zV → zM → Prop) : Prop := ∃ (c : Int), as = [zI c] ∧ (Q (some (zI (b01 (48 ≤ c ∧ c ≤ 57)))) M)
theorem us_X12_isDigit {c : Int} {M : zM} {Q : Option zV → zM → Prop} (hQ : Q (some (zI (b01 (48 ≤ c ∧ c ≤ 57)))) M) : sp_X12_isDigit [zI c] M Q := ⟨c, rfl, hQ⟩
set_option maxRecDepth 20000 in
set_option maxHeartbeats 4000000 in
theorem m_X12_isDigit (l : Launch) : zC l yX12_isDigit wzX12_isDigit rmX12_isDigit sp_X12_isDigit := by
  refine zMet.of RX12 (by decide +kernel) rfl rfl ?_
  intro E X as M Qp hX S hsp
  obtain ⟨c, rfl, hQ⟩ := hsp
  refine ⟨Nat.le_of_ble_eq_true rfl, ?_⟩
  dsimp only [zpad, zargs]
  refine zr_iload_n (pc := 0) S dX12_isDigit_0 rfl ?_
  refine zr_bipush (pc := 1) S dX12_isDigit_1 ⟨by unfold zrI; omega, by decide⟩ ?_
  refine zr_icmp_lt (pc := 3) (tgt := 16) S dX12_isDigit_3 (by decide) (fun c3 => ?_) (fun c3 => ?_)
  · refine zr_iconst (pc := 16) S dX12_isDigit_16 (by unfold zrI; omega) ?_
    exact zr_zret (pc := 17) S dX12_isDigit_17 rfl (by first | omega | exact b01_r) ⟨Nat.le_refl _, Nat.le_refl _⟩ (zqi hQ (by unfold b01; split <;> omega))
  · refine zr_iload_n (pc := 6) S dX12_isDigit_6 rfl ?_
    refine zr_bipush (pc := 7) S dX12_isDigit_7 ⟨by unfold zrI; omega, by decide⟩ ?_
    refine zr_icmp_gt (pc := 9) (tgt := 16) S dX12_isDigit_9 (by decide) (fun c9 => ?_) (fun c9 => ?_)
    · refine zr_iconst (pc := 16) S dX12_isDigit_16 (by unfold zrI; omega) ?_
      exact zr_zret (pc := 17) S dX12_isDigit_17 rfl (by first | omega | exact b01_r) ⟨Nat.le_refl _, Nat.le_refl _⟩ (zqi hQ (by unfold b01; split <;> omega))
    · refine zr_iconst (pc := 12) S dX12_isDigit_12 (by unfold zrI; omega) ?_
      refine zr_goto (pc := 13) (tgt := 17) S dX12_isDigit_13 (by decide) ?_
      exact zr_zret (pc := 17) S dX12_isDigit_17 rfl (by first | omega | exact b01_r) ⟨Nat.le_refl _, Nat.le_refl _⟩ (zqi hQ (by unfold b01; split <;> omega))
def sp_X12_see (as : List zV) (M : zM) (Q : Option zV → zM → Prop) : Prop := ∃ (k : Nat), as = [zR 180, zI k] ∧ (k ≤ 400) ∧ (M 180 7 ≤ 400) ∧ (Q (some (zI (if (k : Int) < M 180 7 then M 184 k else 0))) M)
theorem us_X12_see {k : Nat} {M : zM} {Q : Option zV → zM → Prop} (h0 : k ≤ 400) (h1 : M 180 7 ≤ 400) (hQ : Q (some (zI (if (k : Int) < M 180 7 then M 184 k else 0))) M) : sp_X12_see [zR 180, zI k] M Q := ⟨k, rfl, h0, h1, hQ⟩
set_option maxRecDepth 20000 in
set_option maxHeartbeats 4000000 in
theorem m_X12_see (l : Launch) : zC l yX12_see wzX12_see rmX12_see sp_X12_see := by
  refine zMet.of RX12 (by decide +kernel) rfl rfl ?_
  intro E X as M Qp hX S hsp
  obtain ⟨k, rfl, h0, h1, hQ⟩ := hsp
  refine ⟨Nat.le_of_ble_eq_true rfl, ?_⟩
  dsimp only [zpad, zargs]
  have e : (k : Int).toNat = k := Int.toNat_natCast k
  refine zr_iload_n (pc := 0) S dX12_see_0 rfl ?_
  refine zr_aload_n (pc := 1) S dX12_see_1 rfl ?_
  refine zr_getI (pc := 2) S fX12_see_139 dX12_see_2 rfl (Nat.le_of_ble_eq_true rfl) rfl ?_
  refine zr_icmp_ge (pc := 5) (tgt := 17) S dX12_see_5 (by decide) (fun c5 => ?_) (fun c5 => ?_)
  · rw [if_neg (by omega)] at hQ
    refine zr_iconst (pc := 17) S dX12_see_17 (by unfold zrI; omega) ?_
    exact zr_iret (pc := 18) S dX12_see_18 rfl ⟨Nat.le_refl _, Nat.le_refl _⟩ (hQ)
  · rw [if_pos (by omega)] at hQ
    refine zr_aload_n (pc := 8) S dX12_see_8 rfl ?_
    refine zr_getR (pc := 9) S fX12_see_20 dX12_see_9 rfl (Nat.le_of_ble_eq_true rfl) rfl ?_
    refine zr_iload_n (pc := 12) S dX12_see_12 rfl ?_
    refine zr_iaload (pc := 13) S dX12_see_13 rfl (Nat.le_of_ble_eq_true rfl) (by omega) (by omega) ?_
    rw [e]
    refine zr_goto (pc := 14) (tgt := 18) S dX12_see_14 (by decide) ?_
    exact zr_iret (pc := 18) S dX12_see_18 rfl ⟨Nat.le_refl _, Nat.le_refl _⟩ (hQ)
/-- only the reader's place has changed -/
def atM (M U : zM) (p : Nat) : Prop := (∀ k, k ≠ 180 → U k = M k) ∧ (∀ j, j ≠ 8 → U 180 j = M 180 j) ∧ U 180 8 = p
theorem atM.up {M U : zM} {p : Nat} (h : atM M U p) : atM M (zup U 180 8 ((p : Int) + 1)) (p + 1) := ⟨fun k hk => by rw [zup_o k hk]; exact h.1 k hk, fun j hj => by rw [zup_j hj]; exact h.2.1 j hj, by rw [zup_e]; omega⟩
theorem nx1 {E : zE} {X : zX} {Qp : Option zV → zM → Prop} {M : zM} {n s : Nat} {u1 : Option zV} (S : zS (zg E) X cX12_next 2 wzX12_next RX12 none) (hn : M 180 7 = n) (n4 : n ≤ 400) (k : ∀ U, atM M U s → zK (zg E) rmX12_next 2 (Qp, 0, 0) X (0, 0) 52 [some (zR 180), u1] [] U) : ∀ (r p : Nat) (U : zM), r + p = n → run (isBl (M 184) n) n p = s → atM M U p → zK (zg E) rmX12_next 2 (Qp, 0, 0) X (0, 0) 0 [some (zR 180), u1] [] U := by
  intro r
  induction r with
  | zero =>
    intro p U hp hs hU
    have ea := hU.2.2
    have es : U 180 7 = n := by rw [hU.2.1 _ (by decide)]; exact hn
    rw [run_f (fun z => by have := z.1; omega)] at hs
    subst hs
    have l := k U hU
    refine zr_aload_n (pc := 0) S dX12_next_0 rfl ?_
    refine zr_getI (pc := 1) S fX12_next_142 dX12_next_1 rfl (Nat.le_of_ble_eq_true rfl) rfl ?_
    rw [ea]
    refine zr_aload_n (pc := 4) S dX12_next_4 rfl ?_
    refine zr_getI (pc := 5) S fX12_next_139 dX12_next_5 rfl (Nat.le_of_ble_eq_true rfl) rfl ?_
    rw [es]
    refine zr_icmp_ge (pc := 8) (tgt := 52) S dX12_next_8 (by decide) (fun c8 => ?_) (fun c8 => absurd c8 (by omega))
    exact l
  | succ r ih =>
    intro p U hp hs hU
    have ea := hU.2.2
    have es : U 180 7 = n := by rw [hU.2.1 _ (by decide)]; exact hn
    have et : U 184 = M 184 := hU.1 _ (by decide)
    have ep : (p : Int).toNat = p := Int.toNat_natCast p
    by_cases c : isBl (M 184) n p
    · rw [run_t c (by omega)] at hs
      have l := ih (p + 1) _ (by omega) hs hU.up
      have c2 := c.2
      refine zr_aload_n (pc := 0) S dX12_next_0 rfl ?_
      refine zr_getI (pc := 1) S fX12_next_142 dX12_next_1 rfl (Nat.le_of_ble_eq_true rfl) rfl ?_
      rw [ea]
      refine zr_aload_n (pc := 4) S dX12_next_4 rfl ?_
      refine zr_getI (pc := 5) S fX12_next_139 dX12_next_5 rfl (Nat.le_of_ble_eq_true rfl) rfl ?_
      rw [es]
      refine zr_icmp_ge (pc := 8) (tgt := 52) S dX12_next_8 (by decide) (fun c8 => absurd c8 (by omega)) (fun c8 => ?_)
      refine zr_aload_n (pc := 11) S dX12_next_11 rfl ?_
      refine zr_getR (pc := 12) S fX12_next_20 dX12_next_12 rfl (Nat.le_of_ble_eq_true rfl) rfl ?_
      refine zr_aload_n (pc := 15) S dX12_next_15 rfl ?_
      refine zr_getI (pc := 16) S fX12_next_142 dX12_next_16 rfl (Nat.le_of_ble_eq_true rfl) rfl ?_
      rw [ea]
      refine zr_iaload (pc := 19) S dX12_next_19 rfl (Nat.le_of_ble_eq_true rfl) (by omega) (by omega) ?_
      rw [et, ep]
      refine zr_bipush (pc := 20) S dX12_next_20 ⟨by unfold zrI; omega, by decide⟩ ?_
      refine zr_icmp_eq (pc := 22) (tgt := 39) S dX12_next_22 (by decide) (fun c22 => ?_) (fun c22 => ?_)
      · refine zr_aload_n (pc := 39) S dX12_next_39 rfl ?_
        refine zr_dup (pc := 40) S dX12_next_40 rfl ?_
        refine zr_getI (pc := 41) S fX12_next_142 dX12_next_41 rfl (Nat.le_of_ble_eq_true rfl) rfl ?_
        rw [ea]
        refine zr_iconst (pc := 44) S dX12_next_44 (by unfold zrI; omega) ?_
        refine zr_iadd (pc := 45) S dX12_next_45 (by unfold zrI; omega) ?_
        refine zr_putI (pc := 46) S pX12_next_142 dX12_next_46 rfl (Nat.le_of_ble_eq_true rfl) rfl ?_
        refine zr_goto (pc := 49) (tgt := 0) S dX12_next_49 (by decide) ?_
        exact l
      · refine zr_aload_n (pc := 25) S dX12_next_25 rfl ?_
        refine zr_getR (pc := 26) S fX12_next_20 dX12_next_26 rfl (Nat.le_of_ble_eq_true rfl) rfl ?_
        refine zr_aload_n (pc := 29) S dX12_next_29 rfl ?_
        refine zr_getI (pc := 30) S fX12_next_142 dX12_next_30 rfl (Nat.le_of_ble_eq_true rfl) rfl ?_
        rw [ea]
        refine zr_iaload (pc := 33) S dX12_next_33 rfl (Nat.le_of_ble_eq_true rfl) (by omega) (by omega) ?_
        rw [et, ep]
        refine zr_bipush (pc := 34) S dX12_next_34 ⟨by unfold zrI; omega, by decide⟩ ?_
        refine zr_icmp_ne (pc := 36) (tgt := 52) S dX12_next_36 (by decide) (fun c36 => absurd c36 (by omega)) (fun c36 => ?_)
        refine zr_aload_n (pc := 39) S dX12_next_39 rfl ?_
        refine zr_dup (pc := 40) S dX12_next_40 rfl ?_
        refine zr_getI (pc := 41) S fX12_next_142 dX12_next_41 rfl (Nat.le_of_ble_eq_true rfl) rfl ?_
        rw [ea]
        refine zr_iconst (pc := 44) S dX12_next_44 (by unfold zrI; omega) ?_
        refine zr_iadd (pc := 45) S dX12_next_45 (by unfold zrI; omega) ?_
        refine zr_putI (pc := 46) S pX12_next_142 dX12_next_46 rfl (Nat.le_of_ble_eq_true rfl) rfl ?_
        refine zr_goto (pc := 49) (tgt := 0) S dX12_next_49 (by decide) ?_
        exact l
    · rw [run_f c] at hs
      subst hs
      have l := k U hU
      have c2 : ¬ (M 184 p = 32 ∨ M 184 p = 10) := fun z => c ⟨by omega, z⟩
      refine zr_aload_n (pc := 0) S dX12_next_0 rfl ?_
      refine zr_getI (pc := 1) S fX12_next_142 dX12_next_1 rfl (Nat.le_of_ble_eq_true rfl) rfl ?_
      rw [ea]
      refine zr_aload_n (pc := 4) S dX12_next_4 rfl ?_
      refine zr_getI (pc := 5) S fX12_next_139 dX12_next_5 rfl (Nat.le_of_ble_eq_true rfl) rfl ?_
      rw [es]
      refine zr_icmp_ge (pc := 8) (tgt := 52) S dX12_next_8 (by decide) (fun c8 => absurd c8 (by omega)) (fun c8 => ?_)
      refine zr_aload_n (pc := 11) S dX12_next_11 rfl ?_
      refine zr_getR (pc := 12) S fX12_next_20 dX12_next_12 rfl (Nat.le_of_ble_eq_true rfl) rfl ?_
      refine zr_aload_n (pc := 15) S dX12_next_15 rfl ?_
      refine zr_getI (pc := 16) S fX12_next_142 dX12_next_16 rfl (Nat.le_of_ble_eq_true rfl) rfl ?_
      rw [ea]
      refine zr_iaload (pc := 19) S dX12_next_19 rfl (Nat.le_of_ble_eq_true rfl) (by omega) (by omega) ?_
      rw [et, ep]
      refine zr_bipush (pc := 20) S dX12_next_20 ⟨by unfold zrI; omega, by decide⟩ ?_
      refine zr_icmp_eq (pc := 22) (tgt := 39) S dX12_next_22 (by decide) (fun c22 => absurd c22 (by omega)) (fun c22 => ?_)
      refine zr_aload_n (pc := 25) S dX12_next_25 rfl ?_
      refine zr_getR (pc := 26) S fX12_next_20 dX12_next_26 rfl (Nat.le_of_ble_eq_true rfl) rfl ?_
      refine zr_aload_n (pc := 29) S dX12_next_29 rfl ?_
      refine zr_getI (pc := 30) S fX12_next_142 dX12_next_30 rfl (Nat.le_of_ble_eq_true rfl) rfl ?_
      rw [ea]
      refine zr_iaload (pc := 33) S dX12_next_33 rfl (Nat.le_of_ble_eq_true rfl) (by omega) (by omega) ?_
      rw [et, ep]
      refine zr_bipush (pc := 34) S dX12_next_34 ⟨by unfold zrI; omega, by decide⟩ ?_
      refine zr_icmp_ne (pc := 36) (tgt := 52) S dX12_next_36 (by decide) (fun c36 => ?_) (fun c36 => absurd c36 (by omega))
      exact l
theorem nx2 {E : zE} {X : zX} {Qp : Option zV → zM → Prop} {M : zM} {n s : Nat} {u1 : Option zV} (S : zS (zg E) X cX12_next 2 wzX12_next RX12 none) (hn : M 180 7 = n) (n4 : n ≤ 400) (k : ∀ U, atM M U s → zK (zg E) rmX12_next 2 (Qp, 0, 0) X (0, 0) 121 [some (zR 180), u1] [] U) : ∀ (r p : Nat) (U : zM), r + p = n → run (isLe (M 184) n) n p = s → atM M U p → zK (zg E) rmX12_next 2 (Qp, 0, 0) X (0, 0) 94 [some (zR 180), u1] [] U := by
  intro r
  induction r with
  | zero =>
    intro p U hp hs hU
    have ea := hU.2.2
    have es : U 180 7 = n := by rw [hU.2.1 _ (by decide)]; exact hn
    rw [run_f (fun z => by have := z.1; omega)] at hs
    subst hs
    have l := k U hU
    have ev : (if (p : Int) < U 180 7 then U 184 p else 0) = 0 := if_neg (by omega)
    have c2 : ¬ ((97 : Int) ≤ 0 ∧ (0 : Int) ≤ 122) := by omega
    refine zr_aload_n (pc := 94) S dX12_next_94 rfl ?_
    refine zr_aload_n (pc := 95) S dX12_next_95 rfl ?_
    refine zr_getI (pc := 96) S fX12_next_142 dX12_next_96 rfl (Nat.le_of_ble_eq_true rfl) rfl ?_
    rw [ea]
    refine zr_invV (pc := 99) S [zI _] (m_X12_see _) kX12_next_154 dX12_next_99 rfl (Nat.le_of_ble_eq_true rfl) rfl (Nat.le_of_ble_eq_true rfl) ⟨Nat.le_of_ble_eq_true rfl, Nat.le_of_ble_eq_true rfl⟩ (us_X12_see (k := p) (by omega) (by omega) ?_)
    dsimp only [zaft, Option.toList, List.cons_append, List.nil_append, Nat.add_zero]
    rw [ev]
    refine zr_invS (pc := 102) S [zI _] (m_X12_isLetter _) kX12_next_151 dX12_next_102 (Nat.le_of_ble_eq_true rfl) ⟨Nat.le_of_ble_eq_true rfl, Nat.le_of_ble_eq_true rfl⟩ (us_X12_isLetter ?_)
    dsimp only [zaft, Option.toList, List.cons_append, List.nil_append, Nat.add_zero]
    rw [b01_f c2]
    refine zr_if_eq (pc := 105) (tgt := 121) S dX12_next_105 (by decide) (fun c105 => ?_) (fun c105 => absurd c105 (by omega))
    exact l
  | succ r ih =>
    intro p U hp hs hU
    have ea := hU.2.2
    have es : U 180 7 = n := by rw [hU.2.1 _ (by decide)]; exact hn
    have et : U 184 = M 184 := hU.1 _ (by decide)
    have ev : (if (p : Int) < U 180 7 then U 184 p else 0) = M 184 p := by rw [if_pos (by omega), et]
    by_cases c : isLe (M 184) n p
    · rw [run_t c (by omega)] at hs
      have l := ih (p + 1) _ (by omega) hs hU.up
      have c2 := c.2
      refine zr_aload_n (pc := 94) S dX12_next_94 rfl ?_
      refine zr_aload_n (pc := 95) S dX12_next_95 rfl ?_
      refine zr_getI (pc := 96) S fX12_next_142 dX12_next_96 rfl (Nat.le_of_ble_eq_true rfl) rfl ?_
      rw [ea]
      refine zr_invV (pc := 99) S [zI _] (m_X12_see _) kX12_next_154 dX12_next_99 rfl (Nat.le_of_ble_eq_true rfl) rfl (Nat.le_of_ble_eq_true rfl) ⟨Nat.le_of_ble_eq_true rfl, Nat.le_of_ble_eq_true rfl⟩ (us_X12_see (k := p) (by omega) (by omega) ?_)
      dsimp only [zaft, Option.toList, List.cons_append, List.nil_append, Nat.add_zero]
      rw [ev]
      refine zr_invS (pc := 102) S [zI _] (m_X12_isLetter _) kX12_next_151 dX12_next_102 (Nat.le_of_ble_eq_true rfl) ⟨Nat.le_of_ble_eq_true rfl, Nat.le_of_ble_eq_true rfl⟩ (us_X12_isLetter ?_)
      dsimp only [zaft, Option.toList, List.cons_append, List.nil_append, Nat.add_zero]
      rw [b01_t c2]
      refine zr_if_eq (pc := 105) (tgt := 121) S dX12_next_105 (by decide) (fun c105 => absurd c105 (by omega)) (fun c105 => ?_)
      refine zr_aload_n (pc := 108) S dX12_next_108 rfl ?_
      refine zr_dup (pc := 109) S dX12_next_109 rfl ?_
      refine zr_getI (pc := 110) S fX12_next_142 dX12_next_110 rfl (Nat.le_of_ble_eq_true rfl) rfl ?_
      rw [ea]
      refine zr_iconst (pc := 113) S dX12_next_113 (by unfold zrI; omega) ?_
      refine zr_iadd (pc := 114) S dX12_next_114 (by unfold zrI; omega) ?_
      refine zr_putI (pc := 115) S pX12_next_142 dX12_next_115 rfl (Nat.le_of_ble_eq_true rfl) rfl ?_
      refine zr_goto (pc := 118) (tgt := 94) S dX12_next_118 (by decide) ?_
      exact l
    · rw [run_f c] at hs
      subst hs
      have l := k U hU
      have c2 : ¬ (97 ≤ M 184 p ∧ M 184 p ≤ 122) := fun z => c ⟨by omega, z⟩
      refine zr_aload_n (pc := 94) S dX12_next_94 rfl ?_
      refine zr_aload_n (pc := 95) S dX12_next_95 rfl ?_
      refine zr_getI (pc := 96) S fX12_next_142 dX12_next_96 rfl (Nat.le_of_ble_eq_true rfl) rfl ?_
      rw [ea]
      refine zr_invV (pc := 99) S [zI _] (m_X12_see _) kX12_next_154 dX12_next_99 rfl (Nat.le_of_ble_eq_true rfl) rfl (Nat.le_of_ble_eq_true rfl) ⟨Nat.le_of_ble_eq_true rfl, Nat.le_of_ble_eq_true rfl⟩ (us_X12_see (k := p) (by omega) (by omega) ?_)
      dsimp only [zaft, Option.toList, List.cons_append, List.nil_append, Nat.add_zero]
      rw [ev]
      refine zr_invS (pc := 102) S [zI _] (m_X12_isLetter _) kX12_next_151 dX12_next_102 (Nat.le_of_ble_eq_true rfl) ⟨Nat.le_of_ble_eq_true rfl, Nat.le_of_ble_eq_true rfl⟩ (us_X12_isLetter ?_)
      dsimp only [zaft, Option.toList, List.cons_append, List.nil_append, Nat.add_zero]
      rw [b01_f c2]
      refine zr_if_eq (pc := 105) (tgt := 121) S dX12_next_105 (by decide) (fun c105 => ?_) (fun c105 => absurd c105 (by omega))
      exact l
end
