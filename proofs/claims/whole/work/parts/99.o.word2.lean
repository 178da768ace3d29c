section
def sp_X12_isWord (as : List zV) (M : zM) (Q : Option zV → zM → Prop) : Prop := ∃ (i s e : Nat), as = [zR 180, zR (1000 + i)] ∧ (i < 10) ∧ (M 180 9 = s) ∧ (M 180 8 = e) ∧ (s ≤ e ∧ e ≤ 400) ∧ (Q (some (zI (b01 (M 180 12 = 0 ∧ M 180 10 = 1 ∧ isW (M 184) s e i)))) M)
theorem us_X12_isWord {i s e : Nat} {M : zM} {Q : Option zV → zM → Prop} (hk : i < 10) (hb : M 180 9 = s) (ha : M 180 8 = e) (hse : s ≤ e ∧ e ≤ 400) (hQ : Q (some (zI (b01 (M 180 12 = 0 ∧ M 180 10 = 1 ∧ isW (M 184) s e i)))) M) : sp_X12_isWord [zR 180, zR (1000 + i)] M Q := ⟨i, s, e, rfl, hk, hb, ha, hse, hQ⟩
set_option maxRecDepth 20000 in
set_option maxHeartbeats 4000000 in
theorem m_X12_isWord (l : Launch) : zC l yX12_isWord wzX12_isWord rmX12_isWord sp_X12_isWord := by
  refine zMet.of RX12 (by decide +kernel) rfl rfl ?_
  intro E X as M Qp hX S hsp
  obtain ⟨i, s, e, rfl, hk, hb, ha, hse, hQ⟩ := hsp
  refine ⟨Nat.le_of_ble_eq_true rfl, ?_⟩
  dsimp only [zpad, zargs]
  have z6 := zSl_r i
  have k0 : ¬ (M 180 12 = 0 ∧ M 180 10 = 1 ∧ e - s = zSl.getD i 0) → zK (zg E) rmX12_isWord 4 (Qp, 0, 0) X (0, 0) 39 [some (zR 180), some (zR (1000 + i)), some (zI 0), some (zI 0)] [] M := by
    intro z
    rw [b01_f (fun y => z ⟨y.1, y.2.1, y.2.2.1⟩)] at hQ
    refine zr_iload_n (pc := 39) S dX12_isWord_39 rfl ?_
    refine zr_if_eq (pc := 40) (tgt := 82) S dX12_isWord_40 (by decide) (fun c40 => ?_) (fun c40 => absurd c40 (by omega))
    refine zr_iload_n (pc := 82) S dX12_isWord_82 rfl ?_
    exact zr_zret (pc := 83) S dX12_isWord_83 rfl (by first | omega | exact b01_r) ⟨Nat.le_refl _, Nat.le_refl _⟩ (hQ)
  have k1 : (M 180 12 = 0 ∧ M 180 10 = 1 ∧ e - s = zSl.getD i 0) → zK (zg E) rmX12_isWord 4 (Qp, 0, 0) X (0, 0) 39 [some (zR 180), some (zR (1000 + i)), some (zI 1), some (zI 0)] [] M := by
    intro z
    exact iw1 S hk hb (by omega) (fun v hv => by
      rcases hv with ⟨rfl, h⟩ | ⟨rfl, h⟩
      · rw [b01_f (fun y => h y.2.2.2)] at hQ; exact hQ
      · rw [b01_t ⟨z.1, z.2.1, z.2.2, h⟩] at hQ; exact hQ) (zSl.getD i 0) 0 (by omega) (fun k hk => absurd hk (by omega))
  refine zr_aload_n (pc := 0) S dX12_isWord_0 rfl ?_
  refine zr_getI (pc := 1) S fX12_isWord_163 dX12_isWord_1 rfl (Nat.le_of_ble_eq_true rfl) rfl ?_
  refine zr_if_ne (pc := 4) (tgt := 35) S dX12_isWord_4 (by decide) (fun c4 => ?_) (fun c4 => ?_)
  · refine zr_iconst (pc := 35) S dX12_isWord_35 (by unfold zrI; omega) ?_
    refine zr_istore_n (pc := 36) S 2 dX12_isWord_36 rfl (by decide) ?_
    dsimp only [zst1, zst2, zset, zget, zlong]
    refine zr_iconst (pc := 37) S dX12_isWord_37 (by unfold zrI; omega) ?_
    refine zr_istore_n (pc := 38) S 3 dX12_isWord_38 rfl (by decide) ?_
    dsimp only [zst1, zst2, zset, zget, zlong]
    first | exact k0 (by omega) | exact k1 (by omega)
  · refine zr_aload_n (pc := 7) S dX12_isWord_7 rfl ?_
    refine zr_getI (pc := 8) S fX12_isWord_148 dX12_isWord_8 rfl (Nat.le_of_ble_eq_true rfl) rfl ?_
    refine zr_iconst (pc := 11) S dX12_isWord_11 (by unfold zrI; omega) ?_
    refine zr_icmp_ne (pc := 12) (tgt := 35) S dX12_isWord_12 (by decide) (fun c12 => ?_) (fun c12 => ?_)
    · refine zr_iconst (pc := 35) S dX12_isWord_35 (by unfold zrI; omega) ?_
      refine zr_istore_n (pc := 36) S 2 dX12_isWord_36 rfl (by decide) ?_
      dsimp only [zst1, zst2, zset, zget, zlong]
      refine zr_iconst (pc := 37) S dX12_isWord_37 (by unfold zrI; omega) ?_
      refine zr_istore_n (pc := 38) S 3 dX12_isWord_38 rfl (by decide) ?_
      dsimp only [zst1, zst2, zset, zget, zlong]
      first | exact k0 (by omega) | exact k1 (by omega)
    · refine zr_aload_n (pc := 15) S dX12_isWord_15 rfl ?_
      refine zr_getI (pc := 16) S fX12_isWord_142 dX12_isWord_16 rfl (Nat.le_of_ble_eq_true rfl) rfl ?_
      rw [ha]
      refine zr_aload_n (pc := 19) S dX12_isWord_19 rfl ?_
      refine zr_getI (pc := 20) S fX12_isWord_145 dX12_isWord_20 rfl (Nat.le_of_ble_eq_true rfl) rfl ?_
      rw [hb]
      refine zr_isub (pc := 23) S dX12_isWord_23 (by unfold zrI; omega) ?_
      refine zr_aload_n (pc := 24) S dX12_isWord_24 rfl ?_
      refine zr_invStr (pc := 25) S [] hk (m_J0_length_8abf5 _) kX12_isWord_169 dX12_isWord_25 (Nat.le_of_ble_eq_true rfl) ⟨Nat.le_of_ble_eq_true rfl, Nat.le_of_ble_eq_true rfl⟩ (⟨_, rfl, hk, ?_⟩)
      dsimp only [zaft, Option.toList, List.cons_append, List.nil_append, Nat.add_zero]
      refine zr_icmp_ne (pc := 28) (tgt := 35) S dX12_isWord_28 (by decide) (fun c28 => ?_) (fun c28 => ?_)
      · refine zr_iconst (pc := 35) S dX12_isWord_35 (by unfold zrI; omega) ?_
        refine zr_istore_n (pc := 36) S 2 dX12_isWord_36 rfl (by decide) ?_
        dsimp only [zst1, zst2, zset, zget, zlong]
        refine zr_iconst (pc := 37) S dX12_isWord_37 (by unfold zrI; omega) ?_
        refine zr_istore_n (pc := 38) S 3 dX12_isWord_38 rfl (by decide) ?_
        dsimp only [zst1, zst2, zset, zget, zlong]
        first | exact k0 (by omega) | exact k1 (by omega)
      · refine zr_iconst (pc := 31) S dX12_isWord_31 (by unfold zrI; omega) ?_
        refine zr_goto (pc := 32) (tgt := 36) S dX12_isWord_32 (by decide) ?_
        refine zr_istore_n (pc := 36) S 2 dX12_isWord_36 rfl (by decide) ?_
        dsimp only [zst1, zst2, zset, zget, zlong]
        refine zr_iconst (pc := 37) S dX12_isWord_37 (by unfold zrI; omega) ?_
        refine zr_istore_n (pc := 38) S 3 dX12_isWord_38 rfl (by decide) ?_
        dsimp only [zst1, zst2, zset, zget, zlong]
        first | exact k0 (by omega) | exact k1 (by omega)
def rmX12_needs : Room := { frames := 5, cells := 0, slots := 0, locals := 108 }
abbrev wzX12_needs : List Cond := .code yX12_needs cX12_needs 2 none :: zW
def rmX12_number : Room := { frames := 2, cells := 0, slots := 0, locals := 42 }
abbrev wzX12_number : List Cond := .code yX12_number cX12_number 5 (some .int) :: zW
theorem fX12_needs_163 : zfl wzX12_needs RX12 vwCl 163 12 12 := ⟨_, _, _, rfl, (fun w h => List.mem_cons_of_mem _ (zWuX12 w h)), by decide, List.mem_cons_of_mem _ (zWi_9 _ (List.mem_of_getElem? (i := 13) rfl))⟩
theorem kX12_needs_179 : ∀ (s9 : State) (a9 : Array Value), (∀ w ∈ wzX12_needs, w.before a9 s9 = true) → CallW rmX12_needs s9 a9 RX12 RX12 179 yX12_isWord cX12_isWord 4 (some .boolean) wzX12_isWord rmX12_isWord 0 0 1 := zcV (zWi_22 _ (List.mem_of_getElem? (i := 28) rfl)) (zWi_14 _ (List.mem_of_getElem? (i := 31) rfl)) (zWi_27 _ (List.mem_of_getElem? (i := 22) rfl)) (zWi_12 _ (List.mem_of_getElem? (i := 13) rfl)) (zWi_3 _ (List.mem_of_getElem? (i := 13) rfl)) (by decide +kernel) rfl rfl ⟨Nat.le_of_ble_eq_true rfl, Nat.le_of_ble_eq_true rfl⟩
theorem kX12_needs_183 : ∀ (s9 : State) (a9 : Array Value), (∀ w ∈ wzX12_needs, w.before a9 s9 = true) → CallW rmX12_needs s9 a9 RX12 RX12 183 yX12_blames cX12_blames 2 none wzX12_blames rmX12_blames 0 0 1 := zcV (zWi_22 _ (List.mem_of_getElem? (i := 29) rfl)) (zWi_13 _ (List.mem_of_getElem? (i := 45) rfl)) (zWi_26 _ (List.mem_of_getElem? (i := 37) rfl)) (zWi_12 _ (List.mem_of_getElem? (i := 13) rfl)) (zWi_2 _ (List.mem_of_getElem? (i := 24) rfl)) (by decide +kernel) rfl rfl ⟨Nat.le_of_ble_eq_true rfl, Nat.le_of_ble_eq_true rfl⟩
theorem kX12_needs_187 : ∀ (s9 : State) (a9 : Array Value), (∀ w ∈ wzX12_needs, w.before a9 s9 = true) → CallW rmX12_needs s9 a9 RX12 RX12 187 yX12_next cX12_next 2 none wzX12_next rmX12_next 0 0 0 := zcV (zWi_22 _ (List.mem_of_getElem? (i := 30) rfl)) (zWi_14 _ (List.mem_of_getElem? (i := 48) rfl)) (zWi_27 _ (List.mem_of_getElem? (i := 39) rfl)) (zWi_12 _ (List.mem_of_getElem? (i := 13) rfl)) (zWi_3 _ (List.mem_of_getElem? (i := 30) rfl)) (by decide +kernel) rfl rfl ⟨Nat.le_of_ble_eq_true rfl, Nat.le_of_ble_eq_true rfl⟩
theorem fX12_number_148 : zfl wzX12_number RX12 vwCl 148 12 10 := ⟨_, _, _, rfl, (fun w h => List.mem_cons_of_mem _ (zWuX12 w h)), by decide, List.mem_cons_of_mem _ (zWi_9 _ (List.mem_of_getElem? (i := 10) rfl))⟩
theorem fX12_number_160 : zfl wzX12_number RX12 vwCl 160 12 11 := ⟨_, _, _, rfl, (fun w h => List.mem_cons_of_mem _ (zWuX12 w h)), by decide, List.mem_cons_of_mem _ (zWi_9 _ (List.mem_of_getElem? (i := 12) rfl))⟩
theorem fX12_number_163 : zfl wzX12_number RX12 vwCl 163 12 12 := ⟨_, _, _, rfl, (fun w h => List.mem_cons_of_mem _ (zWuX12 w h)), by decide, List.mem_cons_of_mem _ (zWi_9 _ (List.mem_of_getElem? (i := 13) rfl))⟩
theorem kX12_number_183 : ∀ (s9 : State) (a9 : Array Value), (∀ w ∈ wzX12_number, w.before a9 s9 = true) → CallW rmX12_number s9 a9 RX12 RX12 183 yX12_blames cX12_blames 2 none wzX12_blames rmX12_blames 0 0 1 := zcV (zWi_22 _ (List.mem_of_getElem? (i := 29) rfl)) (zWi_13 _ (List.mem_of_getElem? (i := 45) rfl)) (zWi_26 _ (List.mem_of_getElem? (i := 37) rfl)) (zWi_12 _ (List.mem_of_getElem? (i := 13) rfl)) (zWi_2 _ (List.mem_of_getElem? (i := 24) rfl)) (by decide +kernel) rfl rfl ⟨Nat.le_of_ble_eq_true rfl, Nat.le_of_ble_eq_true rfl⟩
theorem kX12_number_83 : ∀ (s9 : State) (a9 : Array Value), (∀ w ∈ wzX12_number, w.before a9 s9 = true) → CallB rmX12_number s9 a9 RX12 83 yX12_within cX12_within 6 (some .boolean) wzX12_within rmX12_within 0 0 3 ∧ (Cond.static yX12_within).before a9 s9 = true := zcS (zWi_23 _ (List.mem_of_getElem? (i := 24) rfl)) (zWi_31 _ (List.mem_of_getElem? (i := 13) rfl)) (zWi_12 _ (List.mem_of_getElem? (i := 13) rfl)) (zWi_4 _ (List.mem_of_getElem? (i := 16) rfl)) (by decide +kernel) rfl rfl ⟨Nat.le_of_ble_eq_true rfl, Nat.le_of_ble_eq_true rfl⟩
theorem kX12_number_187 : ∀ (s9 : State) (a9 : Array Value), (∀ w ∈ wzX12_number, w.before a9 s9 = true) → CallW rmX12_number s9 a9 RX12 RX12 187 yX12_next cX12_next 2 none wzX12_next rmX12_next 0 0 0 := zcV (zWi_22 _ (List.mem_of_getElem? (i := 30) rfl)) (zWi_14 _ (List.mem_of_getElem? (i := 48) rfl)) (zWi_27 _ (List.mem_of_getElem? (i := 39) rfl)) (zWi_12 _ (List.mem_of_getElem? (i := 13) rfl)) (zWi_3 _ (List.mem_of_getElem? (i := 30) rfl)) (by decide +kernel) rfl rfl ⟨Nat.le_of_ble_eq_true rfl, Nat.le_of_ble_eq_true rfl⟩
/-- the reader's state: a token of the tape is before it -/
def rdS (M : zM) (n : Nat) : Prop := M 180 7 = n ∧ n ≤ 400 ∧ (∃ s e : Nat, M 180 9 = s ∧ M 180 8 = e ∧ s ≤ e ∧ e ≤ n)
theorem tE_r {t : Nat → Int} {n p : Nat} (h : p ≤ n) : tS t n p ≤ tE t n p ∧ tE t n p ≤ n ∧ p ≤ tS t n p := by
  have a := run_r (P := isBl t n) h
  have b : tS t n p = run (isBl t n) n p := rfl
  rw [← b] at a
  unfold tE
  split
  · split
    · have := run_r (P := isLe t n) (n := n) (p := tS t n p) (by omega)
      omega
    · split
      · have := run_r (P := isDi t n) (n := n) (p := tS t n p) (by omega)
        omega
      · omega
  · omega
theorem nxM.rd {M M' : zM} {n p : Nat} (h : nxM M M' n p) (hn : M 180 7 = n) (n4 : n ≤ 400) (pn : p ≤ n) : rdS M' n := by
  have r := tE_r (t := M 184) pn
  exact ⟨by rw [h.2.1 _ (by decide) (by decide) (by decide) (by decide)]; exact hn, n4, _, _, h.2.2.1, h.2.2.2.1, r.1, r.2.1⟩
theorem blM_j {M : zM} {k : Int} {j : Nat} (h : j ≠ 12 ∧ j ≠ 13) : blM M k 180 j = M 180 j := by
  unfold blM
  split
  · rw [zup_j h.2, zup_j h.1]
  · rfl
theorem blM_o {M : zM} {k : Int} {c : Nat} (h : c ≠ 180) : blM M k c = M c := by
  unfold blM
  split
  · rw [zup_o c h, zup_o c h]
  · rfl
theorem blM_b {M : zM} {k : Int} (hk : k ≠ 0) : blM M k 180 12 ≠ 0 := by
  unfold blM
  split
  · rw [zup_j (by decide), zup_e]
    split
    · decide
    · exact hk
  · assumption
def sp_X12_needs (as : List zV) (M : zM) (Q : Option zV → zM → Prop) : Prop := ∃ (i s e n : Nat), as = [zR 180, zR (1000 + i)] ∧ (i < 10) ∧ (M 180 9 = s) ∧ (M 180 8 = e) ∧ (s ≤ e ∧ e ≤ n) ∧ (M 180 7 = n) ∧ (n ≤ 400) ∧ (¬ M 180 12 = 0 → Q none M) ∧ (M 180 12 = 0 → ¬ (M 180 10 = 1 ∧ isW (M 184) s e i) → Q none (blM M 2)) ∧ (M 180 12 = 0 → (M 180 10 = 1 ∧ isW (M 184) s e i) → ∀ M', nxM M M' n e → Q none M')
theorem us_X12_needs {i s e n : Nat} {M : zM} {Q : Option zV → zM → Prop} (hk : i < 10) (hb : M 180 9 = s) (ha : M 180 8 = e) (hse : s ≤ e ∧ e ≤ n) (hn : M 180 7 = n) (n4 : n ≤ 400) (hB : ¬ M 180 12 = 0 → Q none M) (hN : M 180 12 = 0 → ¬ (M 180 10 = 1 ∧ isW (M 184) s e i) → Q none (blM M 2)) (hY : M 180 12 = 0 → (M 180 10 = 1 ∧ isW (M 184) s e i) → ∀ M', nxM M M' n e → Q none M') : sp_X12_needs [zR 180, zR (1000 + i)] M Q := ⟨i, s, e, n, rfl, hk, hb, ha, hse, hn, n4, hB, hN, hY⟩
set_option maxRecDepth 20000 in
set_option maxHeartbeats 4000000 in
theorem m_X12_needs (l : Launch) : zC l yX12_needs wzX12_needs rmX12_needs sp_X12_needs := by
  refine zMet.of RX12 (by decide +kernel) rfl rfl ?_
  intro E X as M Qp hX S hsp
  obtain ⟨i, s, e, n, rfl, hk, hb, ha, hse, hn, n4, hB, hN, hY⟩ := hsp
  refine ⟨Nat.le_of_ble_eq_true rfl, ?_⟩
  dsimp only [zpad, zargs]
  have bm : ¬ M 180 12 = 0 → blM M 2 = M := fun z => by unfold blM; rw [if_neg z]
  have bb := blM_b (M := M) (k := 2) (by decide)
  have q1 : ¬ (M 180 12 = 0 ∧ M 180 10 = 1 ∧ isW (M 184) s e i) → Qp none (blM M 2) := fun z => by
    by_cases c : M 180 12 = 0
    · exact hN c (fun y => z ⟨c, y⟩)
    · rw [bm c]; exact hB c
  by_cases w : M 180 12 = 0 ∧ M 180 10 = 1 ∧ isW (M 184) s e i
  · have q2 := hY w.1 w.2
    have w1 := w.1
    refine zr_aload_n (pc := 0) S dX12_needs_0 rfl ?_
    refine zr_aload_n (pc := 1) S dX12_needs_1 rfl ?_
    refine zr_invV (pc := 2) S [zR _] (m_X12_isWord _) kX12_needs_179 dX12_needs_2 rfl (Nat.le_of_ble_eq_true rfl) rfl (Nat.le_of_ble_eq_true rfl) ⟨Nat.le_of_ble_eq_true rfl, Nat.le_of_ble_eq_true rfl⟩ (us_X12_isWord hk hb ha ⟨hse.1, by omega⟩ ?_)
    dsimp only [zaft, Option.toList, List.cons_append, List.nil_append, Nat.add_zero]
    rw [b01_t w]
    refine zr_if_ne (pc := 5) (tgt := 13) S dX12_needs_5 (by decide) (fun c5 => ?_) (fun c5 => absurd c5 (by omega))
    refine zr_aload_n (pc := 13) S dX12_needs_13 rfl ?_
    refine zr_getI (pc := 14) S fX12_needs_163 dX12_needs_14 rfl (Nat.le_of_ble_eq_true rfl) rfl ?_
    refine zr_if_ne (pc := 17) (tgt := 24) S dX12_needs_17 (by decide) (fun c17 => absurd c17 (by omega)) (fun c17 => ?_)
    refine zr_aload_n (pc := 20) S dX12_needs_20 rfl ?_
    refine zr_invV (pc := 21) S [] (m_X12_next _) kX12_needs_187 dX12_needs_21 rfl (Nat.le_of_ble_eq_true rfl) rfl (Nat.le_of_ble_eq_true rfl) ⟨Nat.le_of_ble_eq_true rfl, Nat.le_of_ble_eq_true rfl⟩ (us_X12_next hn n4 ha hse.2 ?_)
    dsimp only [zaft, Option.toList, List.cons_append, List.nil_append, Nat.add_zero]
    intro M' hM'
    exact zr_vret (pc := 24) S dX12_needs_24 rfl ⟨Nat.le_refl _, Nat.le_refl _⟩ (q2 M' hM')
  · have q2 := q1 w
    refine zr_aload_n (pc := 0) S dX12_needs_0 rfl ?_
    refine zr_aload_n (pc := 1) S dX12_needs_1 rfl ?_
    refine zr_invV (pc := 2) S [zR _] (m_X12_isWord _) kX12_needs_179 dX12_needs_2 rfl (Nat.le_of_ble_eq_true rfl) rfl (Nat.le_of_ble_eq_true rfl) ⟨Nat.le_of_ble_eq_true rfl, Nat.le_of_ble_eq_true rfl⟩ (us_X12_isWord hk hb ha ⟨hse.1, by omega⟩ ?_)
    dsimp only [zaft, Option.toList, List.cons_append, List.nil_append, Nat.add_zero]
    rw [b01_f w]
    refine zr_if_ne (pc := 5) (tgt := 13) S dX12_needs_5 (by decide) (fun c5 => absurd c5 (by omega)) (fun c5 => ?_)
    refine zr_aload_n (pc := 8) S dX12_needs_8 rfl ?_
    refine zr_iconst (pc := 9) S dX12_needs_9 (by unfold zrI; omega) ?_
    refine zr_invV (pc := 10) S [zI _] (m_X12_blames _) kX12_needs_183 dX12_needs_10 rfl (Nat.le_of_ble_eq_true rfl) rfl (Nat.le_of_ble_eq_true rfl) ⟨Nat.le_of_ble_eq_true rfl, Nat.le_of_ble_eq_true rfl⟩ (us_X12_blames ?_)
    dsimp only [zaft, Option.toList, List.cons_append, List.nil_append, Nat.add_zero]
    refine zr_aload_n (pc := 13) S dX12_needs_13 rfl ?_
    refine zr_getI (pc := 14) S fX12_needs_163 dX12_needs_14 rfl (Nat.le_of_ble_eq_true rfl) rfl ?_
    refine zr_if_ne (pc := 17) (tgt := 24) S dX12_needs_17 (by decide) (fun c17 => ?_) (fun c17 => absurd c17 (by omega))
    exact zr_vret (pc := 24) S dX12_needs_24 rfl ⟨Nat.le_refl _, Nat.le_refl _⟩ (q2)
end
