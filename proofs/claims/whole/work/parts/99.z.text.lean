section
/-- what comes of a gate's text is a fault or seven numbers -/
def okR (k : Nat) (r : pRes) : Prop := match r with
  | .inl f => 1 ≤ f.1 ∧ f.1 ≤ 5
  | .inr (G, _) => G.length = k
theorem blP_r {t : Nat → Int} {n p : Nat} {k : Int} (hk : 1 ≤ k ∧ k ≤ 5) : 1 ≤ (blP t n p k).1 ∧ (blP t n p k).1 ≤ 5 := by
  unfold blP
  dsimp only
  split
  · decide
  · exact hk
theorem pGoal_r {t : Nat → Int} {n p : Nat} {f : Int × Int} (h : pGoal t n p = .inl f) : 1 ≤ f.1 ∧ f.1 ≤ 5 := by
  have k2 := blP_r (t := t) (n := n) (p := p) (k := 2) (by decide)
  have k3 := blP_r (t := t) (n := n) (p := tE t n p) (k := 3) (by decide)
  have k4 := blP_r (t := t) (n := n) (p := tE t n p) (k := 2) (by decide)
  unfold pGoal at h
  split at h
  · cases h
  · split at h
    · cases h
    · split at h
      · split at h
        · split at h
          · cases h
          · cases h; exact k3
        · cases h; exact k4
      · split at h
        · cases h
        · cases h; exact k2
theorem okR_b {t : Nat → Int} {n p k : Nat} {d : Int} (hd : 1 ≤ d ∧ d ≤ 5) : okR k (.inl (blP t n p d)) := blP_r hd
theorem pEnd_ok {t : Nat → Int} {n p : Nat} {L : List Int} (h : L.length = 7) : okR 7 (pEnd t n L p) := by
  unfold pEnd
  split
  · exact h
  · exact okR_b (by decide)
theorem pThen_ok {t : Nat → Int} {n p : Nat} {L : List Int} {k : List Int → Nat → pRes} (h : ∀ L' q, L'.length = L.length + 2 → okR 7 (k L' q)) : okR 7 (pThen t n L k p) := by
  unfold pThen
  split
  · rename_i f e; exact pGoal_r e
  · exact h _ _ (by rw [List.length_append]; rfl)
theorem pNo_ok {t : Nat → Int} {n p : Nat} {L : List Int} (h : L.length = 5) : okR 7 (pNo t n L p) := by
  unfold pNo
  split
  · exact pThen_ok (fun L' q h' => pEnd_ok (by omega))
  · exact okR_b (by decide)
theorem pYes_ok {t : Nat → Int} {n p : Nat} {L : List Int} (h : L.length = 3) : okR 7 (pYes t n L p) := by
  unfold pYes
  split
  · exact pThen_ok (fun L' q h' => pNo_ok (by omega))
  · exact okR_b (by decide)
theorem pGate_ok (t : Nat → Int) (n p : Nat) : okR 7 (pGate t n p) := by
  unfold pGate
  split
  · unfold pMs
    split
    · exact okR_b (by decide)
    · unfold pLo
      split
      · unfold pHi
        split
        · split
          · exact pYes_ok rfl
          · exact okR_b (by decide)
        · exact okR_b (by decide)
      · exact okR_b (by decide)
  · exact okR_b (by decide)
/-- a text, as both read it: f more gates may come -/
def pText (t : Nat → Int) (n : Nat) : Nat → List Int → Nat → (Int × Int) ⊕ List Int
  | 0, L, p => if tK t n p = 0 then .inr L else .inl (blP t n p (if wrd t n p 0 then 5 else 2))
  | f + 1, L, p => if tK t n p = 0 then .inr L else match pGate t n p with
    | .inl z => .inl z
    | .inr (G, q) => pText t n f (L ++ G) q
theorem us_gateF {M : zM} {n p gg : Nat} {z : Int × Int} {Q : Option zV → zM → Prop} (hg : gg < 8) (hc : curT M n p) (hG : pGate (M 184) n p = .inl z) (h : ∀ M', rdO M M' → flt M' z → Q none M') : sp_X12_readGate [zR 180, zI gg] M Q := us_X12_readGate hg hc (by rw [hG]; exact h)
theorem us_gateY {M : zM} {n p gg q : Nat} {G : List Int} {Q : Option zV → zM → Prop} (hg : gg < 8) (hc : curT M n p) (hG : pGate (M 184) n p = .inr (G, q)) (h : ∀ M', rdO M M' → curT M' n q → frs M M' (7 * gg) G → Q none M') : sp_X12_readGate [zR 180, zI gg] M Q := us_X12_readGate hg hc (by rw [hG]; exact h)
def rmX12_text : Room := { frames := 7, cells := 0, slots := 0, locals := 153 }
abbrev wzX12_text : List Cond := .code yX12_text cX12_text 4 (some .int) :: zW
theorem pX12_text_80 : zfp wzX12_text RX12 vwCl 80 12 3 := ⟨_, _, _, _, rfl, (fun w h => List.mem_cons_of_mem _ (zWuX12 w h)), by decide, List.mem_cons_of_mem _ (zWi_9 _ (List.mem_of_getElem? (i := 38) rfl)), tyX12_ok, nmX12, rfl, by decide +kernel⟩
theorem fX12_text_136 : zfl wzX12_text RX12 vwCl 136 12 6 := ⟨_, _, _, rfl, (fun w h => List.mem_cons_of_mem _ (zWuX12 w h)), by decide, List.mem_cons_of_mem _ (zWi_9 _ (List.mem_of_getElem? (i := 6) rfl))⟩
theorem pX12_text_139 : zfp wzX12_text RX12 vwCl 139 12 7 := ⟨_, _, _, _, rfl, (fun w h => List.mem_cons_of_mem _ (zWuX12 w h)), by decide, List.mem_cons_of_mem _ (zWi_9 _ (List.mem_of_getElem? (i := 7) rfl)), tyX12_ok, nmX12, rfl, by decide +kernel⟩
theorem pX12_text_136 : zfp wzX12_text RX12 vwCl 136 12 6 := ⟨_, _, _, _, rfl, (fun w h => List.mem_cons_of_mem _ (zWuX12 w h)), by decide, List.mem_cons_of_mem _ (zWi_9 _ (List.mem_of_getElem? (i := 6) rfl)), tyX12_ok, nmX12, rfl, by decide +kernel⟩
theorem pX12_text_142 : zfp wzX12_text RX12 vwCl 142 12 8 := ⟨_, _, _, _, rfl, (fun w h => List.mem_cons_of_mem _ (zWuX12 w h)), by decide, List.mem_cons_of_mem _ (zWi_9 _ (List.mem_of_getElem? (i := 8) rfl)), tyX12_ok, nmX12, rfl, by decide +kernel⟩
theorem pX12_text_163 : zfp wzX12_text RX12 vwCl 163 12 12 := ⟨_, _, _, _, rfl, (fun w h => List.mem_cons_of_mem _ (zWuX12 w h)), by decide, List.mem_cons_of_mem _ (zWi_9 _ (List.mem_of_getElem? (i := 13) rfl)), tyX12_ok, nmX12, rfl, by decide +kernel⟩
theorem fX12_text_163 : zfl wzX12_text RX12 vwCl 163 12 12 := ⟨_, _, _, rfl, (fun w h => List.mem_cons_of_mem _ (zWuX12 w h)), by decide, List.mem_cons_of_mem _ (zWi_9 _ (List.mem_of_getElem? (i := 13) rfl))⟩
theorem fX12_text_148 : zfl wzX12_text RX12 vwCl 148 12 10 := ⟨_, _, _, rfl, (fun w h => List.mem_cons_of_mem _ (zWuX12 w h)), by decide, List.mem_cons_of_mem _ (zWi_9 _ (List.mem_of_getElem? (i := 10) rfl))⟩
theorem pX12_text_222 : zfp wzX12_text RX12 vwCl 222 12 14 := ⟨_, _, _, _, rfl, (fun w h => List.mem_cons_of_mem _ (zWuX12 w h)), by decide, List.mem_cons_of_mem _ (zWi_9 _ (List.mem_of_getElem? (i := 16) rfl)), tyX12_ok, nmX12, rfl, by decide +kernel⟩
theorem fX12_text_166 : zfl wzX12_text RX12 vwCl 166 12 13 := ⟨_, _, _, rfl, (fun w h => List.mem_cons_of_mem _ (zWuX12 w h)), by decide, List.mem_cons_of_mem _ (zWi_9 _ (List.mem_of_getElem? (i := 14) rfl))⟩
theorem pX12_text_26 : zfp wzX12_text RX12 vwCl 26 12 15 := ⟨_, _, _, _, rfl, (fun w h => List.mem_cons_of_mem _ (zWuX12 w h)), by decide, List.mem_cons_of_mem _ (zWi_9 _ (List.mem_of_getElem? (i := 20) rfl)), tyX12_ok, nmX12, rfl, by decide +kernel⟩
theorem fX12_text_9 : zfl wzX12_text RX12 vwCl 9 12 0 := ⟨_, _, _, rfl, (fun w h => List.mem_cons_of_mem _ (zWuX12 w h)), by decide, List.mem_cons_of_mem _ (zWi_9 _ (List.mem_of_getElem? (i := 39) rfl))⟩
theorem fX12_text_23 : zfl wzX12_text RX12 vwCl 23 12 5 := ⟨_, _, _, rfl, (fun w h => List.mem_cons_of_mem _ (zWuX12 w h)), by decide, List.mem_cons_of_mem _ (zWi_9 _ (List.mem_of_getElem? (i := 17) rfl))⟩
theorem kX12_text_83 : ∀ (s9 : State) (a9 : Array Value), (∀ w ∈ wzX12_text, w.before a9 s9 = true) → CallB rmX12_text s9 a9 RX12 83 yX12_within cX12_within 6 (some .boolean) wzX12_within rmX12_within 0 0 3 ∧ (Cond.static yX12_within).before a9 s9 = true := zcS (zWi_23 _ (List.mem_of_getElem? (i := 24) rfl)) (zWi_31 _ (List.mem_of_getElem? (i := 13) rfl)) (zWi_12 _ (List.mem_of_getElem? (i := 13) rfl)) (zWi_4 _ (List.mem_of_getElem? (i := 16) rfl)) (by decide +kernel) rfl rfl ⟨Nat.le_of_ble_eq_true rfl, Nat.le_of_ble_eq_true rfl⟩
theorem kX12_text_95 : ∀ (s9 : State) (a9 : Array Value), (∀ w ∈ wzX12_text, w.before a9 s9 = true) → CallW rmX12_text s9 a9 RX12 RX12 95 yX12_fails cX12_fails 2 (some .int) wzX12_fails rmX12_fails 0 0 1 := zcV (zWi_23 _ (List.mem_of_getElem? (i := 26) rfl)) (zWi_14 _ (List.mem_of_getElem? (i := 10) rfl)) (zWi_27 _ (List.mem_of_getElem? (i := 2) rfl)) (zWi_12 _ (List.mem_of_getElem? (i := 13) rfl)) (zWi_2 _ (List.mem_of_getElem? (i := 39) rfl)) (by decide +kernel) rfl rfl ⟨Nat.le_of_ble_eq_true rfl, Nat.le_of_ble_eq_true rfl⟩
theorem kX12_text_187 : ∀ (s9 : State) (a9 : Array Value), (∀ w ∈ wzX12_text, w.before a9 s9 = true) → CallW rmX12_text s9 a9 RX12 RX12 187 yX12_next cX12_next 2 none wzX12_next rmX12_next 0 0 0 := zcV (zWi_22 _ (List.mem_of_getElem? (i := 30) rfl)) (zWi_14 _ (List.mem_of_getElem? (i := 48) rfl)) (zWi_27 _ (List.mem_of_getElem? (i := 39) rfl)) (zWi_12 _ (List.mem_of_getElem? (i := 13) rfl)) (zWi_3 _ (List.mem_of_getElem? (i := 30) rfl)) (by decide +kernel) rfl rfl ⟨Nat.le_of_ble_eq_true rfl, Nat.le_of_ble_eq_true rfl⟩
theorem kX12_text_179 : ∀ (s9 : State) (a9 : Array Value), (∀ w ∈ wzX12_text, w.before a9 s9 = true) → CallW rmX12_text s9 a9 RX12 RX12 179 yX12_isWord cX12_isWord 4 (some .boolean) wzX12_isWord rmX12_isWord 0 0 1 := zcV (zWi_22 _ (List.mem_of_getElem? (i := 28) rfl)) (zWi_14 _ (List.mem_of_getElem? (i := 31) rfl)) (zWi_27 _ (List.mem_of_getElem? (i := 22) rfl)) (zWi_12 _ (List.mem_of_getElem? (i := 13) rfl)) (zWi_3 _ (List.mem_of_getElem? (i := 13) rfl)) (by decide +kernel) rfl rfl ⟨Nat.le_of_ble_eq_true rfl, Nat.le_of_ble_eq_true rfl⟩
theorem kX12_text_183 : ∀ (s9 : State) (a9 : Array Value), (∀ w ∈ wzX12_text, w.before a9 s9 = true) → CallW rmX12_text s9 a9 RX12 RX12 183 yX12_blames cX12_blames 2 none wzX12_blames rmX12_blames 0 0 1 := zcV (zWi_22 _ (List.mem_of_getElem? (i := 29) rfl)) (zWi_13 _ (List.mem_of_getElem? (i := 45) rfl)) (zWi_26 _ (List.mem_of_getElem? (i := 37) rfl)) (zWi_12 _ (List.mem_of_getElem? (i := 13) rfl)) (zWi_2 _ (List.mem_of_getElem? (i := 24) rfl)) (by decide +kernel) rfl rfl ⟨Nat.le_of_ble_eq_true rfl, Nat.le_of_ble_eq_true rfl⟩
theorem kX12_text_219 : ∀ (s9 : State) (a9 : Array Value), (∀ w ∈ wzX12_text, w.before a9 s9 = true) → CallW rmX12_text s9 a9 RX12 RX12 219 yX12_readGate cX12_readGate 4 none wzX12_readGate rmX12_readGate 0 0 1 := zcV (zWi_22 _ (List.mem_of_getElem? (i := 34) rfl)) (zWi_15 _ (List.mem_of_getElem? (i := 7) rfl)) (zWi_27 _ (List.mem_of_getElem? (i := 48) rfl)) (zWi_12 _ (List.mem_of_getElem? (i := 13) rfl)) (zWi_3 _ (List.mem_of_getElem? (i := 39) rfl)) (by decide +kernel) rfl rfl ⟨Nat.le_of_ble_eq_true rfl, Nat.le_of_ble_eq_true rfl⟩
theorem tx51 {E : zE} {X : zX} {Qp : Option zV → zM → Prop} {M : zM} {n : Nat} {nn : Int} (S : zS (zg E) X cX12_text 4 wzX12_text RX12 (some .int)) {r : (Int × Int) ⊕ List Int} (kF : ∀ f U (g : Int), r = .inl f → rdO M U → flt U f → (1 ≤ f.1 ∧ f.1 ≤ 5) → zK (zg E) rmX12_text 4 (Qp, 0, 0) X (0, 0) 103 [some (zR 180), some (zI nn), some (zI g), none] [] U) (kY : ∀ L U (k : Nat), r = .inr L → rdO M U → U 180 12 = 0 → k ≤ 8 → L.length = 7 * k → (∀ j, j < L.length → U 185 j = L.getD j 0) → zK (zg E) rmX12_text 4 (Qp, 0, 0) X (0, 0) 103 [some (zR 180), some (zI nn), some (zI k), none] [] U) : ∀ (f k : Nat) (L : List Int) (p : Nat) (U : zM), k + f = 8 → L.length = 7 * k → rdO M U → curT U n p → (∀ j, j < L.length → U 185 j = L.getD j 0) → pText (M 184) n f L p = r → zK (zg E) rmX12_text 4 (Qp, 0, 0) X (0, 0) 51 [some (zR 180), some (zI nn), some (zI k), none] [] U := by
  have k51 : ∀ f U (g : Int), r = .inl f → rdO M U → flt U f → (1 ≤ f.1 ∧ f.1 ≤ 5) → zK (zg E) rmX12_text 4 (Qp, 0, 0) X (0, 0) 51 [some (zR 180), some (zI nn), some (zI g), none] [] U := by
    intro f U g hr oU fU f0
    have l := kF f U g hr oU fU f0
    have b : ¬ U 180 12 = 0 := by rw [fU.1]; omega
    refine zr_aload_n (pc := 51) S dX12_text_51 rfl ?_
    refine zr_getI (pc := 52) S fX12_text_163 dX12_text_52 rfl (Nat.le_of_ble_eq_true rfl) rfl ?_
    refine zr_if_ne (pc := 55) (tgt := 103) S dX12_text_55 (by decide) (fun c55 => ?_) (fun c55 => absurd c55 (by omega))
    exact l
  have kE : ∀ (k : Nat) L p U, k ≤ 8 → L.length = 7 * k → rdO M U → curT U n p → (∀ j, j < L.length → U 185 j = L.getD j 0) → tK (M 184) n p = 0 → r = .inr L → zK (zg E) rmX12_text 4 (Qp, 0, 0) X (0, 0) 51 [some (zR 180), some (zI nn), some (zI k), none] [] U := by
    intro k L p U h8 hL oU hc hf ht hr
    have tU : U 184 = M 184 := oU.1 _ (by decide) (by decide)
    obtain ⟨h1, h2, h3, h4, h5, h6, h7, hb⟩ := hc
    have l := kY L U k hr oU hb h8 hL hf
    rw [tU, ht] at h6
    refine zr_aload_n (pc := 51) S dX12_text_51 rfl ?_
    refine zr_getI (pc := 52) S fX12_text_163 dX12_text_52 rfl (Nat.le_of_ble_eq_true rfl) rfl ?_
    refine zr_if_ne (pc := 55) (tgt := 103) S dX12_text_55 (by decide) (fun c55 => absurd c55 (by omega)) (fun c55 => ?_)
    refine zr_aload_n (pc := 58) S dX12_text_58 rfl ?_
    refine zr_getI (pc := 59) S fX12_text_148 dX12_text_59 rfl (Nat.le_of_ble_eq_true rfl) rfl ?_
    refine zr_if_eq (pc := 62) (tgt := 103) S dX12_text_62 (by decide) (fun c62 => ?_) (fun c62 => absurd c62 (by omega))
    exact l
  intro f
  induction f with
  | zero =>
    intro k L p U hk hL oU hc hf hr
    obtain rfl : k = 8 := by omega
    unfold pText at hr
    by_cases c0 : tK (M 184) n p = 0
    · rw [if_pos c0] at hr
      exact kE 8 L p U (by omega) hL oU hc hf c0 hr.symm
    · rw [if_neg c0] at hr
      have tU : U 184 = M 184 := oU.1 _ (by decide) (by decide)
      have hc0 := hc
      obtain ⟨h1, h2, h3, h4, h5, h6, h7, hb⟩ := hc0
      rw [tU] at h6
      have l : ∀ d : Int, (1 ≤ d ∧ d ≤ 5) → (if wrd (M 184) n p 0 then 5 else 2) = d → zK (zg E) rmX12_text 4 (Qp, 0, 0) X (0, 0) 51 [some (zR 180), some (zI nn), some (zI (8 : Nat)), none] [] (blM U d) := fun d hd he => by
        rw [he] at hr
        exact k51 _ (blM U d) _ hr.symm (oU.tr (blM.o U d)) (by rw [← tU]; exact hc.bl d) (blP_r hd)
      by_cases w : wrd (M 184) n p 0
      · have l5 := l 5 (by decide) (if_pos w)
        rw [← tU] at w
        refine zr_aload_n (pc := 51) S dX12_text_51 rfl ?_
        refine zr_getI (pc := 52) S fX12_text_163 dX12_text_52 rfl (Nat.le_of_ble_eq_true rfl) rfl ?_
        refine zr_if_ne (pc := 55) (tgt := 103) S dX12_text_55 (by decide) (fun c55 => absurd c55 (by omega)) (fun c55 => ?_)
        refine zr_aload_n (pc := 58) S dX12_text_58 rfl ?_
        refine zr_getI (pc := 59) S fX12_text_148 dX12_text_59 rfl (Nat.le_of_ble_eq_true rfl) rfl ?_
        refine zr_if_eq (pc := 62) (tgt := 103) S dX12_text_62 (by decide) (fun c62 => absurd c62 (by omega)) (fun c62 => ?_)
        refine zr_iload_n (pc := 65) S dX12_text_65 rfl ?_
        refine zr_bipush (pc := 66) S dX12_text_66 ⟨by unfold zrI; omega, by decide⟩ ?_
        refine zr_icmp_ne (pc := 68) (tgt := 92) S dX12_text_68 (by decide) (fun c68 => absurd c68 (by omega)) (fun c68 => ?_)
        refine zr_aload_n (pc := 71) S dX12_text_71 rfl ?_
        refine zr_aload_n (pc := 72) S dX12_text_72 rfl ?_
        refine zr_ldcS (pc := 73) (k9 := 0) S (List.mem_of_getElem? (i := 10) rfl) dX12_text_73 ?_
        refine zr_invV (pc := 75) S [zR _] (m_X12_isWord _) kX12_text_179 dX12_text_75 rfl (Nat.le_of_ble_eq_true rfl) rfl (Nat.le_of_ble_eq_true rfl) ⟨Nat.le_of_ble_eq_true rfl, Nat.le_of_ble_eq_true rfl⟩ (us_word (i := 0) (by decide) hc ?_)
        dsimp only [zaft, Option.toList, List.cons_append, List.nil_append, Nat.add_zero]
        rw [b01_t w]
        refine zr_if_eq (pc := 78) (tgt := 85) S dX12_text_78 (by decide) (fun c78 => absurd c78 (by omega)) (fun c78 => ?_)
        refine zr_iconst (pc := 81) S dX12_text_81 (by unfold zrI; omega) ?_
        refine zr_goto (pc := 82) (tgt := 86) S dX12_text_82 (by decide) ?_
        refine zr_invV (pc := 86) S [zI _] (m_X12_blames _) kX12_text_183 dX12_text_86 rfl (Nat.le_of_ble_eq_true rfl) rfl (Nat.le_of_ble_eq_true rfl) ⟨Nat.le_of_ble_eq_true rfl, Nat.le_of_ble_eq_true rfl⟩ (us_X12_blames ?_)
        dsimp only [zaft, Option.toList, List.cons_append, List.nil_append, Nat.add_zero]
        refine zr_goto (pc := 89) (tgt := 51) S dX12_text_89 (by decide) ?_
        exact l5
      · have l2 := l 2 (by decide) (if_neg w)
        rw [← tU] at w
        refine zr_aload_n (pc := 51) S dX12_text_51 rfl ?_
        refine zr_getI (pc := 52) S fX12_text_163 dX12_text_52 rfl (Nat.le_of_ble_eq_true rfl) rfl ?_
        refine zr_if_ne (pc := 55) (tgt := 103) S dX12_text_55 (by decide) (fun c55 => absurd c55 (by omega)) (fun c55 => ?_)
        refine zr_aload_n (pc := 58) S dX12_text_58 rfl ?_
        refine zr_getI (pc := 59) S fX12_text_148 dX12_text_59 rfl (Nat.le_of_ble_eq_true rfl) rfl ?_
        refine zr_if_eq (pc := 62) (tgt := 103) S dX12_text_62 (by decide) (fun c62 => absurd c62 (by omega)) (fun c62 => ?_)
        refine zr_iload_n (pc := 65) S dX12_text_65 rfl ?_
        refine zr_bipush (pc := 66) S dX12_text_66 ⟨by unfold zrI; omega, by decide⟩ ?_
        refine zr_icmp_ne (pc := 68) (tgt := 92) S dX12_text_68 (by decide) (fun c68 => absurd c68 (by omega)) (fun c68 => ?_)
        refine zr_aload_n (pc := 71) S dX12_text_71 rfl ?_
        refine zr_aload_n (pc := 72) S dX12_text_72 rfl ?_
        refine zr_ldcS (pc := 73) (k9 := 0) S (List.mem_of_getElem? (i := 10) rfl) dX12_text_73 ?_
        refine zr_invV (pc := 75) S [zR _] (m_X12_isWord _) kX12_text_179 dX12_text_75 rfl (Nat.le_of_ble_eq_true rfl) rfl (Nat.le_of_ble_eq_true rfl) ⟨Nat.le_of_ble_eq_true rfl, Nat.le_of_ble_eq_true rfl⟩ (us_word (i := 0) (by decide) hc ?_)
        dsimp only [zaft, Option.toList, List.cons_append, List.nil_append, Nat.add_zero]
        rw [b01_f w]
        refine zr_if_eq (pc := 78) (tgt := 85) S dX12_text_78 (by decide) (fun c78 => ?_) (fun c78 => absurd c78 (by omega))
        refine zr_iconst (pc := 85) S dX12_text_85 (by unfold zrI; omega) ?_
        refine zr_invV (pc := 86) S [zI _] (m_X12_blames _) kX12_text_183 dX12_text_86 rfl (Nat.le_of_ble_eq_true rfl) rfl (Nat.le_of_ble_eq_true rfl) ⟨Nat.le_of_ble_eq_true rfl, Nat.le_of_ble_eq_true rfl⟩ (us_X12_blames ?_)
        dsimp only [zaft, Option.toList, List.cons_append, List.nil_append, Nat.add_zero]
        refine zr_goto (pc := 89) (tgt := 51) S dX12_text_89 (by decide) ?_
        exact l2
  | succ f ih =>
    intro k L p U hk hL oU hc hf hr
    unfold pText at hr
    by_cases c0 : tK (M 184) n p = 0
    · rw [if_pos c0] at hr
      exact kE k L p U (by omega) hL oU hc hf c0 hr.symm
    · rw [if_neg c0] at hr
      have tU : U 184 = M 184 := oU.1 _ (by decide) (by decide)
      have hc0 := hc
      obtain ⟨h1, h2, h3, h4, h5, h6, h7, hb⟩ := hc0
      rw [tU] at h6
      have ok := pGate_ok (M 184) n p
      rcases hG : pGate (M 184) n p with z | ⟨G, q⟩
      · rw [hG] at hr ok
        rw [← tU] at hG
        have l : ∀ W, rdO U W → flt W z → zK (zg E) rmX12_text 4 (Qp, 0, 0) X (0, 0) 51 [some (zR 180), some (zI nn), some (zI ((k : Int) + 1)), none] [] W := fun W oW fW => k51 z W _ hr.symm (oU.tr oW) fW ok
        refine zr_aload_n (pc := 51) S dX12_text_51 rfl ?_
        refine zr_getI (pc := 52) S fX12_text_163 dX12_text_52 rfl (Nat.le_of_ble_eq_true rfl) rfl ?_
        refine zr_if_ne (pc := 55) (tgt := 103) S dX12_text_55 (by decide) (fun c55 => absurd c55 (by omega)) (fun c55 => ?_)
        refine zr_aload_n (pc := 58) S dX12_text_58 rfl ?_
        refine zr_getI (pc := 59) S fX12_text_148 dX12_text_59 rfl (Nat.le_of_ble_eq_true rfl) rfl ?_
        refine zr_if_eq (pc := 62) (tgt := 103) S dX12_text_62 (by decide) (fun c62 => absurd c62 (by omega)) (fun c62 => ?_)
        refine zr_iload_n (pc := 65) S dX12_text_65 rfl ?_
        refine zr_bipush (pc := 66) S dX12_text_66 ⟨by unfold zrI; omega, by decide⟩ ?_
        refine zr_icmp_ne (pc := 68) (tgt := 92) S dX12_text_68 (by decide) (fun c68 => ?_) (fun c68 => absurd c68 (by omega))
        refine zr_aload_n (pc := 92) S dX12_text_92 rfl ?_
        refine zr_iload_n (pc := 93) S dX12_text_93 rfl ?_
        refine zr_invV (pc := 94) S [zI _] (m_X12_readGate _) kX12_text_219 dX12_text_94 rfl (Nat.le_of_ble_eq_true rfl) rfl (Nat.le_of_ble_eq_true rfl) ⟨Nat.le_of_ble_eq_true rfl, Nat.le_of_ble_eq_true rfl⟩ (us_gateF (gg := k) (by omega) hc hG (fun W oW fW => ?_))
        dsimp only [zaft, Option.toList, List.cons_append, List.nil_append, Nat.add_zero]
        refine zr_iinc (pc := 97) S dX12_text_97 rfl (by unfold zrI; omega) (by decide) ?_
        dsimp only [zst1, zst2, zset, zget, zlong]
        refine zr_goto (pc := 100) (tgt := 51) S dX12_text_100 (by decide) ?_
        exact l W oW fW
      · rw [hG] at hr ok
        rw [← tU] at hG
        have ok7 : G.length = 7 := ok
        have l : ∀ W, rdO U W → curT W n q → frs U W (7 * k) G → zK (zg E) rmX12_text 4 (Qp, 0, 0) X (0, 0) 51 [some (zR 180), some (zI nn), some (zI ((k : Int) + 1)), none] [] W := fun W oW cW fW => by
          have := ih (k + 1) (L ++ G) q W (by omega) (by rw [List.length_append]; omega) (oU.tr oW) cW (fun j hj => by
            rw [List.length_append] at hj
            by_cases c : j < L.length
            · rw [fW.2 j (by omega), hf j c, List.getD_eq_getElem?_getD, List.getD_eq_getElem?_getD, List.getElem?_append_left c]
            · have e := fW.1 (j - 7 * k) (by omega)
              rw [show 7 * k + (j - 7 * k) = j by omega] at e
              rw [e, List.getD_eq_getElem?_getD, List.getD_eq_getElem?_getD, List.getElem?_append_right (by omega), hL]) hr
          rw [Int.natCast_add, Int.natCast_one] at this
          exact this
        refine zr_aload_n (pc := 51) S dX12_text_51 rfl ?_
        refine zr_getI (pc := 52) S fX12_text_163 dX12_text_52 rfl (Nat.le_of_ble_eq_true rfl) rfl ?_
        refine zr_if_ne (pc := 55) (tgt := 103) S dX12_text_55 (by decide) (fun c55 => absurd c55 (by omega)) (fun c55 => ?_)
        refine zr_aload_n (pc := 58) S dX12_text_58 rfl ?_
        refine zr_getI (pc := 59) S fX12_text_148 dX12_text_59 rfl (Nat.le_of_ble_eq_true rfl) rfl ?_
        refine zr_if_eq (pc := 62) (tgt := 103) S dX12_text_62 (by decide) (fun c62 => absurd c62 (by omega)) (fun c62 => ?_)
        refine zr_iload_n (pc := 65) S dX12_text_65 rfl ?_
        refine zr_bipush (pc := 66) S dX12_text_66 ⟨by unfold zrI; omega, by decide⟩ ?_
        refine zr_icmp_ne (pc := 68) (tgt := 92) S dX12_text_68 (by decide) (fun c68 => ?_) (fun c68 => absurd c68 (by omega))
        refine zr_aload_n (pc := 92) S dX12_text_92 rfl ?_
        refine zr_iload_n (pc := 93) S dX12_text_93 rfl ?_
        refine zr_invV (pc := 94) S [zI _] (m_X12_readGate _) kX12_text_219 dX12_text_94 rfl (Nat.le_of_ble_eq_true rfl) rfl (Nat.le_of_ble_eq_true rfl) ⟨Nat.le_of_ble_eq_true rfl, Nat.le_of_ble_eq_true rfl⟩ (us_gateY (gg := k) (by omega) hc hG (fun W oW cW fW => ?_))
        dsimp only [zaft, Option.toList, List.cons_append, List.nil_append, Nat.add_zero]
        refine zr_iinc (pc := 97) S dX12_text_97 rfl (by unfold zrI; omega) (by decide) ?_
        dsimp only [zst1, zst2, zset, zget, zlong]
        refine zr_goto (pc := 100) (tgt := 51) S dX12_text_100 (by decide) ?_
        exact l W oW cW fW
end
