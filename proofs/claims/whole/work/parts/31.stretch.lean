section
theorem ag_low {M N : zM} (h : AG M N) (g : Nat) : lowAt N g = lowAt M g := by
  unfold lowAt
  rw [h 12 (by decide), h 13 (by decide), h 3 (by decide)]
theorem ag_high {M N : zM} (h : AG M N) (g : Nat) : highAt N g = highAt M g := by
  unfold highAt
  rw [h 12 (by decide), h 14 (by decide), h 3 (by decide)]
/-- the gates of a measure that a number of it is within -/
def pmG (M : zM) (m v : Int) (g : Nat) : Bool := decide (M 12 g = m ∧ lowAt M g ≤ v ∧ v ≤ highAt M g)
def bm (M : zM) (m v : Int) : Nat := bitsU (pmG M m v) (M 11 0).toNat
def endU (M : zM) (m s to : Int) : Nat → Int
  | 0 => to
  | i + 1 => if M 12 i = m then (if s < lowAt M i then min (endU M m s to i) (lowAt M i - 1) else if s ≤ highAt M i then min (endU M m s to i) (highAt M i) else endU M m s to i) else endU M m s to i
theorem endU_le {M : zM} {m s to : Int} (h : s ≤ to) : ∀ i, s ≤ endU M m s to i ∧ endU M m s to i ≤ to
  | 0 => by simp only [endU]; omega
  | i + 1 => by
    have a := endU_le (M := M) (m := m) h i
    simp only [endU]
    split
    · split
      · omega
      · split <;> omega
    · exact a
theorem endU_in {M : zM} {m s to : Int} : ∀ i g, g < i → M 12 g = m → (s < lowAt M g → endU M m s to i ≤ lowAt M g - 1) ∧ (lowAt M g ≤ s → s ≤ highAt M g → endU M m s to i ≤ highAt M g)
  | 0, g, hg, _ => absurd hg (by omega)
  | i + 1, g, hg, hm => by
    simp only [endU]
    by_cases e : g = i
    · subst e
      rw [if_pos hm]
      refine ⟨fun h => by rw [if_pos h]; omega, fun h1 h2 => by rw [if_neg (by omega), if_pos h2]; omega⟩
    · have a := endU_in (M := M) (m := m) (s := s) (to := to) i g (by omega) hm
      have b : (if M 12 i = m then (if s < lowAt M i then min (endU M m s to i) (lowAt M i - 1) else if s ≤ highAt M i then min (endU M m s to i) (highAt M i) else endU M m s to i) else endU M m s to i) ≤ endU M m s to i := by
        split
        · split
          · omega
          · split <;> omega
        · omega
      exact ⟨fun h => Int.le_trans b (a.1 h), fun h1 h2 => Int.le_trans b (a.2 h1 h2)⟩
theorem endU_bp {M : zM} {m s to : Int} : ∀ i, endU M m s to i = to ∨ ∃ g, g < i ∧ M 12 g = m ∧ ((s < lowAt M g ∧ endU M m s to i = lowAt M g - 1) ∨ (s ≤ highAt M g ∧ endU M m s to i = highAt M g))
  | 0 => Or.inl rfl
  | i + 1 => by
    have up : ∀ {x : Int}, x = endU M m s to i → x = to ∨ ∃ g, g < i + 1 ∧ M 12 g = m ∧ ((s < lowAt M g ∧ x = lowAt M g - 1) ∨ (s ≤ highAt M g ∧ x = highAt M g)) := fun {x} hx => by
      rcases endU_bp (M := M) (m := m) (s := s) (to := to) i with h | ⟨g, h1, h2, h3⟩
      · exact Or.inl (hx.trans h)
      · exact Or.inr ⟨g, by omega, h2, by rw [hx]; exact h3⟩
    simp only [endU]
    by_cases hm : M 12 i = m
    · rw [if_pos hm]
      by_cases h1 : s < lowAt M i
      · rw [if_pos h1]
        by_cases h2 : endU M m s to i ≤ lowAt M i - 1
        · exact up (by omega)
        · exact Or.inr ⟨i, by omega, hm, Or.inl ⟨h1, by omega⟩⟩
      · rw [if_neg h1]
        by_cases h3 : s ≤ highAt M i
        · rw [if_pos h3]
          by_cases h2 : endU M m s to i ≤ highAt M i
          · exact up (by omega)
          · exact Or.inr ⟨i, by omega, hm, Or.inr ⟨h3, by omega⟩⟩
        · rw [if_neg h3]; exact up rfl
    · rw [if_neg hm]; exact up rfl
theorem bm_same {M : zM} {m s to v : Int} (h1 : s ≤ v) (h2 : v ≤ endU M m s to (M 11 0).toNat) : bm M m v = bm M m s := by
  unfold bm
  have key : ∀ i, i ≤ (M 11 0).toNat → bitsU (pmG M m v) i = bitsU (pmG M m s) i := by
    intro i
    induction i with
    | zero => intro _; rfl
    | succ i ih =>
      intro hi
      have e : pmG M m v i = pmG M m s i := by
        unfold pmG
        by_cases hm : M 12 i = m
        · have q := endU_in (M := M) (m := m) (s := s) (to := to) (M 11 0).toNat i (by omega) hm
          by_cases h3 : s < lowAt M i
          · have := q.1 h3
            rw [decide_eq_false (by omega), decide_eq_false (by omega)]
          · by_cases h4 : s ≤ highAt M i
            · have := q.2 (by omega) h4
              rw [decide_eq_true (by omega), decide_eq_true (by omega)]
            · rw [decide_eq_false (by omega), decide_eq_false (by omega)]
        · rw [decide_eq_false (by omega), decide_eq_false (by omega)]
      simp only [bitsU, e, ih (by omega)]
  exact key _ (Nat.le_refl _)
/-- how many ends of stretches lie ahead -/
def pot (M : zM) (m s : Int) : Nat → Nat
  | 0 => 0
  | i + 1 => pot M m s i + (if M 12 i = m ∧ s < lowAt M i then 1 else 0) + (if M 12 i = m ∧ s ≤ highAt M i then 1 else 0)
theorem pot_le {M : zM} {m s : Int} : ∀ n, pot M m s n ≤ 2 * n
  | 0 => by simp [pot]
  | n + 1 => by
    have := pot_le (M := M) (m := m) (s := s) n
    simp only [pot]
    split <;> split <;> omega
theorem pot_mono {M : zM} {m s t : Int} (h : s ≤ t) : ∀ n, pot M m t n ≤ pot M m s n
  | 0 => by simp [pot]
  | n + 1 => by
    have a := pot_mono (M := M) (m := m) h n
    simp only [pot]
    by_cases h1 : M 12 n = m ∧ t < lowAt M n
    · rw [if_pos h1, if_pos (show M 12 n = m ∧ s < lowAt M n by omega)]
      by_cases h2 : M 12 n = m ∧ t ≤ highAt M n
      · rw [if_pos h2, if_pos (show M 12 n = m ∧ s ≤ highAt M n by omega)]; omega
      · rw [if_neg h2]; omega
    · rw [if_neg h1]
      by_cases h2 : M 12 n = m ∧ t ≤ highAt M n
      · rw [if_pos h2, if_pos (show M 12 n = m ∧ s ≤ highAt M n by omega)]; omega
      · rw [if_neg h2]; omega
theorem pot_dec {M : zM} {m s e : Int} (h : s ≤ e + 1) : ∀ n, (∃ g, g < n ∧ M 12 g = m ∧ ((s < lowAt M g ∧ e = lowAt M g - 1) ∨ (s ≤ highAt M g ∧ e = highAt M g))) → pot M m (e + 1) n + 1 ≤ pot M m s n
  | 0, ⟨g, hg, _⟩ => absurd hg (by omega)
  | n + 1, ⟨g, hg, hm, hh⟩ => by
    have mono := pot_mono (M := M) (m := m) h n
    have mono1 := pot_mono (M := M) (m := m) h (n + 1)
    simp only [pot] at mono1 ⊢
    by_cases e1 : g = n
    · subst e1
      rcases hh with ⟨h1, h2⟩ | ⟨h1, h2⟩
      · rw [if_neg (show ¬ (M 12 g = m ∧ e + 1 < lowAt M g) by omega), if_pos (show M 12 g = m ∧ s < lowAt M g from ⟨hm, h1⟩)]
        by_cases h3 : M 12 g = m ∧ e + 1 ≤ highAt M g
        · rw [if_pos h3, if_pos (show M 12 g = m ∧ s ≤ highAt M g by omega)]; omega
        · rw [if_neg h3]; omega
      · rw [if_neg (show ¬ (M 12 g = m ∧ e + 1 ≤ highAt M g) by omega), if_pos (show M 12 g = m ∧ s ≤ highAt M g from ⟨hm, h1⟩)]
        by_cases h3 : M 12 g = m ∧ e + 1 < lowAt M g
        · rw [if_pos h3, if_pos (show M 12 g = m ∧ s < lowAt M g by omega)]; omega
        · rw [if_neg h3]; omega
    · have a := pot_dec (M := M) h n ⟨g, by omega, hm, hh⟩
      by_cases h1 : M 12 n = m ∧ e + 1 < lowAt M n
      · rw [if_pos h1, if_pos (show M 12 n = m ∧ s < lowAt M n by omega)]
        by_cases h2 : M 12 n = m ∧ e + 1 ≤ highAt M n
        · rw [if_pos h2, if_pos (show M 12 n = m ∧ s ≤ highAt M n by omega)]; omega
        · rw [if_neg h2]; omega
      · rw [if_neg h1]
        by_cases h2 : M 12 n = m ∧ e + 1 ≤ highAt M n
        · rw [if_pos h2, if_pos (show M 12 n = m ∧ s ≤ highAt M n by omega)]; omega
        · rw [if_neg h2]; omega
theorem sumU_app (f : Nat → Int) (a : Nat) (c : Int) : ∀ n, (∀ t, t < n → f (a + t) = c) → sumU f (a + n) = sumU f a + n * c
  | 0, _ => by simp
  | n + 1, h => by
    have q := sumU_app f a c n (fun t ht => h t (by omega))
    have e : a + (n + 1) = (a + n) + 1 := by omega
    have e2 : ((n + 1 : Nat) : Int) * c = n * c + c := by rw [Int.natCast_add, Int.add_mul]; simp
    rw [e, sumU, q, h n (by omega), e2]
    omega
theorem sumU_cong {f g : Nat → Int} : ∀ n, (∀ i, i < n → f i = g i) → sumU f n = sumU g n
  | 0, _ => rfl
  | n + 1, h => by rw [sumU, sumU, sumU_cong n (fun i hi => h i (by omega)), h n (by omega)]
/-- the inner loop of stretch -/
theorem lp_X6_stretch_in {E : zE} {X : zX} {Qp : Option zV → zM → Prop} {M N : zM} {m c s fr to : Int} (S : zS (zg E) X cX6_stretch 11 wzX6_stretch RX6 none) (hg : ICg M) (hs : ICs M) (ha : AG M N) (h0 : 0 ≤ fr) (h1 : fr ≤ s) (h2 : s ≤ to) (h3 : to ≤ 99) (hk : ∀ u9 u10, zK (zg E) rmX6_stretch 11 (Qp, 0, 0) X (0, 0) 122 [some (zR 47), some (zI m), some (zI fr), some (zI to), some (zI c), some (zI s), some (zI (bm M m s : Nat)), some (zI (endU M m s to (M 11 0).toNat)), some (zI (M 11 0)), u9, u10] [] N) : ∀ (n i : Nat) (u9 u10 : Option zV), (n : Int) + i = M 11 0 → zK (zg E) rmX6_stretch 11 (Qp, 0, 0) X (0, 0) 28 [some (zR 47), some (zI m), some (zI fr), some (zI to), some (zI c), some (zI s), some (zI (bitsU (pmG M m s) i : Nat)), some (zI (endU M m s to i)), some (zI i), u9, u10] [] N := by
  have h8 := hg.1
  have e11 := ha 11 (by decide)
  have e12 := ha 12 (by decide)
  intro n
  induction n with
  | zero =>
    intro i u9 u10 hi
    have e : i = (M 11 0).toNat := by omega
    have q := hk u9 u10
    unfold bm at q
    rw [← e] at q
    have e2 : M 11 0 = (i : Int) := by omega
    rw [e2] at q
    refine zr_iload (pc := 28) S dX6_stretch_28 rfl ?_
    refine zr_aload_n (pc := 30) S dX6_stretch_30 rfl ?_
    refine zr_getR (pc := 31) S fX6_stretch_32 dX6_stretch_31 rfl (Nat.le_of_ble_eq_true rfl) rfl ?_
    refine zr_getI (pc := 34) S fX6_stretch_36 dX6_stretch_34 rfl (Nat.le_of_ble_eq_true rfl) rfl ?_
    rw [e11]
    refine zr_icmp_ge (pc := 37) (tgt := 122) S dX6_stretch_37 (by decide) (fun c37 => ?_) (fun c37 => absurd c37 (by omega))
    exact q
  | succ n ih =>
    intro i u9 u10 hi
    have e : (i : Int).toNat = i := Int.toNat_natCast i
    have k := fun u9 u10 => ih (i + 1) u9 u10 (by omega)
    simp only [bitsU, endU] at k
    have lr := lowAt_r hg hs (g := i) (by omega)
    have hr := highAt_r hg hs (g := i) (by omega)
    have el := ag_low ha i
    have eh := ag_high ha i
    have er := endU_le (M := M) (m := m) h2 i
    have hl2 : (2 : Int) ^ i ≤ 128 := by
      have : 2 ^ i ≤ 2 ^ 7 := Nat.pow_le_pow_right (by omega) (by omega)
      have e2 : ((2 ^ i : Nat) : Int) = (2 : Int) ^ i := by simp
      omega
    have hl3 : (0 : Int) < 2 ^ i := Int.pow_pos (by omega)
    have e5 : (1 * (2 : Int) ^ i).toNat = 2 ^ i := by
      have e2 : ((2 ^ i : Nat) : Int) = (2 : Int) ^ i := by simp
      omega
    have y1 : M 12 i = m → lowAt M i ≤ s → s ≤ highAt M i → pmG M m s i = true := fun a b c => by unfold pmG; rw [decide_eq_true (by omega)]
    have y2 : ¬ (M 12 i = m ∧ lowAt M i ≤ s ∧ s ≤ highAt M i) → pmG M m s i = false := fun a => by unfold pmG; rw [decide_eq_false a]
    refine zr_iload (pc := 28) S dX6_stretch_28 rfl ?_
    refine zr_aload_n (pc := 30) S dX6_stretch_30 rfl ?_
    refine zr_getR (pc := 31) S fX6_stretch_32 dX6_stretch_31 rfl (Nat.le_of_ble_eq_true rfl) rfl ?_
    refine zr_getI (pc := 34) S fX6_stretch_36 dX6_stretch_34 rfl (Nat.le_of_ble_eq_true rfl) rfl ?_
    rw [e11]
    refine zr_icmp_ge (pc := 37) (tgt := 122) S dX6_stretch_37 (by decide) (fun c37 => absurd c37 (by omega)) (fun c37 => ?_)
    refine zr_aload_n (pc := 40) S dX6_stretch_40 rfl ?_
    refine zr_getR (pc := 41) S fX6_stretch_32 dX6_stretch_41 rfl (Nat.le_of_ble_eq_true rfl) rfl ?_
    refine zr_getR (pc := 44) S fX6_stretch_42 dX6_stretch_44 rfl (Nat.le_of_ble_eq_true rfl) rfl ?_
    refine zr_iload (pc := 47) S dX6_stretch_47 rfl ?_
    refine zr_iaload (pc := 49) S dX6_stretch_49 rfl (Nat.le_of_ble_eq_true rfl) (by omega) (by omega) ?_
    rw [e, e12]
    refine zr_iload_n (pc := 50) S dX6_stretch_50 rfl ?_
    refine zr_icmp_ne (pc := 51) (tgt := 116) S dX6_stretch_51 (by decide) (fun c51 => ?_) (fun c51 => ?_)
    · simp only [y2 (by omega), Bool.false_eq_true, if_false, if_neg c51] at k
      refine zr_iinc (pc := 116) S dX6_stretch_116 rfl (by unfold zrI; omega) (by decide) ?_
      dsimp only [zst1, zst2, zset, zget, zlong]
      refine zr_goto (pc := 119) (tgt := 28) S dX6_stretch_119 (by decide) ?_
      exact k _ _
    · skip
      refine zr_aload_n (pc := 54) S dX6_stretch_54 rfl ?_
      refine zr_iload (pc := 55) S dX6_stretch_55 rfl ?_
      refine zr_invV (pc := 57) S [zI _] (m_X6_lowAt _) kX6_stretch_45 dX6_stretch_57 rfl (Nat.le_of_ble_eq_true rfl) rfl (Nat.le_of_ble_eq_true rfl) ⟨Nat.le_of_ble_eq_true rfl, Nat.le_of_ble_eq_true rfl⟩ (us_X6_lowAt (ha.g hg) (ha.s hs) (by omega) (by omega) ?_)
      dsimp only [zaft, Option.toList, List.cons_append, List.nil_append, Nat.add_zero]
      rw [e, el]
      refine zr_istore (pc := 60) S dX6_stretch_60 (by decide) ?_
      dsimp only [zst1, zst2, zset, zget, zlong]
      refine zr_aload_n (pc := 62) S dX6_stretch_62 rfl ?_
      refine zr_iload (pc := 63) S dX6_stretch_63 rfl ?_
      refine zr_invV (pc := 65) S [zI _] (m_X6_highAt _) kX6_stretch_49 dX6_stretch_65 rfl (Nat.le_of_ble_eq_true rfl) rfl (Nat.le_of_ble_eq_true rfl) ⟨Nat.le_of_ble_eq_true rfl, Nat.le_of_ble_eq_true rfl⟩ (us_X6_highAt (ha.g hg) (ha.s hs) (by omega) (by omega) ?_)
      dsimp only [zaft, Option.toList, List.cons_append, List.nil_append, Nat.add_zero]
      rw [e, eh]
      refine zr_istore (pc := 68) S dX6_stretch_68 (by decide) ?_
      dsimp only [zst1, zst2, zset, zget, zlong]
      refine zr_iload (pc := 70) S dX6_stretch_70 rfl ?_
      refine zr_iload (pc := 72) S dX6_stretch_72 rfl ?_
      refine zr_icmp_ge (pc := 74) (tgt := 91) S dX6_stretch_74 (by decide) (fun c74 => ?_) (fun c74 => ?_)
      · skip
        refine zr_iload (pc := 91) S dX6_stretch_91 rfl ?_
        refine zr_iload (pc := 93) S dX6_stretch_93 rfl ?_
        refine zr_icmp_gt (pc := 95) (tgt := 116) S dX6_stretch_95 (by decide) (fun c95 => ?_) (fun c95 => ?_)
        · simp only [y2 (by omega), Bool.false_eq_true, if_false, if_pos c51, if_neg (show ¬ s < lowAt M i by omega), if_neg (show ¬ s ≤ highAt M i by omega)] at k
          refine zr_iinc (pc := 116) S dX6_stretch_116 rfl (by unfold zrI; omega) (by decide) ?_
          dsimp only [zst1, zst2, zset, zget, zlong]
          refine zr_goto (pc := 119) (tgt := 28) S dX6_stretch_119 (by decide) ?_
          exact k _ _
        · simp only [y1 c51 (by omega) (by omega), if_true, if_pos c51, if_neg (show ¬ s < lowAt M i by omega), if_pos c95] at k
          refine zr_iload (pc := 98) S dX6_stretch_98 rfl ?_
          refine zr_iload (pc := 100) S dX6_stretch_100 rfl ?_
          refine zr_mmin (pc := 102) S kX6_stretch_97 dX6_stretch_102 (Nat.le_of_ble_eq_true rfl) (Nat.le_of_ble_eq_true rfl) ⟨Nat.le_of_ble_eq_true rfl, Nat.le_of_ble_eq_true rfl⟩ ?_
          refine zr_istore (pc := 105) S dX6_stretch_105 (by decide) ?_
          dsimp only [zst1, zst2, zset, zget, zlong]
          refine zr_iload (pc := 107) S dX6_stretch_107 rfl ?_
          refine zr_iconst (pc := 109) S dX6_stretch_109 (by unfold zrI; omega) ?_
          refine zr_iload (pc := 110) S dX6_stretch_110 rfl ?_
          refine zr_ishl (pc := 112) S dX6_stretch_112 (by decide) (by omega) (by omega) (by rw [e]; omega) ?_
          rw [e]
          refine zr_ior (pc := 113) S dX6_stretch_113 (by omega) (by omega) ?_
          rw [e5, Int.toNat_natCast]
          refine zr_istore (pc := 114) S dX6_stretch_114 (by decide) ?_
          dsimp only [zst1, zst2, zset, zget, zlong]
          refine zr_iinc (pc := 116) S dX6_stretch_116 rfl (by unfold zrI; omega) (by decide) ?_
          dsimp only [zst1, zst2, zset, zget, zlong]
          refine zr_goto (pc := 119) (tgt := 28) S dX6_stretch_119 (by decide) ?_
          exact k _ _
      · simp only [y2 (by omega), Bool.false_eq_true, if_false, if_pos c51, if_pos c74] at k
        refine zr_iload (pc := 77) S dX6_stretch_77 rfl ?_
        refine zr_iload (pc := 79) S dX6_stretch_79 rfl ?_
        refine zr_iconst (pc := 81) S dX6_stretch_81 (by unfold zrI; omega) ?_
        refine zr_isub (pc := 82) S dX6_stretch_82 (by unfold zrI; omega) ?_
        refine zr_mmin (pc := 83) S kX6_stretch_97 dX6_stretch_83 (Nat.le_of_ble_eq_true rfl) (Nat.le_of_ble_eq_true rfl) ⟨Nat.le_of_ble_eq_true rfl, Nat.le_of_ble_eq_true rfl⟩ ?_
        refine zr_istore (pc := 86) S dX6_stretch_86 (by decide) ?_
        dsimp only [zst1, zst2, zset, zget, zlong]
        refine zr_goto (pc := 88) (tgt := 116) S dX6_stretch_88 (by decide) ?_
        refine zr_iinc (pc := 116) S dX6_stretch_116 rfl (by unfold zrI; omega) (by decide) ?_
        dsimp only [zst1, zst2, zset, zget, zlong]
        refine zr_goto (pc := 119) (tgt := 28) S dX6_stretch_119 (by decide) ?_
        exact k _ _
end
