section
def cBe (V : zM) (p k : Nat) : Int := if p = 0 then 1 else mdU V (md V) p k
theorem cBe_r (V : zM) (p k : Nat) : cBe V p k = 0 ∨ cBe V p k = 1 := by
  unfold cBe
  split
  · exact Or.inr rfl
  · exact mdU_r _ _ _ _
theorem cBe_e (V : zM) (p : Nat) : cBe V p (V 2 0).toNat = md V p := by
  unfold cBe
  split
  · rename_i e; rw [e]; rfl
  · obtain ⟨n, rfl⟩ : ∃ n, p = n + 1 := ⟨p - 1, by omega⟩
    exact (md_s V n).symm
theorem cBe_0 (V : zM) (p : Nat) : cBe V p 0 = if p = 0 then 1 else 0 := by
  unfold cBe
  split <;> rfl
theorem cBe_n {V : zM} {p k : Nat} (h : ¬ (0 < worth V k ∧ worth V k ≤ p)) : cBe V p (k + 1) = cBe V p k := by
  unfold cBe
  split
  · rfl
  · simp only [mdU]
    have r := mdU_r V (md V) p k
    have z : ¬ (isGood V k ∧ V 4 k ≤ p ∧ md V ((p : Int) - V 4 k).toNat = 1) := fun y => by
      apply h
      unfold worth
      rw [if_pos y.1]
      exact ⟨y.1.2.1, y.2.1⟩
    rcases r with r | r
    · rw [if_neg (fun y => y.elim (fun y => by omega) z), r]
    · rw [if_pos (Or.inl r), r]
theorem or01 {a b : Int} (ha : a = 0 ∨ a = 1) (hb : b = 0 ∨ b = 1) : ((a.toNat ||| b.toNat : Nat) : Int) = if a = 1 ∨ b = 1 then 1 else 0 := by
  rcases ha with rfl | rfl <;> rcases hb with rfl | rfl <;> rfl
theorem cBe_y {V : zM} {p k : Nat} (h : 0 < worth V k ∧ worth V k ≤ p) : cBe V p (k + 1) = (((cBe V p k).toNat ||| (md V ((p : Int) - worth V k).toNat).toNat : Nat) : Int) := by
  rw [or01 (cBe_r V p k) (md_r V _)]
  have g : isGood V k := Classical.byContradiction (fun z => by
    have := h.1
    unfold worth at this
    rw [if_neg z] at this
    omega)
  have ew : worth V k = V 4 k := by unfold worth; rw [if_pos g]; rfl
  rw [ew] at h ⊢
  have p0 : ¬ p = 0 := by omega
  unfold cBe
  rw [if_neg p0, if_neg p0]
  simp only [mdU]
  by_cases a : mdU V (md V) p k = 1
  · rw [if_pos (Or.inl a), if_pos (Or.inl a)]
  · by_cases c : md V ((p : Int) - V 4 k).toNat = 1
    · rw [if_pos (Or.inr ⟨g, h.2, c⟩), if_pos (Or.inr c)]
    · rw [if_neg (fun y => y.elim a (fun y => c y.2.2)), if_neg (fun y => y.elim a c)]
theorem ma2 {E : zE} {X : zX} {Qp : Option zV → zM → Prop} {N : zM} {V : zM} {p : Nat} {pr : Int} (S : zS (zg E) X cX12_made 4 wzX12_made RX12 (some .int)) (a : AG V (vm N)) (hs : ICs V) (hp : p ≤ 1000)
    (kk : ∀ C : Nat → Int, (∀ j, j ≤ p → C j = md V j) → zK (zg E) rmX12_made 4 (Qp, 0, 0) X (0, 0) 103 [some (zR 180), some (zI pr), some (zI p), some (zI (V 2 0))] [] (zrow N 191 C)) : ∀ (r k : Nat) (C : Nat → Int), (r : Int) + k = V 2 0 → (∀ j, j < p → C j = md V j) → C p = cBe V p k → zK (zg E) rmX12_made 4 (Qp, 0, 0) X (0, 0) 49 [some (zR 180), some (zI pr), some (zI p), some (zI k)] [] (zrow N 191 C) := by
  have t8 := hs.1
  have e0 : N 181 0 = V 2 0 := by rw [← vm_many (M := N)]; rw [a 2 (by decide)]
  have et : ∀ C, zrow N 191 C 181 0 = V 2 0 := fun C => by rw [zrow_o (by decide), e0]
  intro r
  induction r with
  | zero =>
    intro k C hk hC hp'
    have l := kk C (fun j hj => by
      by_cases e : j = p
      · rw [e, hp', ← cBe_e]; congr 1; omega
      · exact hC j (by omega))
    rw [show V 2 0 = (k : Int) by omega] at l
    refine zr_iload_n (pc := 49) S dX12_made_49 rfl ?_
    refine zr_aload_n (pc := 50) S dX12_made_50 rfl ?_
    refine zr_getR (pc := 51) S fX12_made_9 dX12_made_51 rfl (Nat.le_of_ble_eq_true rfl) rfl ?_
    refine zr_iconst (pc := 54) S dX12_made_54 (by unfold zrI; omega) ?_
    refine zr_iaload (pc := 55) S dX12_made_55 rfl (Nat.le_of_ble_eq_true rfl) (by omega) (by omega) ?_
    dsimp only [Int.reduceToNat]
    rw [et]
    refine zr_icmp_ge (pc := 56) (tgt := 103) S dX12_made_56 (by decide) (fun c56 => ?_) (fun c56 => absurd c56 (by omega))
    exact l
  | succ r ih =>
    intro k C hk hC hp'
    have ev : worth (vm (zrow N 191 C)) (k : Int) = worth V k := by
      rw [ag_worth (vm_zr (by decide) (by decide)), ag_worth a]
    have wr := worth_r2 hs k
    have tt : 0 ≤ zrow N 191 C 181 0 ∧ zrow N 191 C 181 0 ≤ 8 := by rw [et]; exact t8
    by_cases c : 0 < worth V k ∧ worth V k ≤ p
    · have ey := cBe_y c
      have r1 := cBe_r V p (k + 1)
      have r2 := cBe_r V p k
      have r3 := md_r V ((p : Int) - worth V k).toNat
      have l := ih (k + 1) (rUp C p (cBe V p (k + 1))) (by omega) (fun j hj => by rw [rUp_o (by omega)]; exact hC j hj) rUp_e
      rw [Int.natCast_add, Int.natCast_one] at l
      have b1 : zrow N 191 C 191 p = cBe V p k := by rw [zrow_e, hp']
      have b2 : zrow N 191 C 191 ((p : Int) - worth V k).toNat = md V ((p : Int) - worth V k).toNat := by rw [zrow_e, hC _ (by omega)]
      refine zr_iload_n (pc := 49) S dX12_made_49 rfl ?_
      refine zr_aload_n (pc := 50) S dX12_made_50 rfl ?_
      refine zr_getR (pc := 51) S fX12_made_9 dX12_made_51 rfl (Nat.le_of_ble_eq_true rfl) rfl ?_
      refine zr_iconst (pc := 54) S dX12_made_54 (by unfold zrI; omega) ?_
      refine zr_iaload (pc := 55) S dX12_made_55 rfl (Nat.le_of_ble_eq_true rfl) (by omega) (by omega) ?_
      dsimp only [Int.reduceToNat]
      rw [et]
      refine zr_icmp_ge (pc := 56) (tgt := 103) S dX12_made_56 (by decide) (fun c56 => absurd c56 (by omega)) (fun c56 => ?_)
      refine zr_aload_n (pc := 59) S dX12_made_59 rfl ?_
      refine zr_iload_n (pc := 60) S dX12_made_60 rfl ?_
      refine zr_invV (pc := 61) S [zI _] (m_X12_valueOf _) kX12_made_264 dX12_made_61 rfl (Nat.le_of_ble_eq_true rfl) rfl (Nat.le_of_ble_eq_true rfl) ⟨Nat.le_of_ble_eq_true rfl, Nat.le_of_ble_eq_true rfl⟩ (us_X12_valueOf tt.1 tt.2 ?_)
      dsimp only [zaft, Option.toList, List.cons_append, List.nil_append, Nat.add_zero]
      rw [ev]
      refine zr_if_le (pc := 64) (tgt := 97) S dX12_made_64 (by decide) (fun c64 => absurd c64 (by omega)) (fun c64 => ?_)
      refine zr_aload_n (pc := 67) S dX12_made_67 rfl ?_
      refine zr_iload_n (pc := 68) S dX12_made_68 rfl ?_
      refine zr_invV (pc := 69) S [zI _] (m_X12_valueOf _) kX12_made_264 dX12_made_69 rfl (Nat.le_of_ble_eq_true rfl) rfl (Nat.le_of_ble_eq_true rfl) ⟨Nat.le_of_ble_eq_true rfl, Nat.le_of_ble_eq_true rfl⟩ (us_X12_valueOf tt.1 tt.2 ?_)
      dsimp only [zaft, Option.toList, List.cons_append, List.nil_append, Nat.add_zero]
      rw [ev]
      refine zr_iload_n (pc := 72) S dX12_made_72 rfl ?_
      refine zr_icmp_gt (pc := 73) (tgt := 97) S dX12_made_73 (by decide) (fun c73 => absurd c73 (by omega)) (fun c73 => ?_)
      refine zr_aload_n (pc := 76) S dX12_made_76 rfl ?_
      refine zr_getR (pc := 77) S fX12_made_50 dX12_made_77 rfl (Nat.le_of_ble_eq_true rfl) rfl ?_
      refine zr_iload_n (pc := 80) S dX12_made_80 rfl ?_
      refine zr_dup2 (pc := 81) S dX12_made_81 rfl rfl ?_
      refine zr_zaload (pc := 82) S dX12_made_82 rfl (Nat.le_of_ble_eq_true rfl) (by omega) (by omega) ?_
      rw [Int.toNat_natCast, b1]
      refine zr_aload_n (pc := 83) S dX12_made_83 rfl ?_
      refine zr_getR (pc := 84) S fX12_made_50 dX12_made_84 rfl (Nat.le_of_ble_eq_true rfl) rfl ?_
      refine zr_iload_n (pc := 87) S dX12_made_87 rfl ?_
      refine zr_aload_n (pc := 88) S dX12_made_88 rfl ?_
      refine zr_iload_n (pc := 89) S dX12_made_89 rfl ?_
      refine zr_invV (pc := 90) S [zI _] (m_X12_valueOf _) kX12_made_264 dX12_made_90 rfl (Nat.le_of_ble_eq_true rfl) rfl (Nat.le_of_ble_eq_true rfl) ⟨Nat.le_of_ble_eq_true rfl, Nat.le_of_ble_eq_true rfl⟩ (us_X12_valueOf tt.1 tt.2 ?_)
      dsimp only [zaft, Option.toList, List.cons_append, List.nil_append, Nat.add_zero]
      rw [ev]
      refine zr_isub (pc := 93) S dX12_made_93 (by unfold zrI; omega) ?_
      refine zr_zaload (pc := 94) S dX12_made_94 rfl (Nat.le_of_ble_eq_true rfl) (by omega) (by omega) ?_
      rw [b2]
      refine zr_ior (pc := 95) S dX12_made_95 (by omega) (by omega) ?_
      rw [← ey]
      refine zr_zastore (pc := 96) S dX12_made_96 rfl (Nat.le_of_ble_eq_true rfl) (by omega) (by omega) (by omega) ?_
      rw [Int.toNat_natCast, zrow_up]
      refine zr_iinc (pc := 97) S dX12_made_97 rfl (by unfold zrI; omega) (by decide) ?_
      dsimp only [zst1, zst2, zset, zget, zlong]
      refine zr_goto (pc := 100) (tgt := 49) S dX12_made_100 (by decide) ?_
      exact l
    · have en := cBe_n c
      have l := ih (k + 1) C (by omega) hC (by rw [en]; exact hp')
      rw [Int.natCast_add, Int.natCast_one] at l
      refine zr_iload_n (pc := 49) S dX12_made_49 rfl ?_
      refine zr_aload_n (pc := 50) S dX12_made_50 rfl ?_
      refine zr_getR (pc := 51) S fX12_made_9 dX12_made_51 rfl (Nat.le_of_ble_eq_true rfl) rfl ?_
      refine zr_iconst (pc := 54) S dX12_made_54 (by unfold zrI; omega) ?_
      refine zr_iaload (pc := 55) S dX12_made_55 rfl (Nat.le_of_ble_eq_true rfl) (by omega) (by omega) ?_
      dsimp only [Int.reduceToNat]
      rw [et]
      refine zr_icmp_ge (pc := 56) (tgt := 103) S dX12_made_56 (by decide) (fun c56 => absurd c56 (by omega)) (fun c56 => ?_)
      refine zr_aload_n (pc := 59) S dX12_made_59 rfl ?_
      refine zr_iload_n (pc := 60) S dX12_made_60 rfl ?_
      refine zr_invV (pc := 61) S [zI _] (m_X12_valueOf _) kX12_made_264 dX12_made_61 rfl (Nat.le_of_ble_eq_true rfl) rfl (Nat.le_of_ble_eq_true rfl) ⟨Nat.le_of_ble_eq_true rfl, Nat.le_of_ble_eq_true rfl⟩ (us_X12_valueOf tt.1 tt.2 ?_)
      dsimp only [zaft, Option.toList, List.cons_append, List.nil_append, Nat.add_zero]
      rw [ev]
      refine zr_if_le (pc := 64) (tgt := 97) S dX12_made_64 (by decide) (fun c64 => ?_) (fun c64 => ?_)
      · refine zr_iinc (pc := 97) S dX12_made_97 rfl (by unfold zrI; omega) (by decide) ?_
        dsimp only [zst1, zst2, zset, zget, zlong]
        refine zr_goto (pc := 100) (tgt := 49) S dX12_made_100 (by decide) ?_
        exact l
      · refine zr_aload_n (pc := 67) S dX12_made_67 rfl ?_
        refine zr_iload_n (pc := 68) S dX12_made_68 rfl ?_
        refine zr_invV (pc := 69) S [zI _] (m_X12_valueOf _) kX12_made_264 dX12_made_69 rfl (Nat.le_of_ble_eq_true rfl) rfl (Nat.le_of_ble_eq_true rfl) ⟨Nat.le_of_ble_eq_true rfl, Nat.le_of_ble_eq_true rfl⟩ (us_X12_valueOf tt.1 tt.2 ?_)
        dsimp only [zaft, Option.toList, List.cons_append, List.nil_append, Nat.add_zero]
        rw [ev]
        refine zr_iload_n (pc := 72) S dX12_made_72 rfl ?_
        refine zr_icmp_gt (pc := 73) (tgt := 97) S dX12_made_73 (by decide) (fun c73 => ?_) (fun c73 => absurd c73 (by omega))
        refine zr_iinc (pc := 97) S dX12_made_97 rfl (by unfold zrI; omega) (by decide) ?_
        dsimp only [zst1, zst2, zset, zget, zlong]
        refine zr_goto (pc := 100) (tgt := 49) S dX12_made_100 (by decide) ?_
        exact l
theorem ma1 {E : zE} {X : zX} {Qp : Option zV → zM → Prop} {N : zM} {V : zM} {pr : Nat} (S : zS (zg E) X cX12_made 4 wzX12_made RX12 (some .int)) (a : AG V (vm N)) (hs : ICs V) (hp : 1 ≤ pr ∧ pr ≤ 1000)
    (hQ : ∀ C : Nat → Int, Qp (some (zI (mdS V pr (1001 - pr)))) (zrow N 191 C)) : ∀ (r p : Nat) (C : Nat → Int) (u3 : Option zV), r + p = 1001 → (∀ j, j < p → C j = md V j) → mdS V pr (1001 - pr) = mdS V (max pr p) (1001 - max pr p) → zK (zg E) rmX12_made 4 (Qp, 0, 0) X (0, 0) 25 [some (zR 180), some (zI pr), some (zI p), u3] [] (zrow N 191 C) := by
  intro r
  induction r with
  | zero =>
    intro p C u3 hr hC hm
    obtain rfl : p = 1001 := by omega
    have q := hQ C
    rw [hm, show max pr 1001 = 1001 by omega] at q
    refine zr_iload_n (pc := 25) S dX12_made_25 rfl ?_
    refine zr_sipush (pc := 26) S dX12_made_26 ⟨by unfold zrI; omega, by decide⟩ ?_
    refine zr_icmp_gt (pc := 29) (tgt := 125) S dX12_made_29 (by decide) (fun c29 => ?_) (fun c29 => absurd c29 (by omega))
    refine zr_iconst (pc := 125) S dX12_made_125 (by unfold zrI; omega) ?_
    exact zr_iret (pc := 126) S dX12_made_126 rfl ⟨Nat.le_refl _, Nat.le_refl _⟩ (q)
  | succ r ih =>
    intro p C u3 hr hC hm
    have l := ma2 (E := E) (X := X) (Qp := Qp) (N := N) (V := V) (p := p) (pr := pr) S a hs (by omega) (fun C hC => by
      have q := hQ C
      have eC : zrow N 191 C 191 p = md V p := by rw [zrow_e, hC p (by omega)]
      have mr := md_r V p
      have ms : ∀ m, mdS V p (m + 1) = if md V p = 1 then (p : Int) else mdS V (p + 1) m := fun m => rfl
      have l := fun u3 => ih (p + 1) C u3 (by omega) (fun j hj => hC j (by omega))
      rw [Int.natCast_add, Int.natCast_one] at l
      by_cases c : pr ≤ p
      · rw [show max pr p = p by omega, show 1001 - p = (1000 - p) + 1 by omega, ms] at hm
        by_cases d : md V p = 1
        · rw [if_pos d] at hm
          rw [hm] at q
          refine zr_iload_n (pc := 103) S dX12_made_103 rfl ?_
          refine zr_iload_n (pc := 104) S dX12_made_104 rfl ?_
          refine zr_icmp_lt (pc := 105) (tgt := 119) S dX12_made_105 (by decide) (fun c105 => absurd c105 (by omega)) (fun c105 => ?_)
          refine zr_aload_n (pc := 108) S dX12_made_108 rfl ?_
          refine zr_getR (pc := 109) S fX12_made_50 dX12_made_109 rfl (Nat.le_of_ble_eq_true rfl) rfl ?_
          refine zr_iload_n (pc := 112) S dX12_made_112 rfl ?_
          refine zr_zaload (pc := 113) S dX12_made_113 rfl (Nat.le_of_ble_eq_true rfl) (by omega) (by omega) ?_
          rw [Int.toNat_natCast, eC]
          refine zr_if_eq (pc := 114) (tgt := 119) S dX12_made_114 (by decide) (fun c114 => absurd c114 (by omega)) (fun c114 => ?_)
          refine zr_iload_n (pc := 117) S dX12_made_117 rfl ?_
          exact zr_iret (pc := 118) S dX12_made_118 rfl ⟨Nat.le_refl _, Nat.le_refl _⟩ (q)
        · rw [if_neg d] at hm
          have l2 := fun u3 => l u3 (by rw [hm, show max pr (p + 1) = p + 1 by omega, show 1001 - (p + 1) = 1000 - p by omega])
          refine zr_iload_n (pc := 103) S dX12_made_103 rfl ?_
          refine zr_iload_n (pc := 104) S dX12_made_104 rfl ?_
          refine zr_icmp_lt (pc := 105) (tgt := 119) S dX12_made_105 (by decide) (fun c105 => absurd c105 (by omega)) (fun c105 => ?_)
          refine zr_aload_n (pc := 108) S dX12_made_108 rfl ?_
          refine zr_getR (pc := 109) S fX12_made_50 dX12_made_109 rfl (Nat.le_of_ble_eq_true rfl) rfl ?_
          refine zr_iload_n (pc := 112) S dX12_made_112 rfl ?_
          refine zr_zaload (pc := 113) S dX12_made_113 rfl (Nat.le_of_ble_eq_true rfl) (by omega) (by omega) ?_
          rw [Int.toNat_natCast, eC]
          refine zr_if_eq (pc := 114) (tgt := 119) S dX12_made_114 (by decide) (fun c114 => ?_) (fun c114 => absurd c114 (by omega))
          refine zr_iinc (pc := 119) S dX12_made_119 rfl (by unfold zrI; omega) (by decide) ?_
          dsimp only [zst1, zst2, zset, zget, zlong]
          refine zr_goto (pc := 122) (tgt := 25) S dX12_made_122 (by decide) ?_
          exact l2 _
      · have l2 := fun u3 => l u3 (by rw [hm, show max pr (p + 1) = max pr p by omega])
        refine zr_iload_n (pc := 103) S dX12_made_103 rfl ?_
        refine zr_iload_n (pc := 104) S dX12_made_104 rfl ?_
        refine zr_icmp_lt (pc := 105) (tgt := 119) S dX12_made_105 (by decide) (fun c105 => ?_) (fun c105 => absurd c105 (by omega))
        refine zr_iinc (pc := 119) S dX12_made_119 rfl (by unfold zrI; omega) (by decide) ?_
        dsimp only [zst1, zst2, zset, zget, zlong]
        refine zr_goto (pc := 122) (tgt := 25) S dX12_made_122 (by decide) ?_
        exact l2 _) (V 2 0).toNat 0 (rUp C p (cBe V p 0)) (by have := hs.1; omega) (fun j hj => by rw [rUp_o (by omega)]; exact hC j hj) rUp_e
    rw [cBe_0] at l
    have e1 : (p : Int) = 0 → p = 0 := fun z => by omega
    have e2 : ¬ (p : Int) = 0 → ¬ p = 0 := fun z => by omega
    refine zr_iload_n (pc := 25) S dX12_made_25 rfl ?_
    refine zr_sipush (pc := 26) S dX12_made_26 ⟨by unfold zrI; omega, by decide⟩ ?_
    refine zr_icmp_gt (pc := 29) (tgt := 125) S dX12_made_29 (by decide) (fun c29 => absurd c29 (by omega)) (fun c29 => ?_)
    refine zr_aload_n (pc := 32) S dX12_made_32 rfl ?_
    refine zr_getR (pc := 33) S fX12_made_50 dX12_made_33 rfl (Nat.le_of_ble_eq_true rfl) rfl ?_
    refine zr_iload_n (pc := 36) S dX12_made_36 rfl ?_
    refine zr_iload_n (pc := 37) S dX12_made_37 rfl ?_
    refine zr_if_ne (pc := 38) (tgt := 45) S dX12_made_38 (by decide) (fun c38 => ?_) (fun c38 => ?_)
    · rw [if_neg (e2 c38)] at l
      refine zr_iconst (pc := 45) S dX12_made_45 (by unfold zrI; omega) ?_
      refine zr_zastore (pc := 46) S dX12_made_46 rfl (Nat.le_of_ble_eq_true rfl) (by omega) (by omega) (by omega) ?_
      rw [Int.toNat_natCast, zrow_up]
      refine zr_iconst (pc := 47) S dX12_made_47 (by unfold zrI; omega) ?_
      refine zr_istore_n (pc := 48) S 3 dX12_made_48 rfl (by decide) ?_
      dsimp only [zst1, zst2, zset, zget, zlong]
      exact l
    · rw [if_pos (e1 c38)] at l
      refine zr_iconst (pc := 41) S dX12_made_41 (by unfold zrI; omega) ?_
      refine zr_goto (pc := 42) (tgt := 46) S dX12_made_42 (by decide) ?_
      refine zr_zastore (pc := 46) S dX12_made_46 rfl (Nat.le_of_ble_eq_true rfl) (by omega) (by omega) (by omega) ?_
      rw [Int.toNat_natCast, zrow_up]
      refine zr_iconst (pc := 47) S dX12_made_47 (by unfold zrI; omega) ?_
      refine zr_istore_n (pc := 48) S 3 dX12_made_48 rfl (by decide) ?_
      dsimp only [zst1, zst2, zset, zget, zlong]
      exact l
def sp_X12_made (as : List zV) (M : zM) (Q : Option zV → zM → Prop) : Prop := ∃ (p : Int), as = [zR 180, zI p] ∧ (ICs (vm M)) ∧ ((1 ≤ p ∧ p ≤ 1000) → ∀ M', offY (tz M 0) M' → Q (some (zI (mdS (vm M) p.toNat (1001 - p.toNat)))) M') ∧ (¬ (1 ≤ p ∧ p ≤ 1000) → Q (some (zI 0)) (tz (tz M 0) 1))
theorem us_X12_made {p : Int} {M : zM} {Q : Option zV → zM → Prop} (hs : ICs (vm M)) (hQ : (1 ≤ p ∧ p ≤ 1000) → ∀ M', offY (tz M 0) M' → Q (some (zI (mdS (vm M) p.toNat (1001 - p.toNat)))) M') (hT : ¬ (1 ≤ p ∧ p ≤ 1000) → Q (some (zI 0)) (tz (tz M 0) 1)) : sp_X12_made [zR 180, zI p] M Q := ⟨p, rfl, hs, hQ, hT⟩
set_option maxRecDepth 20000 in
set_option maxHeartbeats 4000000 in
theorem m_X12_made (l : Launch) : zC l yX12_made wzX12_made rmX12_made sp_X12_made := by
  refine zMet.of RX12 (by decide +kernel) rfl rfl ?_
  intro E X as M Qp hX S hsp
  obtain ⟨p, rfl, hs, hQ, hT⟩ := hsp
  refine ⟨Nat.le_of_ble_eq_true rfl, ?_⟩
  dsimp only [zpad, zargs]
  have key : (1 ≤ p ∧ p ≤ 1000) → zK (zg E) rmX12_made 4 (Qp, 0, 0) X (0, 0) 23 [some (zR 180), some (zI p), none, none] [] (tz M 0) := by
    intro c1
    have f := hQ c1
    obtain ⟨p, rfl⟩ : ∃ n : Nat, p = n := ⟨p.toNat, by omega⟩
    rw [Int.toNat_natCast] at f
    have l := fun u3 => ma1 (E := E) (X := X) (Qp := Qp) (N := tz M 0) (V := vm M) (pr := p) S (tz_ag M 0) hs (by omega) (fun C => f _ ((offY.rf _).scr C (by decide))) 1001 0 (tz M 0 191) u3 (by omega) (fun j hj => absurd hj (by omega)) (by rw [show max p 0 = p by omega])
    rw [zrow_s] at l
    refine zr_iconst (pc := 23) S dX12_made_23 (by unfold zrI; omega) ?_
    refine zr_istore_n (pc := 24) S 2 dX12_made_24 rfl (by decide) ?_
    dsimp only [zst1, zst2, zset, zget, zlong]
    exact l _
  refine zr_aload_n (pc := 0) S dX12_made_0 rfl ?_
  refine zr_iconst (pc := 1) S dX12_made_1 (by unfold zrI; omega) ?_
  refine zr_putI (pc := 2) S pX12_made_80 dX12_made_2 rfl (Nat.le_of_ble_eq_true rfl) rfl ?_
  refine zr_iload_n (pc := 5) S dX12_made_5 rfl ?_
  refine zr_i2l (pc := 6) S dX12_made_6 ?_
  refine zr_lconst1 (pc := 7) S dX12_made_7 ?_
  refine zr_ldc2 (pc := 8) S (1000) dX12_made_8 (List.mem_cons_of_mem _ (zWi_7 _ (List.mem_of_getElem? (i := 23) rfl))) (by unfold zrL; omega) ?_
  refine zr_invS (pc := 11) S [zL _, zL _, zL _] (m_X12_within _) kX12_made_83 dX12_made_11 (Nat.le_of_ble_eq_true rfl) ⟨Nat.le_of_ble_eq_true rfl, Nat.le_of_ble_eq_true rfl⟩ (us_X12_within ?_)
  dsimp only [zaft, Option.toList, List.cons_append, List.nil_append, Nat.add_zero]
  refine zr_if_ne (pc := 14) (tgt := 23) S dX12_made_14 (by decide) (fun c14 => ?_) (fun c14 => ?_)
  · rw [b01_0, Classical.not_not] at c14
    exact key c14
  · rw [b01_0] at c14
    have f := hT c14
    refine zr_aload_n (pc := 17) S dX12_made_17 rfl ?_
    refine zr_iconst (pc := 18) S dX12_made_18 (by unfold zrI; omega) ?_
    refine zr_invV (pc := 19) S [zI _] (m_X12_fails _) kX12_made_95 dX12_made_19 rfl (Nat.le_of_ble_eq_true rfl) rfl (Nat.le_of_ble_eq_true rfl) ⟨Nat.le_of_ble_eq_true rfl, Nat.le_of_ble_eq_true rfl⟩ (us_X12_fails ?_)
    dsimp only [zaft, Option.toList, List.cons_append, List.nil_append, Nat.add_zero]
    exact zr_iret (pc := 22) S dX12_made_22 rfl ⟨Nat.le_refl _, Nat.le_refl _⟩ (f)
end
