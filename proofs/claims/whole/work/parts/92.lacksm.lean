section
/-- the first price for which the reference finds no change -/
def lkQ (p : Nat → Int) (pr : Int) (n : Nat) : Int := if lkF p n = -1 then -1 else pr + lkF p n
theorem lkF_s (p : Nat → Int) : ∀ n : Nat, lkF p n = -1 ∨ (0 ≤ lkF p n ∧ lkF p n < n)
  | 0 => Or.inl rfl
  | n + 1 => by
    have := lkF_s p n
    simp only [lkF]
    split
    · split <;> omega
    · omega
theorem lk1 {E : zE} {X : zX} {Qp : Option zV → zM → Prop} {N : zM} {p : Nat → Int} {fw : Nat → Nat} {g w pr : Int} (S : zS (zg E) X cX12_lacks 9 wzX12_lacks RX12 (some .int)) (hg : 0 ≤ g ∧ g < 6) (hpr : N 181 (351 + g).toNat = pr) (pr0 : 0 ≤ pr ∧ pr ≤ 500) (hw : 0 ≤ w ∧ w ≤ 2) (hF : ∀ n, n ≤ 200 → N 188 n = (fw n : Nat) ∧ fw n ≤ 1000000 ∧ (p n = 0 ↔ ¬ fw n < 1000000))
    (hQ : Qp (some (zI (if w = 0 then lkN p 201 else if w = 2 then (lkR p 201).1 else lkQ p pr 201))) N) : ∀ (r n : Nat) (u8 : Option zV), r + n = 201 → zK (zg E) rmX12_lacks 9 (Qp, 0, 0) X (0, 0) 62 [some (zR 180), some (zI g), some (zI w), some (zI (lkN p n)), some (zI (lkQ p pr n)), some (zI (lkR p n).2), some (zI (lkR p n).1), some (zI n), u8] [] N := by
  intro r
  induction r with
  | zero =>
    intro n u8 hn
    obtain rfl : n = 201 := by omega
    refine zr_iload (pc := 62) S dX12_lacks_62 rfl ?_
    refine zr_sipush (pc := 64) S dX12_lacks_64 ⟨by unfold zrI; omega, by decide⟩ ?_
    refine zr_icmp_gt (pc := 67) (tgt := 169) S dX12_lacks_67 (by decide) (fun c67 => ?_) (fun c67 => absurd c67 (by omega))
    refine zr_iload_n (pc := 169) S dX12_lacks_169 rfl ?_
    refine zr_if_ne (pc := 170) (tgt := 177) S dX12_lacks_170 (by decide) (fun c170 => ?_) (fun c170 => ?_)
    · rw [if_neg c170] at hQ
      refine zr_iload_n (pc := 177) S dX12_lacks_177 rfl ?_
      refine zr_iconst (pc := 178) S dX12_lacks_178 (by unfold zrI; omega) ?_
      refine zr_icmp_ne (pc := 179) (tgt := 187) S dX12_lacks_179 (by decide) (fun c179 => ?_) (fun c179 => ?_)
      · rw [if_pos (by omega)] at hQ
        refine zr_iload (pc := 187) S dX12_lacks_187 rfl ?_
        exact zr_iret (pc := 189) S dX12_lacks_189 rfl ⟨Nat.le_refl _, Nat.le_refl _⟩ (hQ)
      · rw [if_neg (by omega)] at hQ
        refine zr_iload (pc := 182) S dX12_lacks_182 rfl ?_
        refine zr_goto (pc := 184) (tgt := 189) S dX12_lacks_184 (by decide) ?_
        exact zr_iret (pc := 189) S dX12_lacks_189 rfl ⟨Nat.le_refl _, Nat.le_refl _⟩ (hQ)
    · rw [if_pos c170] at hQ
      refine zr_iload_n (pc := 173) S dX12_lacks_173 rfl ?_
      refine zr_goto (pc := 174) (tgt := 189) S dX12_lacks_174 (by decide) ?_
      exact zr_iret (pc := 189) S dX12_lacks_189 rfl ⟨Nat.le_refl _, Nat.le_refl _⟩ (hQ)
  | succ r ih =>
    intro n u8 hn
    have l := fun u8 => ih (n + 1) u8 (by omega)
    rw [Int.natCast_add, Int.natCast_one] at l
    obtain ⟨f1, f2, f3⟩ := hF n (by omega)
    have nr := lkN_r p n
    have fr := lkF_s p n
    have rr := lkR_r p n
    have i0 : ((4801 : Int) * 0 + (n : Int)).toNat = n := by omega
    have q0 : lkQ p pr n = -1 ∨ (0 ≤ lkQ p pr n ∧ lkF p n ≠ -1) := by unfold lkQ; split <;> omega
    have qz : lkQ p pr n = -1 ↔ lkF p n = -1 := by unfold lkQ; split <;> omega
    by_cases c : fw n < 1000000
    · have p0 : ¬ p n = 0 := fun z => (f3.mp z) c
      have e1 : lkN p (n + 1) = lkN p n + 0 := by simp only [lkN]; rw [if_neg p0]
      have e2 : lkQ p pr (n + 1) = lkQ p pr n := by
        have ea : lkF p (n + 1) = lkF p n := by simp only [lkF]; rw [if_neg p0]; split <;> omega
        unfold lkQ; rw [ea]
      have e3 : (lkR p (n + 1)).2 = 0 := by simp only [lkR]; rw [if_neg p0]
      have e4 : (lkR p (n + 1)).1 = max (lkR p n).1 0 := by simp only [lkR]; rw [if_neg p0]
      rw [e1, e2, e3, e4] at l
      refine zr_iload (pc := 62) S dX12_lacks_62 rfl ?_
      refine zr_sipush (pc := 64) S dX12_lacks_64 ⟨by unfold zrI; omega, by decide⟩ ?_
      refine zr_icmp_gt (pc := 67) (tgt := 169) S dX12_lacks_67 (by decide) (fun c67 => absurd c67 (by omega)) (fun c67 => ?_)
      refine zr_aload_n (pc := 70) S dX12_lacks_70 rfl ?_
      refine zr_getR (pc := 71) S fX12_lacks_41 dX12_lacks_71 rfl (Nat.le_of_ble_eq_true rfl) rfl ?_
      refine zr_aload_n (pc := 74) S dX12_lacks_74 rfl ?_
      refine zr_iconst (pc := 75) S dX12_lacks_75 (by unfold zrI; omega) ?_
      refine zr_iload (pc := 76) S dX12_lacks_76 rfl ?_
      refine zr_invV (pc := 78) S [zI _, zI _] (m_X12_at _) kX12_lacks_302 dX12_lacks_78 rfl (Nat.le_of_ble_eq_true rfl) rfl (Nat.le_of_ble_eq_true rfl) ⟨Nat.le_of_ble_eq_true rfl, Nat.le_of_ble_eq_true rfl⟩ (us_X12_at (by omega) (by omega) ?_)
      dsimp only [zaft, Option.toList, List.cons_append, List.nil_append, Nat.add_zero]
      refine zr_iaload (pc := 81) S dX12_lacks_81 rfl (Nat.le_of_ble_eq_true rfl) (by omega) (by omega) ?_
      rw [i0, f1]
      refine zr_ldcw (pc := 82) S (1000000) dX12_lacks_82 (List.mem_cons_of_mem _ (zWi_6 _ (List.mem_of_getElem? (i := 49) rfl))) (by unfold zrI; omega) ?_
      refine zr_icmp_lt (pc := 85) (tgt := 92) S dX12_lacks_85 (by decide) (fun c85 => ?_) (fun c85 => absurd c85 (by omega))
      refine zr_iconst (pc := 92) S dX12_lacks_92 (by unfold zrI; omega) ?_
      refine zr_istore (pc := 93) S dX12_lacks_93 (by decide) ?_
      dsimp only [zst1, zst2, zset, zget, zlong]
      refine zr_iload_n (pc := 95) S dX12_lacks_95 rfl ?_
      refine zr_iload (pc := 96) S dX12_lacks_96 rfl ?_
      refine zr_if_eq (pc := 98) (tgt := 105) S dX12_lacks_98 (by decide) (fun c98 => ?_) (fun c98 => absurd c98 (by omega))
      refine zr_iconst (pc := 105) S dX12_lacks_105 (by unfold zrI; omega) ?_
      refine zr_iadd (pc := 106) S dX12_lacks_106 (by unfold zrI; omega) ?_
      refine zr_istore_n (pc := 107) S 3 dX12_lacks_107 rfl (by decide) ?_
      dsimp only [zst1, zst2, zset, zget, zlong]
      refine zr_iload (pc := 108) S dX12_lacks_108 rfl ?_
      refine zr_if_eq (pc := 110) (tgt := 135) S dX12_lacks_110 (by decide) (fun c110 => ?_) (fun c110 => absurd c110 (by omega))
      refine zr_iload (pc := 135) S dX12_lacks_135 rfl ?_
      refine zr_istore (pc := 137) S dX12_lacks_137 (by decide) ?_
      dsimp only [zst1, zst2, zset, zget, zlong]
      refine zr_iload (pc := 139) S dX12_lacks_139 rfl ?_
      refine zr_if_eq (pc := 141) (tgt := 151) S dX12_lacks_141 (by decide) (fun c141 => ?_) (fun c141 => absurd c141 (by omega))
      refine zr_iconst (pc := 151) S dX12_lacks_151 (by unfold zrI; omega) ?_
      refine zr_istore (pc := 152) S dX12_lacks_152 (by decide) ?_
      dsimp only [zst1, zst2, zset, zget, zlong]
      refine zr_iload (pc := 154) S dX12_lacks_154 rfl ?_
      refine zr_iload (pc := 156) S dX12_lacks_156 rfl ?_
      refine zr_mmax (pc := 158) S kX12_lacks_123 dX12_lacks_158 (Nat.le_of_ble_eq_true rfl) (Nat.le_of_ble_eq_true rfl) ⟨Nat.le_of_ble_eq_true rfl, Nat.le_of_ble_eq_true rfl⟩ ?_
      refine zr_istore (pc := 161) S dX12_lacks_161 (by decide) ?_
      dsimp only [zst1, zst2, zset, zget, zlong]
      refine zr_iinc (pc := 163) S dX12_lacks_163 rfl (by unfold zrI; omega) (by decide) ?_
      dsimp only [zst1, zst2, zset, zget, zlong]
      refine zr_goto (pc := 166) (tgt := 62) S dX12_lacks_166 (by decide) ?_
      exact l _
    · have p0 : p n = 0 := f3.mpr c
      have e1 : lkN p (n + 1) = lkN p n + 1 := by simp only [lkN]; rw [if_pos p0]
      have e3 : (lkR p (n + 1)).2 = (lkR p n).2 + 1 := by simp only [lkR]; rw [if_pos p0]
      have e4 : (lkR p (n + 1)).1 = max (lkR p n).1 ((lkR p n).2 + 1) := by simp only [lkR]; rw [if_pos p0]
      rw [e1, e3, e4] at l
      have e2a : lkQ p pr n = -1 → lkQ p pr (n + 1) = pr + n := fun z => by
        have ez := qz.mp z
        have ea : lkF p (n + 1) = n := by simp only [lkF]; rw [if_pos ez, if_pos p0]
        unfold lkQ; rw [ea, if_neg (by omega)]
      have e2b : ¬ lkQ p pr n = -1 → lkQ p pr (n + 1) = lkQ p pr n := fun z => by
        have ea : lkF p (n + 1) = lkF p n := by simp only [lkF]; rw [if_neg (fun y => z (qz.mpr y))]
        unfold lkQ; rw [ea]
      refine zr_iload (pc := 62) S dX12_lacks_62 rfl ?_
      refine zr_sipush (pc := 64) S dX12_lacks_64 ⟨by unfold zrI; omega, by decide⟩ ?_
      refine zr_icmp_gt (pc := 67) (tgt := 169) S dX12_lacks_67 (by decide) (fun c67 => absurd c67 (by omega)) (fun c67 => ?_)
      refine zr_aload_n (pc := 70) S dX12_lacks_70 rfl ?_
      refine zr_getR (pc := 71) S fX12_lacks_41 dX12_lacks_71 rfl (Nat.le_of_ble_eq_true rfl) rfl ?_
      refine zr_aload_n (pc := 74) S dX12_lacks_74 rfl ?_
      refine zr_iconst (pc := 75) S dX12_lacks_75 (by unfold zrI; omega) ?_
      refine zr_iload (pc := 76) S dX12_lacks_76 rfl ?_
      refine zr_invV (pc := 78) S [zI _, zI _] (m_X12_at _) kX12_lacks_302 dX12_lacks_78 rfl (Nat.le_of_ble_eq_true rfl) rfl (Nat.le_of_ble_eq_true rfl) ⟨Nat.le_of_ble_eq_true rfl, Nat.le_of_ble_eq_true rfl⟩ (us_X12_at (by omega) (by omega) ?_)
      dsimp only [zaft, Option.toList, List.cons_append, List.nil_append, Nat.add_zero]
      refine zr_iaload (pc := 81) S dX12_lacks_81 rfl (Nat.le_of_ble_eq_true rfl) (by omega) (by omega) ?_
      rw [i0, f1]
      refine zr_ldcw (pc := 82) S (1000000) dX12_lacks_82 (List.mem_cons_of_mem _ (zWi_6 _ (List.mem_of_getElem? (i := 49) rfl))) (by unfold zrI; omega) ?_
      refine zr_icmp_lt (pc := 85) (tgt := 92) S dX12_lacks_85 (by decide) (fun c85 => absurd c85 (by omega)) (fun c85 => ?_)
      refine zr_iconst (pc := 88) S dX12_lacks_88 (by unfold zrI; omega) ?_
      refine zr_goto (pc := 89) (tgt := 93) S dX12_lacks_89 (by decide) ?_
      refine zr_istore (pc := 93) S dX12_lacks_93 (by decide) ?_
      dsimp only [zst1, zst2, zset, zget, zlong]
      refine zr_iload_n (pc := 95) S dX12_lacks_95 rfl ?_
      refine zr_iload (pc := 96) S dX12_lacks_96 rfl ?_
      refine zr_if_eq (pc := 98) (tgt := 105) S dX12_lacks_98 (by decide) (fun c98 => absurd c98 (by omega)) (fun c98 => ?_)
      refine zr_iconst (pc := 101) S dX12_lacks_101 (by unfold zrI; omega) ?_
      refine zr_goto (pc := 102) (tgt := 106) S dX12_lacks_102 (by decide) ?_
      refine zr_iadd (pc := 106) S dX12_lacks_106 (by unfold zrI; omega) ?_
      refine zr_istore_n (pc := 107) S 3 dX12_lacks_107 rfl (by decide) ?_
      dsimp only [zst1, zst2, zset, zget, zlong]
      refine zr_iload (pc := 108) S dX12_lacks_108 rfl ?_
      refine zr_if_eq (pc := 110) (tgt := 135) S dX12_lacks_110 (by decide) (fun c110 => absurd c110 (by omega)) (fun c110 => ?_)
      refine zr_iload (pc := 113) S dX12_lacks_113 rfl ?_
      refine zr_iconst (pc := 115) S dX12_lacks_115 (by unfold zrI; omega) ?_
      refine zr_icmp_ne (pc := 116) (tgt := 135) S dX12_lacks_116 (by decide) (fun c116 => ?_) (fun c116 => ?_)
      · rw [e2b c116] at l
        refine zr_iload (pc := 135) S dX12_lacks_135 rfl ?_
        refine zr_istore (pc := 137) S dX12_lacks_137 (by decide) ?_
        dsimp only [zst1, zst2, zset, zget, zlong]
        refine zr_iload (pc := 139) S dX12_lacks_139 rfl ?_
        refine zr_if_eq (pc := 141) (tgt := 151) S dX12_lacks_141 (by decide) (fun c141 => absurd c141 (by omega)) (fun c141 => ?_)
        refine zr_iload (pc := 144) S dX12_lacks_144 rfl ?_
        refine zr_iconst (pc := 146) S dX12_lacks_146 (by unfold zrI; omega) ?_
        refine zr_iadd (pc := 147) S dX12_lacks_147 (by unfold zrI; omega) ?_
        refine zr_goto (pc := 148) (tgt := 152) S dX12_lacks_148 (by decide) ?_
        refine zr_istore (pc := 152) S dX12_lacks_152 (by decide) ?_
        dsimp only [zst1, zst2, zset, zget, zlong]
        refine zr_iload (pc := 154) S dX12_lacks_154 rfl ?_
        refine zr_iload (pc := 156) S dX12_lacks_156 rfl ?_
        refine zr_mmax (pc := 158) S kX12_lacks_123 dX12_lacks_158 (Nat.le_of_ble_eq_true rfl) (Nat.le_of_ble_eq_true rfl) ⟨Nat.le_of_ble_eq_true rfl, Nat.le_of_ble_eq_true rfl⟩ ?_
        refine zr_istore (pc := 161) S dX12_lacks_161 (by decide) ?_
        dsimp only [zst1, zst2, zset, zget, zlong]
        refine zr_iinc (pc := 163) S dX12_lacks_163 rfl (by unfold zrI; omega) (by decide) ?_
        dsimp only [zst1, zst2, zset, zget, zlong]
        refine zr_goto (pc := 166) (tgt := 62) S dX12_lacks_166 (by decide) ?_
        exact l _
      · rw [e2a c116] at l
        refine zr_aload_n (pc := 119) S dX12_lacks_119 rfl ?_
        refine zr_getR (pc := 120) S fX12_lacks_9 dX12_lacks_120 rfl (Nat.le_of_ble_eq_true rfl) rfl ?_
        refine zr_sipush (pc := 123) S dX12_lacks_123 ⟨by unfold zrI; omega, by decide⟩ ?_
        refine zr_iload_n (pc := 126) S dX12_lacks_126 rfl ?_
        refine zr_iadd (pc := 127) S dX12_lacks_127 (by unfold zrI; omega) ?_
        refine zr_iaload (pc := 128) S dX12_lacks_128 rfl (Nat.le_of_ble_eq_true rfl) (by omega) (by omega) ?_
        rw [hpr]
        refine zr_iload (pc := 129) S dX12_lacks_129 rfl ?_
        refine zr_iadd (pc := 131) S dX12_lacks_131 (by unfold zrI; omega) ?_
        refine zr_goto (pc := 132) (tgt := 137) S dX12_lacks_132 (by decide) ?_
        refine zr_istore (pc := 137) S dX12_lacks_137 (by decide) ?_
        dsimp only [zst1, zst2, zset, zget, zlong]
        refine zr_iload (pc := 139) S dX12_lacks_139 rfl ?_
        refine zr_if_eq (pc := 141) (tgt := 151) S dX12_lacks_141 (by decide) (fun c141 => absurd c141 (by omega)) (fun c141 => ?_)
        refine zr_iload (pc := 144) S dX12_lacks_144 rfl ?_
        refine zr_iconst (pc := 146) S dX12_lacks_146 (by unfold zrI; omega) ?_
        refine zr_iadd (pc := 147) S dX12_lacks_147 (by unfold zrI; omega) ?_
        refine zr_goto (pc := 148) (tgt := 152) S dX12_lacks_148 (by decide) ?_
        refine zr_istore (pc := 152) S dX12_lacks_152 (by decide) ?_
        dsimp only [zst1, zst2, zset, zget, zlong]
        refine zr_iload (pc := 154) S dX12_lacks_154 rfl ?_
        refine zr_iload (pc := 156) S dX12_lacks_156 rfl ?_
        refine zr_mmax (pc := 158) S kX12_lacks_123 dX12_lacks_158 (Nat.le_of_ble_eq_true rfl) (Nat.le_of_ble_eq_true rfl) ⟨Nat.le_of_ble_eq_true rfl, Nat.le_of_ble_eq_true rfl⟩ ?_
        refine zr_istore (pc := 161) S dX12_lacks_161 (by decide) ?_
        dsimp only [zst1, zst2, zset, zget, zlong]
        refine zr_iinc (pc := 163) S dX12_lacks_163 rfl (by unfold zrI; omega) (by decide) ?_
        dsimp only [zst1, zst2, zset, zget, zlong]
        refine zr_goto (pc := 166) (tgt := 62) S dX12_lacks_166 (by decide) ?_
        exact l _
def sp_X12_lacks (as : List zV) (M : zM) (Q : Option zV → zM → Prop) : Prop := ∃ (B g w : Int), as = [zR 180, zI g, zI w] ∧ (0 ≤ M 181 2 ∧ M 181 2 ≤ 6) ∧ (ICs (vm M)) ∧ (ICb (vm M)) ∧ (ICt B (vm M)) ∧ (ICe (vm M)) ∧ ((0 ≤ g ∧ g < M 181 2) → (0 ≤ w ∧ w ≤ 2) → ∀ M', offY (tz M 0) M' → Q (some (zI (lackA (vm M) g w))) M') ∧ (¬ (0 ≤ g ∧ g < M 181 2) → Q (some (zI 0)) (tz (tz M 0) 1)) ∧ ((0 ≤ g ∧ g < M 181 2) → ¬ (0 ≤ w ∧ w ≤ 2) → Q (some (zI 0)) (tz (tz M 0) 2))
theorem us_X12_lacks {B g w : Int} {M : zM} {Q : Option zV → zM → Prop} (h0 : 0 ≤ M 181 2 ∧ M 181 2 ≤ 6) (hs : ICs (vm M)) (hb : ICb (vm M)) (ht : ICt B (vm M)) (he : ICe (vm M)) (hQ : (0 ≤ g ∧ g < M 181 2) → (0 ≤ w ∧ w ≤ 2) → ∀ M', offY (tz M 0) M' → Q (some (zI (lackA (vm M) g w))) M') (hT : ¬ (0 ≤ g ∧ g < M 181 2) → Q (some (zI 0)) (tz (tz M 0) 1)) (hU : (0 ≤ g ∧ g < M 181 2) → ¬ (0 ≤ w ∧ w ≤ 2) → Q (some (zI 0)) (tz (tz M 0) 2)) : sp_X12_lacks [zR 180, zI g, zI w] M Q := ⟨B, g, w, rfl, h0, hs, hb, ht, he, hQ, hT, hU⟩
set_option maxRecDepth 20000 in
set_option maxHeartbeats 4000000 in
theorem m_X12_lacks (l : Launch) : zC l yX12_lacks wzX12_lacks rmX12_lacks sp_X12_lacks := by
  refine zMet.of RX12 (by decide +kernel) rfl rfl ?_
  intro E X as M Qp hX S hsp
  obtain ⟨B, g, w, rfl, h0, hs, hb, ht, he, hQ, hT, hU⟩ := hsp
  refine ⟨Nat.le_of_ble_eq_true rfl, ?_⟩
  dsimp only [zpad, zargs]
  have et : tz M 0 181 = M 181 := zup_o _ (by decide)
  have t8 : 0 ≤ M 181 0 ∧ M 181 0 ≤ 8 := hs.1
  have key : (0 ≤ g ∧ g < M 181 2) → (0 ≤ w ∧ w ≤ 2) → ∀ H : Nat → Int, (∀ k, k < 8 → H k = vm (tz M 0) 19 k) → zK (zg E) rmX12_lacks 9 (Qp, 0, 0) X (0, 0) 41 [some (zR 180), some (zI g), some (zI w), none, none, none, none, none, none] [] (zrow (tz M 0) 189 H) := by
    intro c1 c2 H hH
    have f := hQ c1 c2
    have eP : vm M 29 g.toNat = M 181 (351 + g.toNat) := if_pos (by omega)
    have pr := hb.2.1 g.toNat (by omega)
    have oy : offY (tz M 0) (zrow (tz M 0) 189 H) := (offY.rf _).scr H (by decide)
    have aN : AG (vm M) (vm (zrow (tz M 0) 189 H)) := fun k hk => (oy.ag k hk).trans (tz_ag M 0 k hk)
    have eH : ∀ k, k < 8 → zrow (tz M 0) 189 H 189 k = vm M 19 k := fun k hk => by rw [zrow_e, hH k hk, tz_ag M 0 19 (by decide)]
    have c20 : ∀ i, i < 8 → capT (vm M) i ≤ 20 := fun i hi => (capT_r ht i hi).1
    have hh : ∀ k, k < 8 → 0 ≤ zrow (tz M 0) 189 H 189 k ∧ zrow (tz M 0) 189 H 189 k ≤ 20 := fun k hk => by
      rw [eH k hk]
      have := ht.2.2.1 k hk
      omega
    have kk : ∀ F : Nat → Int, FWok (zrow (tz M 0) 189 H) F 200 8 → zK (zg E) rmX12_lacks 9 (Qp, 0, 0) X (0, 0) 48 [some (zR 180), some (zI g), some (zI w), none, none, none, none, none, none] [] (FM (zrow (tz M 0) 189 H) F) := by
      intro F hF
      have o2 : offY (tz M 0) (FM (zrow (tz M 0) 189 H) F) := oy.scr F (by decide)
      have q := f _ o2
      have l := fun u8 => lk1 (E := E) (X := X) (Qp := Qp) (N := FM (zrow (tz M 0) 189 H) F) (p := hasC (capT (vm M)) (val (vm M))) (fw := fun n => fwD (capT (vm M)) (vW (vm M)) 8 n) (g := g) (w := w) (pr := vm M 29 g.toNat) S (by omega) (by rw [o2 181 (by decide), et, eP, show (351 + g).toNat = 351 + g.toNat by omega]) pr c2 (fun n hn => by
        have gc := (gvc (s := n) aN eH).1
        refine ⟨?_, fwD_r _ _ _ _, ?_⟩
        · rw [FM_e]
          have := hF 8 (by omega) n hn
          rw [show 4801 * (8 - 8) + n = n by omega] at this
          rw [this, gc]
        · rw [hasC_fw c20]
          split
          · rename_i z; exact ⟨fun y => absurd y (by decide), fun y => absurd z y⟩
          · rename_i z; exact ⟨fun _ => z, fun _ => rfl⟩) (by unfold lackA at q; exact q) 201 0 u8 (by omega)
      refine zr_iconst (pc := 48) S dX12_lacks_48 (by unfold zrI; omega) ?_
      refine zr_istore_n (pc := 49) S 3 dX12_lacks_49 rfl (by decide) ?_
      dsimp only [zst1, zst2, zset, zget, zlong]
      refine zr_iconst (pc := 50) S dX12_lacks_50 (by unfold zrI; omega) ?_
      refine zr_istore (pc := 51) S dX12_lacks_51 (by decide) ?_
      dsimp only [zst1, zst2, zset, zget, zlong]
      refine zr_iconst (pc := 53) S dX12_lacks_53 (by unfold zrI; omega) ?_
      refine zr_istore (pc := 54) S dX12_lacks_54 (by decide) ?_
      dsimp only [zst1, zst2, zset, zget, zlong]
      refine zr_iconst (pc := 56) S dX12_lacks_56 (by unfold zrI; omega) ?_
      refine zr_istore (pc := 57) S dX12_lacks_57 (by decide) ?_
      dsimp only [zst1, zst2, zset, zget, zlong]
      refine zr_iconst (pc := 59) S dX12_lacks_59 (by unfold zrI; omega) ?_
      refine zr_istore (pc := 60) S dX12_lacks_60 (by decide) ?_
      dsimp only [zst1, zst2, zset, zget, zlong]
      exact l _
    refine zr_aload_n (pc := 41) S dX12_lacks_41 rfl ?_
    refine zr_sipush (pc := 42) S dX12_lacks_42 ⟨by unfold zrI; omega, by decide⟩ ?_
    refine zr_invV (pc := 45) S [zI _] (m_X12_layChange _) kX12_lacks_305 dX12_lacks_45 rfl (Nat.le_of_ble_eq_true rfl) rfl (Nat.le_of_ble_eq_true rfl) ⟨Nat.le_of_ble_eq_true rfl, Nat.le_of_ble_eq_true rfl⟩ (us_X12_layChange (top := 200) (by decide) (aN.s hs) hh ?_)
    dsimp only [zaft, Option.toList, List.cons_append, List.nil_append, Nat.add_zero]
    intro F hF
    exact kk F hF
  refine zr_aload_n (pc := 0) S dX12_lacks_0 rfl ?_
  refine zr_iconst (pc := 1) S dX12_lacks_1 (by unfold zrI; omega) ?_
  refine zr_putI (pc := 2) S pX12_lacks_80 dX12_lacks_2 rfl (Nat.le_of_ble_eq_true rfl) rfl ?_
  refine zr_aload_n (pc := 5) S dX12_lacks_5 rfl ?_
  refine zr_iload_n (pc := 6) S dX12_lacks_6 rfl ?_
  refine zr_invV (pc := 7) S [zI _] (m_X12_isOffer _) kX12_lacks_290 dX12_lacks_7 rfl (Nat.le_of_ble_eq_true rfl) rfl (Nat.le_of_ble_eq_true rfl) ⟨Nat.le_of_ble_eq_true rfl, Nat.le_of_ble_eq_true rfl⟩ (us_X12_isOffer h0.1 ?_)
  dsimp only [zaft, Option.toList, List.cons_append, List.nil_append, Nat.add_zero]
  refine zr_if_ne (pc := 10) (tgt := 19) S dX12_lacks_10 (by decide) (fun c10 => ?_) (fun c10 => ?_)
  · rw [b01_0, Classical.not_not] at c10
    have c10' : 0 ≤ g ∧ g ≤ M 181 2 - 1 := c10
    refine zr_iload_n (pc := 19) S dX12_lacks_19 rfl ?_
    refine zr_i2l (pc := 20) S dX12_lacks_20 ?_
    refine zr_lconst0 (pc := 21) S dX12_lacks_21 ?_
    refine zr_ldc2 (pc := 22) S (2) dX12_lacks_22 (List.mem_cons_of_mem _ (zWi_7 _ (List.mem_of_getElem? (i := 20) rfl))) (by unfold zrL; omega) ?_
    refine zr_invS (pc := 25) S [zL _, zL _, zL _] (m_X12_within _) kX12_lacks_83 dX12_lacks_25 (Nat.le_of_ble_eq_true rfl) ⟨Nat.le_of_ble_eq_true rfl, Nat.le_of_ble_eq_true rfl⟩ (us_X12_within ?_)
    dsimp only [zaft, Option.toList, List.cons_append, List.nil_append, Nat.add_zero]
    refine zr_if_ne (pc := 28) (tgt := 37) S dX12_lacks_28 (by decide) (fun c28 => ?_) (fun c28 => ?_)
    · rw [b01_0, Classical.not_not] at c28
      refine zr_aload_n (pc := 37) S dX12_lacks_37 rfl ?_
      refine zr_invV (pc := 38) S [] (m_X12_haveTubes _) kX12_lacks_318 dX12_lacks_38 rfl (Nat.le_of_ble_eq_true rfl) rfl (Nat.le_of_ble_eq_true rfl) ⟨Nat.le_of_ble_eq_true rfl, Nat.le_of_ble_eq_true rfl⟩ (us_X12_haveTubes ((tz_ag M 0).e he) t8 ?_)
      dsimp only [zaft, Option.toList, List.cons_append, List.nil_append, Nat.add_zero]
      intro H hH
      exact key (by omega) c28 H hH
    · rw [b01_0] at c28
      have f := hU (by omega) c28
      refine zr_aload_n (pc := 31) S dX12_lacks_31 rfl ?_
      refine zr_iconst (pc := 32) S dX12_lacks_32 (by unfold zrI; omega) ?_
      refine zr_invV (pc := 33) S [zI _] (m_X12_fails _) kX12_lacks_95 dX12_lacks_33 rfl (Nat.le_of_ble_eq_true rfl) rfl (Nat.le_of_ble_eq_true rfl) ⟨Nat.le_of_ble_eq_true rfl, Nat.le_of_ble_eq_true rfl⟩ (us_X12_fails ?_)
      dsimp only [zaft, Option.toList, List.cons_append, List.nil_append, Nat.add_zero]
      exact zr_iret (pc := 36) S dX12_lacks_36 rfl ⟨Nat.le_refl _, Nat.le_refl _⟩ (f)
  · rw [b01_0] at c10
    have f := hT (fun z => c10 (by show _ ∧ _ ≤ M 181 2 - 1; omega))
    refine zr_aload_n (pc := 13) S dX12_lacks_13 rfl ?_
    refine zr_iconst (pc := 14) S dX12_lacks_14 (by unfold zrI; omega) ?_
    refine zr_invV (pc := 15) S [zI _] (m_X12_fails _) kX12_lacks_95 dX12_lacks_15 rfl (Nat.le_of_ble_eq_true rfl) rfl (Nat.le_of_ble_eq_true rfl) ⟨Nat.le_of_ble_eq_true rfl, Nat.le_of_ble_eq_true rfl⟩ (us_X12_fails ?_)
    dsimp only [zaft, Option.toList, List.cons_append, List.nil_append, Nat.add_zero]
    exact zr_iret (pc := 18) S dX12_lacks_18 rfl ⟨Nat.le_refl _, Nat.le_refl _⟩ (f)
end
