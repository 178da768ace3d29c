section
theorem fi2 {E : zE} {X : zX} {Qp : Option zV → zM → Prop} {M V : zM} {e d day h c dry : Nat} (S : zS (zg E) X cX12_fills 8 wzX12_fills RX12 none) (IH : zC X.2.1 yX12_fills wzX12_fills (rmX12_fills e) (sp_X12_fills e)) (he : d ≤ e) (hdh : d + 1 + day = h) (h8 : h ≤ 8) (hF : FP V M) (hr : rowL V M day c) (hdr : dry ≤ 4 * day) (hB : M 180 31 = -1 ∨ 0 ≤ M 180 31)
    (hQ : ∀ M', ffo M M' day → FR V (M 180 31) (M 196) (M 195) (d + 1) c day h dry (M' 180 31) (M' 196) → Qp none M') : ∀ (r m : Nat) (U : zM) (u5 u6 u7 : Option zV), r + m = nM V → ffo M U day → FI V (M 180 31) (M 196) (M 195) d c day h dry m (U 180 31) (U 196) → zK (zg E) (rmX12_fills (e + 1)) 8 (Qp, 0, 0) X (0, 0) 60 [some (zR 180), some (zI day), some (zI h), some (zI dry), some (zI m), u5, u6, u7] [] U := by
  have h4 : nM V ≤ 4 := by have := hF.2.1.1; unfold nM; omega
  have h63 : ∀ i, dryW V d c i < 63 := fun i => by have := dryW_r hF.2.1 hF.2.2.1 d c i; omega
  intro r
  induction r with
  | zero =>
    intro m U u5 u6 u7 hm hU hI
    obtain rfl : m = nM V := by omega
    have e5 : U 181 5 = nM V := (hF.o hU).2.2.2
    have q := hQ U hU (FI_e hF.2.1 hF.2.2.1 (by omega) hI)
    refine zr_iload (pc := 60) S dX12_fills_60 rfl ?_
    refine zr_aload_n (pc := 62) S dX12_fills_62 rfl ?_
    refine zr_getR (pc := 63) S fX12_fills_9 dX12_fills_63 rfl (Nat.le_of_ble_eq_true rfl) rfl ?_
    refine zr_iconst (pc := 66) S dX12_fills_66 (by unfold zrI; omega) ?_
    refine zr_iaload (pc := 67) S dX12_fills_67 rfl (Nat.le_of_ble_eq_true rfl) (by omega) (by omega) ?_
    dsimp only [Int.reduceToNat]
    rw [e5]
    refine zr_icmp_ge (pc := 68) (tgt := 194) S dX12_fills_68 (by decide) (fun c68 => ?_) (fun c68 => absurd c68 (by omega))
    exact zr_vret (pc := 194) S dX12_fills_194 rfl ⟨Nat.le_refl _, Nat.le_refl _⟩ (q)
  | succ r ih =>
    intro m U u5 u6 u7 hm hU hI
    have hFU := hF.o hU
    have e5 : U 181 5 = nM V := hFU.2.2.2
    have hrU := hr.o h4 hU
    have bU : U 180 31 = -1 ∨ 0 ≤ U 180 31 := by
      rcases hI with ⟨_, _, i3, _⟩ | ⟨_, i3, _⟩
      · right; rw [i3]; omega
      · rw [i3]; exact hB
    have dr := dr_r V c m (nM V)
    have l3 := fun u7 => fi3 (E := E) (X := X) (Qp := Qp) (U := U) (V := V) (e := e + 1) (day := day) (h := h) (c := c) (dry := dry) (m := m) S hFU hrU (by omega) (by omega) (fun L u7 h1 h2 => by
      have o1 : ffo U (zup (zrow U 197 L) 195 day m) day := ⟨fun k _ k2 _ k4 => by rw [zup_o k k2, zrow_o k4], fun j _ => by rw [zup_o _ (by decide), zrow_o (by decide)], fun k hk => by rw [zup_j (by omega), zrow_o (by decide)], fun j hj => by rw [zup_o _ (by decide), zrow_e, h1 j hj]⟩
      have f1 : zup (zrow U 197 L) 195 day m 195 day = m := zup_e
      have b1 : zup (zrow U 197 L) 195 day m 196 = U 196 := by rw [zup_o _ (by decide), zrow_o (by decide)]
      have d1 : zup (zrow U 197 L) 195 day m 180 31 = U 180 31 := by rw [zup_o _ (by decide), zrow_o (by decide)]
      have hr1 : rowL V (zup (zrow U 197 L) 195 day m) (day + 1) (nxU V c m (nM V)) := fun k hk => by
        rw [zup_o _ (by decide), zrow_e, h2 k hk, nx_dig hF.2.1 c m h4 hk]
      have ed : (day : Int).toNat = day := Int.toNat_natCast day
      have ec : ((day + 1 : Nat) : Int) = (day : Int) + 1 := by omega
      have ec2 : ((dry + drU V c m (nM V) : Nat) : Int) = (dry : Int) + (drU V c m (nM V) : Nat) := by omega
      have k188 : ∀ M3, ffo (zup (zrow U 197 L) 195 day m) M3 (day + 1) → FR V (U 180 31) (U 196) (zup (zrow U 197 L) 195 day m 195) d (nxU V c m (nM V)) (day + 1) h (dry + drU V c m (nM V)) (M3 180 31) (M3 196) → zK (zg E) (rmX12_fills (e + 1)) 8 (Qp, 0, 0) X (0, 0) 188 [some (zR 180), some (zI day), some (zI h), some (zI dry), some (zI m), some (zI (drU V c m (nM V) : Nat)), some (zI (nM V : Nat)), u7] [] M3 := by
        intro M3 o3 f3
        have o13 := o1.tr (o3.w (by omega))
        have l := ih (m + 1) M3 (some (zI (drU V c m (nM V) : Nat))) (some (zI (nM V : Nat))) u7 (by omega) (hU.tr o13) (FI_s h63 hI (fun k hk => by rw [o1.2.2.1 k hk, hU.2.2.1 k hk]) f1 f3 hB)
        rw [Int.natCast_add, Int.natCast_one] at l
        refine zr_iinc (pc := 188) S dX12_fills_188 rfl (by unfold zrI; omega) (by decide) ?_
        dsimp only [zst1, zst2, zset, zget, zlong]
        refine zr_goto (pc := 191) (tgt := 60) S dX12_fills_191 (by decide) ?_
        exact l
      refine zr_aload_n (pc := 168) S dX12_fills_168 rfl ?_
      refine zr_getR (pc := 169) S fX12_fills_62 dX12_fills_169 rfl (Nat.le_of_ble_eq_true rfl) rfl ?_
      refine zr_iload_n (pc := 172) S dX12_fills_172 rfl ?_
      refine zr_iload (pc := 173) S dX12_fills_173 rfl ?_
      refine zr_iastore (pc := 175) S dX12_fills_175 rfl (Nat.le_of_ble_eq_true rfl) (by omega) (by omega) ?_
      rw [ed]
      refine zr_aload_n (pc := 176) S dX12_fills_176 rfl ?_
      refine zr_iload_n (pc := 177) S dX12_fills_177 rfl ?_
      refine zr_iconst (pc := 178) S dX12_fills_178 (by unfold zrI; omega) ?_
      refine zr_iadd (pc := 179) S dX12_fills_179 (by unfold zrI; omega) ?_
      refine zr_iload_n (pc := 180) S dX12_fills_180 rfl ?_
      refine zr_iload_n (pc := 181) S dX12_fills_181 rfl ?_
      refine zr_iload (pc := 182) S dX12_fills_182 rfl ?_
      refine zr_iadd (pc := 184) S dX12_fills_184 (by unfold zrI; omega) ?_
      refine zr_invV (pc := 185) S [zI _, zI _, zI _] IH (kX12_fills_365 (e)) dX12_fills_185 rfl (Nat.le_of_ble_eq_true rfl) rfl (Nat.le_of_ble_eq_true rfl) ⟨Nat.le_of_ble_eq_true rfl, Nat.le_of_ble_eq_true rfl⟩ (us_X12_fills (d := d) (day := day + 1) (h := h) (c := nxU V c m (nM V)) (dry := dry + drU V c m (nM V)) (V := V) he (by omega) h8 (hFU.o o1) hr1 (by omega) (by rw [d1]; exact bU) ?_)
      dsimp only [zaft, Option.toList, List.cons_append, List.nil_append, Nat.add_zero]
      intro M3 o3 f3
      rw [d1, b1] at f3
      exact k188 M3 o3 f3) (nM V) 0 (U 197) u7 (by omega) (fun _ _ => rfl) (fun k hk => absurd hk (by omega))
    rw [zrow_s] at l3
    refine zr_iload (pc := 60) S dX12_fills_60 rfl ?_
    refine zr_aload_n (pc := 62) S dX12_fills_62 rfl ?_
    refine zr_getR (pc := 63) S fX12_fills_9 dX12_fills_63 rfl (Nat.le_of_ble_eq_true rfl) rfl ?_
    refine zr_iconst (pc := 66) S dX12_fills_66 (by unfold zrI; omega) ?_
    refine zr_iaload (pc := 67) S dX12_fills_67 rfl (Nat.le_of_ble_eq_true rfl) (by omega) (by omega) ?_
    dsimp only [Int.reduceToNat]
    rw [e5]
    refine zr_icmp_ge (pc := 68) (tgt := 194) S dX12_fills_68 (by decide) (fun c68 => absurd c68 (by omega)) (fun c68 => ?_)
    refine zr_iconst (pc := 71) S dX12_fills_71 (by unfold zrI; omega) ?_
    refine zr_istore (pc := 72) S dX12_fills_72 (by decide) ?_
    dsimp only [zst1, zst2, zset, zget, zlong]
    refine zr_iconst (pc := 74) S dX12_fills_74 (by unfold zrI; omega) ?_
    refine zr_istore (pc := 75) S dX12_fills_75 (by decide) ?_
    dsimp only [zst1, zst2, zset, zget, zlong]
    exact l3 _
theorem fi1 {E : zE} {X : zX} {Qp : Option zV → zM → Prop} {M V : zM} {e d day h c dry : Nat} (S : zS (zg E) X cX12_fills 8 wzX12_fills RX12 none) (hdh : d + day = h) (h8 : h ≤ 8)
    (hQ : ∀ M', ffo M M' day → FR V (M 180 31) (M 196) (M 195) d c day h dry (M' 180 31) (M' 196) → Qp none M')
    (k : ¬ d = 0 → zK (zg E) (rmX12_fills e) 8 (Qp, 0, 0) X (0, 0) 57 [some (zR 180), some (zI day), some (zI h), some (zI dry), none, none, none, none] [] M) : zK (zg E) (rmX12_fills e) 8 (Qp, 0, 0) X (0, 0) 0 [some (zR 180), some (zI day), some (zI h), some (zI dry), none, none, none, none] [] M := by
  have k17 : (M 180 31 = -1 ∨ (dry : Int) < M 180 31) → zK (zg E) (rmX12_fills e) 8 (Qp, 0, 0) X (0, 0) 17 [some (zR 180), some (zI day), some (zI h), some (zI dry), none, none, none, none] [] M := by
    intro hi
    by_cases d0 : d = 0
    · subst d0
      have l := fun u5 u6 u7 => fi4 (E := E) (X := X) (Qp := Qp) (M := zup M 180 31 dry) (e := e) (h := h) (day := day) (dry := dry) (u5 := u5) (u6 := u6) (u7 := u7) S h8 (fun G hG => by
        refine hQ _ ⟨fun k k1 _ k3 _ => by rw [zrow_o k3, zup_o k k1], fun j hj => by rw [zrow_o (by decide), zup_j hj], fun k hk => by rw [zrow_o (by decide), zup_o _ (by decide)], fun j hj => by rw [zrow_o (by decide), zup_o _ (by decide)]⟩ (Or.inl ⟨?_, ?_, fun k hk => ?_⟩)
        · show _ ∨ (dry : Int) + ((0 : Nat) : Int) < _
          omega
        · rw [zrow_o (by decide), zup_e]
          show _ = (dry : Int) + ((0 : Nat) : Int)
          omega
        · rw [zrow_e, hG k hk, zup_o _ (by decide), if_pos (by omega)]) h 0 (zup M 180 31 dry 196) (by omega) (fun k hk => absurd hk (by omega))
      rw [zrow_s] at l
      refine zr_iload_n (pc := 17) S dX12_fills_17 rfl ?_
      refine zr_iload_n (pc := 18) S dX12_fills_18 rfl ?_
      refine zr_icmp_ne (pc := 19) (tgt := 57) S dX12_fills_19 (by decide) (fun c19 => absurd c19 (by omega)) (fun c19 => ?_)
      refine zr_aload_n (pc := 22) S dX12_fills_22 rfl ?_
      refine zr_iload_n (pc := 23) S dX12_fills_23 rfl ?_
      refine zr_putI (pc := 24) S pX12_fills_362 dX12_fills_24 rfl (Nat.le_of_ble_eq_true rfl) rfl ?_
      refine zr_iconst (pc := 27) S dX12_fills_27 (by unfold zrI; omega) ?_
      refine zr_istore (pc := 28) S dX12_fills_28 (by decide) ?_
      dsimp only [zst1, zst2, zset, zget, zlong]
      exact l _ _ _
    · have kk := k d0
      refine zr_iload_n (pc := 17) S dX12_fills_17 rfl ?_
      refine zr_iload_n (pc := 18) S dX12_fills_18 rfl ?_
      refine zr_icmp_ne (pc := 19) (tgt := 57) S dX12_fills_19 (by decide) (fun c19 => ?_) (fun c19 => absurd c19 (by omega))
      exact kk
  have q : ¬ (M 180 31 = -1 ∨ (dry : Int) < M 180 31) → Qp none M := fun z => hQ M (ffo.rf M day) (Or.inr ⟨fun y => z (by omega), rfl, fun _ _ => rfl⟩)
  refine zr_aload_n (pc := 0) S dX12_fills_0 rfl ?_
  refine zr_getI (pc := 1) S fX12_fills_362 dX12_fills_1 rfl (Nat.le_of_ble_eq_true rfl) rfl ?_
  refine zr_iconst (pc := 4) S dX12_fills_4 (by unfold zrI; omega) ?_
  refine zr_icmp_eq (pc := 5) (tgt := 17) S dX12_fills_5 (by decide) (fun c5 => ?_) (fun c5 => ?_)
  · exact k17 (by omega)
  · refine zr_iload_n (pc := 8) S dX12_fills_8 rfl ?_
    refine zr_aload_n (pc := 9) S dX12_fills_9 rfl ?_
    refine zr_getI (pc := 10) S fX12_fills_362 dX12_fills_10 rfl (Nat.le_of_ble_eq_true rfl) rfl ?_
    refine zr_icmp_lt (pc := 13) (tgt := 17) S dX12_fills_13 (by decide) (fun c13 => ?_) (fun c13 => ?_)
    · exact k17 (by omega)
    · exact zr_vret (pc := 16) S dX12_fills_16 rfl ⟨Nat.le_refl _, Nat.le_refl _⟩ (q (by omega))
theorem m_X12_fills (l : Launch) : ∀ e, zC l yX12_fills wzX12_fills (rmX12_fills e) (sp_X12_fills e) := by
  intro e
  induction e with
  | zero =>
    refine zMet.of RX12 (by decide +kernel) rfl rfl ?_
    intro E X as M Qp hX S hsp
    obtain ⟨d, day, h, c, dry, V, rfl, h1, h2, h3, hF, hr, hd, hB, hQ⟩ := hsp
    refine ⟨Nat.le_of_ble_eq_true rfl, ?_⟩
    dsimp only [zpad, zargs]
    exact fi1 S h2 h3 hQ (fun z => absurd z (by omega))
  | succ e ih =>
    refine zMet.of RX12 (by decide +kernel) rfl rfl ?_
    intro E X as M Qp hX S hsp
    obtain ⟨d, day, h, c, dry, V, rfl, h1, h2, h3, hF, hr, hd, hB, hQ⟩ := hsp
    refine ⟨Nat.le_of_ble_eq_true rfl, ?_⟩
    dsimp only [zpad, zargs]
    have IH : zC X.2.1 yX12_fills wzX12_fills (rmX12_fills e) (sp_X12_fills e) := by rw [hX]; exact ih
    refine fi1 S h2 h3 hQ (fun z => ?_)
    obtain ⟨d, rfl⟩ : ∃ k, d = k + 1 := ⟨d - 1, by omega⟩
    have l := fun u5 u6 u7 => fi2 (E := E) (X := X) (Qp := Qp) (M := M) (V := V) (e := e) (d := d) (day := day) (h := h) (c := c) (dry := dry) S IH (by omega) h2 h3 hF hr hd hB hQ (nM V) 0 M u5 u6 u7 (by omega) (ffo.rf M day) FI_0
    refine zr_iconst (pc := 57) S dX12_fills_57 (by unfold zrI; omega) ?_
    refine zr_istore (pc := 58) S dX12_fills_58 (by decide) ?_
    dsimp only [zst1, zst2, zset, zget, zlong]
    exact l _ _ _
end
