section
def sp_X11_made (as : List zV) (M : zM) (Q : Option zV → zM → Prop) : Prop := ∃ (p : Int), as = [zR 0, zI p] ∧ (ICs M) ∧ ((1 ≤ p ∧ p ≤ 1000) → ∀ M', offX M M' → Q (some (zI (mdS M p.toNat (1001 - p.toNat)))) M') ∧ (¬ (1 ≤ p ∧ p ≤ 1000) → Q (some (zR 3001)) M)
theorem us_X11_made {p : Int} {M : zM} {Q : Option zV → zM → Prop} (hs : ICs M) (hQ : (1 ≤ p ∧ p ≤ 1000) → ∀ M', offX M M' → Q (some (zI (mdS M p.toNat (1001 - p.toNat)))) M') (hT : ¬ (1 ≤ p ∧ p ≤ 1000) → Q (some (zR 3001)) M) : sp_X11_made [zR 0, zI p] M Q := ⟨p, rfl, hs, hQ, hT⟩
set_option maxRecDepth 20000 in
set_option maxHeartbeats 4000000 in
theorem m_X11_made (l : Launch) : zCx l yX11_made wzX11_made rmX11_made 1 sp_X11_made := by
  refine zMet.of RX11 (by decide +kernel) rfl rfl ?_
  intro E X as M Qp hX S hsp
  obtain ⟨p, rfl, hs, hQ, hT⟩ := hsp
  refine ⟨Nat.le_of_ble_eq_true rfl, ?_⟩
  dsimp only [zpad, zargs]
  by_cases hp : 0 ≤ p
  · obtain ⟨n, rfl⟩ : ∃ n : Nat, p = n := ⟨p.toNat, by omega⟩
    refine zr_iload_n (pc := 0) S dX11_made_0 rfl ?_
    refine zr_i2l (pc := 1) S dX11_made_1 ?_
    refine zr_lconst1 (pc := 2) S dX11_made_2 ?_
    refine zr_ldc2 (pc := 3) S (1000) dX11_made_3 (List.mem_cons_of_mem _ (zWi_7 _ (List.mem_of_getElem? (i := 10) rfl))) (by unfold zrL; omega) ?_
    refine zr_invS (pc := 6) S [zL _, zL _, zL _] (m_X11_within _) kX11_made_93 dX11_made_6 (Nat.le_of_ble_eq_true rfl) ⟨Nat.le_of_ble_eq_true rfl, Nat.le_of_ble_eq_true rfl⟩ (us_X11_within ?_)
    dsimp only [zaft, Option.toList, List.cons_append, List.nil_append, Nat.add_zero]
    refine zr_invS (pc := 9) S [zI _] (m_X11_need _) kX11_made_97 dX11_made_9 (Nat.le_of_ble_eq_true rfl) ⟨Nat.le_of_ble_eq_true rfl, Nat.le_of_ble_eq_true rfl⟩ (us_X11_need (fun c9 => ?_) (fun c9 => zaft_thr (by omega) ⟨Nat.le_of_ble_eq_true rfl, Nat.le_of_ble_eq_true rfl⟩ (hT (b01_0.mp c9))))
    dsimp only [zaft, Option.toList, List.cons_append, List.nil_append, Nat.add_zero]
    rw [b01_0, Classical.not_not] at c9
    refine zr_aload_n (pc := 12) S dX11_made_12 rfl ?_
    refine zr_getR (pc := 13) S fX11_made_59 dX11_made_13 rfl (Nat.le_of_ble_eq_true rfl) rfl ?_
    refine zr_iload_n (pc := 16) S dX11_made_16 rfl ?_
    refine zr_invV (pc := 17) S [zI _] (m_X0_madeFrom _) kX11_made_337 dX11_made_17 rfl (Nat.le_of_ble_eq_true rfl) rfl (Nat.le_of_ble_eq_true rfl) ⟨Nat.le_of_ble_eq_true rfl, Nat.le_of_ble_eq_true rfl⟩ (us_X0_madeFrom hs (by omega) (by omega) ?_)
    dsimp only [zaft, Option.toList, List.cons_append, List.nil_append, Nat.add_zero]
    rintro r N ⟨rfl, hN⟩
    dsimp only [zaft, Option.toList, List.nil_append]
    exact zr_iret (pc := 20) S dX11_made_20 rfl ⟨Nat.le_of_ble_eq_true rfl, Nat.le_of_ble_eq_true rfl⟩ (hQ c9 _ (fun k hk => hN k (by omega)))
  · refine zr_iload_n (pc := 0) S dX11_made_0 rfl ?_
    refine zr_i2l (pc := 1) S dX11_made_1 ?_
    refine zr_lconst1 (pc := 2) S dX11_made_2 ?_
    refine zr_ldc2 (pc := 3) S (1000) dX11_made_3 (List.mem_cons_of_mem _ (zWi_7 _ (List.mem_of_getElem? (i := 10) rfl))) (by unfold zrL; omega) ?_
    refine zr_invS (pc := 6) S [zL _, zL _, zL _] (m_X11_within _) kX11_made_93 dX11_made_6 (Nat.le_of_ble_eq_true rfl) ⟨Nat.le_of_ble_eq_true rfl, Nat.le_of_ble_eq_true rfl⟩ (us_X11_within ?_)
    dsimp only [zaft, Option.toList, List.cons_append, List.nil_append, Nat.add_zero]
    refine zr_invS (pc := 9) S [zI _] (m_X11_need _) kX11_made_97 dX11_made_9 (Nat.le_of_ble_eq_true rfl) ⟨Nat.le_of_ble_eq_true rfl, Nat.le_of_ble_eq_true rfl⟩ (us_X11_need (fun c9 => ?_) (fun c9 => zaft_thr (by omega) ⟨Nat.le_of_ble_eq_true rfl, Nat.le_of_ble_eq_true rfl⟩ (hT (b01_0.mp c9))))
    dsimp only [zaft, Option.toList, List.cons_append, List.nil_append, Nat.add_zero]
    rw [b01_0, Classical.not_not] at c9
    exact absurd c9.1 (by omega)
    
def sp_X11_explain (as : List zV) (M : zM) (Q : Option zV → zM → Prop) : Prop := ∃ (B w : Int), as = [zR 0, zI w] ∧ (ICg M) ∧ (ICs M) ∧ (ICt B M) ∧ (0 ≤ B) ∧ (B ≤ 13000) ∧ (∀ i : Nat, i < 4 → 0 ≤ M 23 i ∧ M 23 i ≤ 999) ∧ ((0 ≤ w ∧ w ≤ 2) → ∀ M', offX M M' → Q (some (zI (if w = 0 then costW M else if w = 1 then fewW M else manyW M))) M') ∧ (¬ (0 ≤ w ∧ w ≤ 2) → Q (some (zR 3001)) M)
theorem us_X11_explain {B w : Int} {M : zM} {Q : Option zV → zM → Prop} (hg : ICg M) (hs : ICs M) (ht : ICt B M) (hB0 : 0 ≤ B) (hB : B ≤ 13000) (hc : ∀ i : Nat, i < 4 → 0 ≤ M 23 i ∧ M 23 i ≤ 999) (hQ : (0 ≤ w ∧ w ≤ 2) → ∀ M', offX M M' → Q (some (zI (if w = 0 then costW M else if w = 1 then fewW M else manyW M))) M') (hT : ¬ (0 ≤ w ∧ w ≤ 2) → Q (some (zR 3001)) M) : sp_X11_explain [zR 0, zI w] M Q := ⟨B, w, rfl, hg, hs, ht, hB0, hB, hc, hQ, hT⟩
set_option maxRecDepth 20000 in
set_option maxHeartbeats 4000000 in
theorem m_X11_explain (l : Launch) : zCx l yX11_explain wzX11_explain rmX11_explain 1 sp_X11_explain := by
  refine zMet.of RX11 (by decide +kernel) rfl rfl ?_
  intro E X as M Qp hX S hsp
  obtain ⟨B, w, rfl, hg, hs, ht, hB0, hB, hc, hQ, hT⟩ := hsp
  refine ⟨Nat.le_of_ble_eq_true rfl, ?_⟩
  dsimp only [zpad, zargs]
  refine zr_iload_n (pc := 0) S dX11_explain_0 rfl ?_
  refine zr_i2l (pc := 1) S dX11_explain_1 ?_
  refine zr_lconst0 (pc := 2) S dX11_explain_2 ?_
  refine zr_ldc2 (pc := 3) S (2) dX11_explain_3 (List.mem_cons_of_mem _ (zWi_7 _ (List.mem_of_getElem? (i := 7) rfl))) (by unfold zrL; omega) ?_
  refine zr_invS (pc := 6) S [zL _, zL _, zL _] (m_X11_within _) kX11_explain_93 dX11_explain_6 (Nat.le_of_ble_eq_true rfl) ⟨Nat.le_of_ble_eq_true rfl, Nat.le_of_ble_eq_true rfl⟩ (us_X11_within ?_)
  dsimp only [zaft, Option.toList, List.cons_append, List.nil_append, Nat.add_zero]
  refine zr_invS (pc := 9) S [zI _] (m_X11_need _) kX11_explain_97 dX11_explain_9 (Nat.le_of_ble_eq_true rfl) ⟨Nat.le_of_ble_eq_true rfl, Nat.le_of_ble_eq_true rfl⟩ (us_X11_need (fun c9 => ?_) (fun c9 => zaft_thr (by omega) ⟨Nat.le_of_ble_eq_true rfl, Nat.le_of_ble_eq_true rfl⟩ (hT (b01_0.mp c9))))
  dsimp only [zaft, Option.toList, List.cons_append, List.nil_append, Nat.add_zero]
  rw [b01_0, Classical.not_not] at c9
  refine zr_aload_n (pc := 12) S dX11_explain_12 rfl ?_
  refine zr_getR (pc := 13) S fX11_explain_68 dX11_explain_13 rfl (Nat.le_of_ble_eq_true rfl) rfl ?_
  refine zr_invV (pc := 16) S [] (m_X3_weigh _) kX11_explain_355 dX11_explain_16 rfl (Nat.le_of_ble_eq_true rfl) rfl (Nat.le_of_ble_eq_true rfl) ⟨Nat.le_of_ble_eq_true rfl, Nat.le_of_ble_eq_true rfl⟩ (us_X3_weigh hg hs ht hB0 hB hc ?_)
  dsimp only [zaft, Option.toList, List.cons_append, List.nil_append, Nat.add_zero]
  rintro r N ⟨rfl, hN, h4, h5, h6⟩
  dsimp only [zaft, Option.toList, List.nil_append]
  have oN : offX M N := fun k hk => hN k (by omega) (by omega) (by omega) (by omega) (by omega) (by omega) (by omega) (by omega)
  refine zr_iload_n (pc := 19) S dX11_explain_19 rfl ?_
  refine zr_if_ne (pc := 20) (tgt := 31) S dX11_explain_20 (by decide) (fun c20 => ?_) (fun c20 => ?_)
  · refine zr_iload_n (pc := 31) S dX11_explain_31 rfl ?_
    refine zr_iconst (pc := 32) S dX11_explain_32 (by unfold zrI; omega) ?_
    refine zr_icmp_ne (pc := 33) (tgt := 46) S dX11_explain_33 (by decide) (fun c33 => ?_) (fun c33 => ?_)
    · refine zr_aload_n (pc := 46) S dX11_explain_46 rfl ?_
      refine zr_getR (pc := 47) S fX11_explain_68 dX11_explain_47 rfl (Nat.le_of_ble_eq_true rfl) rfl ?_
      refine zr_getI (pc := 50) S fX11_explain_364 dX11_explain_50 rfl (Nat.le_of_ble_eq_true rfl) rfl ?_
      rw [h6]
      exact zr_iret (pc := 53) S dX11_explain_53 rfl ⟨Nat.le_of_ble_eq_true rfl, Nat.le_of_ble_eq_true rfl⟩ (zqi (hQ c9 _ oN) (by first | rw [if_pos c20] | rw [if_neg c20, if_pos c33] | rw [if_neg c20, if_neg c33]))
    · refine zr_aload_n (pc := 36) S dX11_explain_36 rfl ?_
      refine zr_getR (pc := 37) S fX11_explain_68 dX11_explain_37 rfl (Nat.le_of_ble_eq_true rfl) rfl ?_
      refine zr_getI (pc := 40) S fX11_explain_361 dX11_explain_40 rfl (Nat.le_of_ble_eq_true rfl) rfl ?_
      rw [h5]
      refine zr_goto (pc := 43) (tgt := 53) S dX11_explain_43 (by decide) ?_
      exact zr_iret (pc := 53) S dX11_explain_53 rfl ⟨Nat.le_of_ble_eq_true rfl, Nat.le_of_ble_eq_true rfl⟩ (zqi (hQ c9 _ oN) (by first | rw [if_pos c20] | rw [if_neg c20, if_pos c33] | rw [if_neg c20, if_neg c33]))
  · refine zr_aload_n (pc := 23) S dX11_explain_23 rfl ?_
    refine zr_getR (pc := 24) S fX11_explain_68 dX11_explain_24 rfl (Nat.le_of_ble_eq_true rfl) rfl ?_
    refine zr_getI (pc := 27) S fX11_explain_358 dX11_explain_27 rfl (Nat.le_of_ble_eq_true rfl) rfl ?_
    rw [h4]
    exact zr_iret (pc := 30) S dX11_explain_30 rfl ⟨Nat.le_of_ble_eq_true rfl, Nat.le_of_ble_eq_true rfl⟩ (zqi (hQ c9 _ oN) (by first | rw [if_pos c20] | rw [if_neg c20, if_pos c33] | rw [if_neg c20, if_neg c33]))
def sp_X11_most (as : List zV) (M : zM) (Q : Option zV → zM → Prop) : Prop := ∃ (B n : Int), as = [zR 0, zI n] ∧ (ICs M) ∧ (ICb M) ∧ (ICt B M) ∧ ((1 ≤ n ∧ n ≤ 3) → ∀ M', offX M M' → Q (some (zL (mostR M n.toNat (nh (M 19) 0)))) M') ∧ (¬ (1 ≤ n ∧ n ≤ 3) → Q (some (zR 3001)) M)
theorem us_X11_most {B n : Int} {M : zM} {Q : Option zV → zM → Prop} (hs : ICs M) (hb : ICb M) (ht : ICt B M) (hQ : (1 ≤ n ∧ n ≤ 3) → ∀ M', offX M M' → Q (some (zL (mostR M n.toNat (nh (M 19) 0)))) M') (hT : ¬ (1 ≤ n ∧ n ≤ 3) → Q (some (zR 3001)) M) : sp_X11_most [zR 0, zI n] M Q := ⟨B, n, rfl, hs, hb, ht, hQ, hT⟩
set_option maxRecDepth 20000 in
set_option maxHeartbeats 4000000 in
theorem m_X11_most (l : Launch) : zCx l yX11_most wzX11_most rmX11_most 1 sp_X11_most := by
  refine zMet.of RX11 (by decide +kernel) rfl rfl ?_
  intro E X as M Qp hX S hsp
  obtain ⟨B, n, rfl, hs, hb, ht, hQ, hT⟩ := hsp
  refine ⟨Nat.le_of_ble_eq_true rfl, ?_⟩
  dsimp only [zpad, zargs]
  by_cases hp : 0 ≤ n
  · obtain ⟨m, rfl⟩ : ∃ m : Nat, n = m := ⟨n.toNat, by omega⟩
    refine zr_iload_n (pc := 0) S dX11_most_0 rfl ?_
    refine zr_i2l (pc := 1) S dX11_most_1 ?_
    refine zr_lconst1 (pc := 2) S dX11_most_2 ?_
    refine zr_ldc2 (pc := 3) S (3) dX11_most_3 (List.mem_cons_of_mem _ (zWi_7 _ (List.mem_of_getElem? (i := 11) rfl))) (by unfold zrL; omega) ?_
    refine zr_invS (pc := 6) S [zL _, zL _, zL _] (m_X11_within _) kX11_most_93 dX11_most_6 (Nat.le_of_ble_eq_true rfl) ⟨Nat.le_of_ble_eq_true rfl, Nat.le_of_ble_eq_true rfl⟩ (us_X11_within ?_)
    dsimp only [zaft, Option.toList, List.cons_append, List.nil_append, Nat.add_zero]
    refine zr_invS (pc := 9) S [zI _] (m_X11_need _) kX11_most_97 dX11_most_9 (Nat.le_of_ble_eq_true rfl) ⟨Nat.le_of_ble_eq_true rfl, Nat.le_of_ble_eq_true rfl⟩ (us_X11_need (fun c9 => ?_) (fun c9 => zaft_thr (by omega) ⟨Nat.le_of_ble_eq_true rfl, Nat.le_of_ble_eq_true rfl⟩ (hT (b01_0.mp c9))))
    dsimp only [zaft, Option.toList, List.cons_append, List.nil_append, Nat.add_zero]
    rw [b01_0, Classical.not_not] at c9
    refine zr_aload_n (pc := 12) S dX11_most_12 rfl ?_
    refine zr_getR (pc := 13) S fX11_most_77 dX11_most_13 rfl (Nat.le_of_ble_eq_true rfl) rfl ?_
    refine zr_iload_n (pc := 16) S dX11_most_16 rfl ?_
    refine zr_invV (pc := 17) S [zI _] (m_X5_mostOf _) kX11_most_374 dX11_most_17 rfl (Nat.le_of_ble_eq_true rfl) rfl (Nat.le_of_ble_eq_true rfl) ⟨Nat.le_of_ble_eq_true rfl, Nat.le_of_ble_eq_true rfl⟩ (us_X5_mostOf (by omega) hs hb ht ?_)
    dsimp only [zaft, Option.toList, List.cons_append, List.nil_append, Nat.add_zero]
    rintro r N ⟨rfl, hN⟩
    dsimp only [zaft, Option.toList, List.nil_append]
    exact zr_lret (pc := 20) S dX11_most_20 rfl ⟨Nat.le_of_ble_eq_true rfl, Nat.le_of_ble_eq_true rfl⟩ (hQ c9 _ (fun k hk => hN k (by omega) (by omega) (by omega) (by omega) (by omega) (by omega)))
  · refine zr_iload_n (pc := 0) S dX11_most_0 rfl ?_
    refine zr_i2l (pc := 1) S dX11_most_1 ?_
    refine zr_lconst1 (pc := 2) S dX11_most_2 ?_
    refine zr_ldc2 (pc := 3) S (3) dX11_most_3 (List.mem_cons_of_mem _ (zWi_7 _ (List.mem_of_getElem? (i := 11) rfl))) (by unfold zrL; omega) ?_
    refine zr_invS (pc := 6) S [zL _, zL _, zL _] (m_X11_within _) kX11_most_93 dX11_most_6 (Nat.le_of_ble_eq_true rfl) ⟨Nat.le_of_ble_eq_true rfl, Nat.le_of_ble_eq_true rfl⟩ (us_X11_within ?_)
    dsimp only [zaft, Option.toList, List.cons_append, List.nil_append, Nat.add_zero]
    refine zr_invS (pc := 9) S [zI _] (m_X11_need _) kX11_most_97 dX11_most_9 (Nat.le_of_ble_eq_true rfl) ⟨Nat.le_of_ble_eq_true rfl, Nat.le_of_ble_eq_true rfl⟩ (us_X11_need (fun c9 => ?_) (fun c9 => zaft_thr (by omega) ⟨Nat.le_of_ble_eq_true rfl, Nat.le_of_ble_eq_true rfl⟩ (hT (b01_0.mp c9))))
    dsimp only [zaft, Option.toList, List.cons_append, List.nil_append, Nat.add_zero]
    rw [b01_0, Classical.not_not] at c9
    exact absurd c9.1 (by omega)
    
def sp_X11_serve (as : List zV) (M : zM) (Q : Option zV → zM → Prop) : Prop := ∃ (B n b : Int), as = [zR 0, zI n, zI b] ∧ (ICs M) ∧ (ICb M) ∧ (ICt B M) ∧ ((0 ≤ b ∧ b < M 1 5) → (1 ≤ n ∧ n ≤ 3) → ∀ M', offX M M' → Q (some (zI (advN M (n - 1).toNat b.toNat))) M') ∧ (¬ (0 ≤ b ∧ b < M 1 5) → Q (some (zR 3000)) M) ∧ ((0 ≤ b ∧ b < M 1 5) → ¬ (1 ≤ n ∧ n ≤ 3) → Q (some (zR 3001)) M)
theorem us_X11_serve {B n b : Int} {M : zM} {Q : Option zV → zM → Prop} (hs : ICs M) (hb : ICb M) (ht : ICt B M) (hQ : (0 ≤ b ∧ b < M 1 5) → (1 ≤ n ∧ n ≤ 3) → ∀ M', offX M M' → Q (some (zI (advN M (n - 1).toNat b.toNat))) M') (hT : ¬ (0 ≤ b ∧ b < M 1 5) → Q (some (zR 3000)) M) (hU : (0 ≤ b ∧ b < M 1 5) → ¬ (1 ≤ n ∧ n ≤ 3) → Q (some (zR 3001)) M) : sp_X11_serve [zR 0, zI n, zI b] M Q := ⟨B, n, b, rfl, hs, hb, ht, hQ, hT, hU⟩
set_option maxRecDepth 20000 in
set_option maxHeartbeats 4000000 in
theorem m_X11_serve (l : Launch) : zCx l yX11_serve wzX11_serve rmX11_serve 2 sp_X11_serve := by
  refine zMet.of RX11 (by decide +kernel) rfl rfl ?_
  intro E X as M Qp hX S hsp
  obtain ⟨B, n, b, rfl, hs, hb, ht, hQ, hT, hU⟩ := hsp
  refine ⟨Nat.le_of_ble_eq_true rfl, ?_⟩
  dsimp only [zpad, zargs]
  have h5 := hb.1
  have key : (0 ≤ b ∧ b < M 1 5) → (1 ≤ n ∧ n ≤ 3) → zK (zg E) rmX11_serve 3 (Qp, 2, 6 * 2) X (0 + 1 + 1, 0 + 6 * 1 + 6 * 1) 31 [some (zR 0), some (zI n), some (zI b)] [] M := by
    intro c1 c2
    have f := hQ c1 c2
    obtain ⟨m, rfl⟩ : ∃ m : Nat, n = (m : Int) + 1 := ⟨(n - 1).toNat, by omega⟩
    obtain ⟨b, rfl⟩ : ∃ b' : Nat, b = b' := ⟨b.toNat, by omega⟩
    rw [show ((m : Int) + 1 - 1).toNat = m by omega, Int.toNat_natCast] at f
    refine zr_aload_n (pc := 31) S dX11_serve_31 rfl ?_
    refine zr_getR (pc := 32) S fX11_serve_77 dX11_serve_32 rfl (Nat.le_of_ble_eq_true rfl) rfl ?_
    refine zr_iload_n (pc := 35) S dX11_serve_35 rfl ?_
    refine zr_iload_n (pc := 36) S dX11_serve_36 rfl ?_
    refine zr_invV (pc := 37) S [zI _, zI _] (m_X5_advice _) kX11_serve_380 dX11_serve_37 rfl (Nat.le_of_ble_eq_true rfl) rfl (Nat.le_of_ble_eq_true rfl) ⟨Nat.le_of_ble_eq_true rfl, Nat.le_of_ble_eq_true rfl⟩ (us_X5_advice (by omega) hs hb ht (by omega) ?_)
    dsimp only [zaft, Option.toList, List.cons_append, List.nil_append, Nat.add_zero]
    rintro r N ⟨rfl, hN⟩
    dsimp only [zaft, Option.toList, List.nil_append]
    exact zr_iret (pc := 40) S dX11_serve_40 rfl ⟨Nat.le_of_ble_eq_true rfl, Nat.le_of_ble_eq_true rfl⟩ (f _ (fun k hk => hN k (by omega) (by omega) (by omega) (by omega) (by omega) (by omega)))
  refine zr_iload_n (pc := 0) S dX11_serve_0 rfl ?_
  refine zr_i2l (pc := 1) S dX11_serve_1 ?_
  refine zr_lconst0 (pc := 2) S dX11_serve_2 ?_
  refine zr_aload_n (pc := 3) S dX11_serve_3 rfl ?_
  refine zr_getR (pc := 4) S fX11_serve_10 dX11_serve_4 rfl (Nat.le_of_ble_eq_true rfl) rfl ?_
  refine zr_getI (pc := 7) S fX11_serve_377 dX11_serve_7 rfl (Nat.le_of_ble_eq_true rfl) rfl ?_
  refine zr_iconst (pc := 10) S dX11_serve_10 (by unfold zrI; omega) ?_
  refine zr_isub' (pc := 11) S dX11_serve_11 (fun hx _ => by unfold zrI at *; omega) ?_
  refine zr_i2l (pc := 12) S dX11_serve_12 ?_
  refine zr_invS (pc := 13) S [zL _, zL _, zL _] (m_X11_within _) kX11_serve_93 dX11_serve_13 (Nat.le_of_ble_eq_true rfl) ⟨Nat.le_of_ble_eq_true rfl, Nat.le_of_ble_eq_true rfl⟩ (us_X11_within ?_)
  dsimp only [zaft, Option.toList, List.cons_append, List.nil_append, Nat.add_zero]
  refine zr_invS (pc := 16) S [zI _] (m_X11_needThere _) kX11_serve_115 dX11_serve_16 (Nat.le_of_ble_eq_true rfl) ⟨Nat.le_of_ble_eq_true rfl, Nat.le_of_ble_eq_true rfl⟩ (us_X11_needThere (fun c16 => ?_) (fun c16 => zaft_thr (by omega) ⟨Nat.le_of_ble_eq_true rfl, Nat.le_of_ble_eq_true rfl⟩ (hT (fun z => b01_0.mp c16 (by omega)))))
  dsimp only [zaft, Option.toList, List.cons_append, List.nil_append, Nat.add_zero]
  rw [b01_0, Classical.not_not] at c16
  refine zr_iload_n (pc := 19) S dX11_serve_19 rfl ?_
  refine zr_i2l (pc := 20) S dX11_serve_20 ?_
  refine zr_lconst1 (pc := 21) S dX11_serve_21 ?_
  refine zr_ldc2 (pc := 22) S (3) dX11_serve_22 (List.mem_cons_of_mem _ (zWi_7 _ (List.mem_of_getElem? (i := 11) rfl))) (by unfold zrL; omega) ?_
  refine zr_invS (pc := 25) S [zL _, zL _, zL _] (m_X11_within _) kX11_serve_93 dX11_serve_25 (Nat.le_of_ble_eq_true rfl) ⟨Nat.le_of_ble_eq_true rfl, Nat.le_of_ble_eq_true rfl⟩ (us_X11_within ?_)
  dsimp only [zaft, Option.toList, List.cons_append, List.nil_append, Nat.add_zero]
  refine zr_invS (pc := 28) S [zI _] (m_X11_need _) kX11_serve_97 dX11_serve_28 (Nat.le_of_ble_eq_true rfl) ⟨Nat.le_of_ble_eq_true rfl, Nat.le_of_ble_eq_true rfl⟩ (us_X11_need (fun c28 => ?_) (fun c28 => zaft_thr (by omega) ⟨Nat.le_of_ble_eq_true rfl, Nat.le_of_ble_eq_true rfl⟩ (hU (by omega) (b01_0.mp c28))))
  dsimp only [zaft, Option.toList, List.cons_append, List.nil_append, Nat.add_zero]
  rw [b01_0, Classical.not_not] at c28
  exact key (by omega) c28
def sp_X11_rounds (as : List zV) (M : zM) (Q : Option zV → zM → Prop) : Prop := ∃ (h d : Int), as = [zR 0, zI h, zI d] ∧ (ICm M) ∧ ((1 ≤ h ∧ h ≤ 8) → ¬ M 1 10 = 0 → d = -1 → ∀ M', offX M M' → Q (some (zI (lst M h.toNat (cdU M 4) : Nat))) M') ∧ ((1 ≤ h ∧ h ≤ 8) → ¬ M 1 10 = 0 → (0 ≤ d ∧ d < h) → ∀ M', offX M M' → Q (some (zI (ff M (h.toNat - d.toNat - 1) (cdD M h.toNat d.toNat)))) M') ∧ ((1 ≤ h ∧ h ≤ 8) → (M 1 10 = 0 ∨ (¬ d = -1 ∧ ¬ (0 ≤ d ∧ d < h))) → Q (some (zI (-1))) M) ∧ (¬ (1 ≤ h ∧ h ≤ 8) → Q (some (zR 3001)) M)
theorem us_X11_rounds {h d : Int} {M : zM} {Q : Option zV → zM → Prop} (hm : ICm M) (hQ : (1 ≤ h ∧ h ≤ 8) → ¬ M 1 10 = 0 → d = -1 → ∀ M', offX M M' → Q (some (zI (lst M h.toNat (cdU M 4) : Nat))) M') (hD : (1 ≤ h ∧ h ≤ 8) → ¬ M 1 10 = 0 → (0 ≤ d ∧ d < h) → ∀ M', offX M M' → Q (some (zI (ff M (h.toNat - d.toNat - 1) (cdD M h.toNat d.toNat)))) M') (hN : (1 ≤ h ∧ h ≤ 8) → (M 1 10 = 0 ∨ (¬ d = -1 ∧ ¬ (0 ≤ d ∧ d < h))) → Q (some (zI (-1))) M) (hT : ¬ (1 ≤ h ∧ h ≤ 8) → Q (some (zR 3001)) M) : sp_X11_rounds [zR 0, zI h, zI d] M Q := ⟨h, d, rfl, hm, hQ, hD, hN, hT⟩
set_option maxRecDepth 20000 in
set_option maxHeartbeats 4000000 in
theorem m_X11_rounds (l : Launch) : zCx l yX11_rounds wzX11_rounds rmX11_rounds 1 sp_X11_rounds := by
  refine zMet.of RX11 (by decide +kernel) rfl rfl ?_
  intro E X as M Qp hX S hsp
  obtain ⟨h, d, rfl, hm, hQ, hD, hN, hT⟩ := hsp
  refine ⟨Nat.le_of_ble_eq_true rfl, ?_⟩
  dsimp only [zpad, zargs]
  have h4 := hm.1
  have n1 : ¬ M 1 10 = 0 → 1 ≤ nM M := fun z => by unfold nM; omega
  have key1 : (1 ≤ h ∧ h ≤ 8) → ¬ M 1 10 = 0 → d = -1 → zK (zg E) rmX11_rounds 3 (Qp, 1, 6 * 1) X (0 + 1, 0 + 6 * 1) 29 [some (zR 0), some (zI h), some (zI d)] [] M := by
    intro c1 c2 c3
    have f := hQ c1 c2 c3
    obtain ⟨m, rfl⟩ : ∃ m : Nat, h = m := ⟨h.toNat, by omega⟩
    rw [Int.toNat_natCast] at f
    refine zr_aload_n (pc := 29) S dX11_rounds_29 rfl ?_
    refine zr_getR (pc := 30) S fX11_rounds_86 dX11_rounds_30 rfl (Nat.le_of_ble_eq_true rfl) rfl ?_
    refine zr_iload_n (pc := 33) S dX11_rounds_33 rfl ?_
    refine zr_invV (pc := 34) S [zI _] (m_X1_leastDry _) kX11_rounds_393 dX11_rounds_34 rfl (Nat.le_of_ble_eq_true rfl) rfl (Nat.le_of_ble_eq_true rfl) ⟨Nat.le_of_ble_eq_true rfl, Nat.le_of_ble_eq_true rfl⟩ (us_X1_leastDry (by omega) hm (n1 c2) ?_)
    dsimp only [zaft, Option.toList, List.cons_append, List.nil_append, Nat.add_zero]
    rintro r N ⟨rfl, hN⟩
    dsimp only [zaft, Option.toList, List.nil_append]
    exact zr_iret (pc := 37) S dX11_rounds_37 rfl ⟨Nat.le_of_ble_eq_true rfl, Nat.le_of_ble_eq_true rfl⟩ (f _ (fun k hk => hN k (by omega)))
  have key2 : (1 ≤ h ∧ h ≤ 8) → ¬ M 1 10 = 0 → (0 ≤ d ∧ d < h) → zK (zg E) rmX11_rounds 3 (Qp, 1, 6 * 1) X (0 + 1, 0 + 6 * 1) 51 [some (zR 0), some (zI h), some (zI d)] [] M := by
    intro c1 c2 c3
    have f := hD c1 c2 c3
    obtain ⟨m, rfl⟩ : ∃ m : Nat, h = m := ⟨h.toNat, by omega⟩
    obtain ⟨d, rfl⟩ : ∃ m : Nat, d = m := ⟨d.toNat, by omega⟩
    rw [Int.toNat_natCast, Int.toNat_natCast] at f
    refine zr_aload_n (pc := 51) S dX11_rounds_51 rfl ?_
    refine zr_getR (pc := 52) S fX11_rounds_86 dX11_rounds_52 rfl (Nat.le_of_ble_eq_true rfl) rfl ?_
    refine zr_iload_n (pc := 55) S dX11_rounds_55 rfl ?_
    refine zr_iload_n (pc := 56) S dX11_rounds_56 rfl ?_
    refine zr_invV (pc := 57) S [zI _, zI _] (m_X1_filledOn _) kX11_rounds_396 dX11_rounds_57 rfl (Nat.le_of_ble_eq_true rfl) rfl (Nat.le_of_ble_eq_true rfl) ⟨Nat.le_of_ble_eq_true rfl, Nat.le_of_ble_eq_true rfl⟩ (us_X1_filledOn (by omega) (by omega) hm (n1 c2) ?_)
    dsimp only [zaft, Option.toList, List.cons_append, List.nil_append, Nat.add_zero]
    rintro r N ⟨rfl, hN⟩
    dsimp only [zaft, Option.toList, List.nil_append]
    refine zr_goto (pc := 60) (tgt := 64) S dX11_rounds_60 (by decide) ?_
    exact zr_iret (pc := 64) S dX11_rounds_64 rfl ⟨Nat.le_of_ble_eq_true rfl, Nat.le_of_ble_eq_true rfl⟩ (f _ (fun k hk => hN k (by omega)))
  refine zr_iload_n (pc := 0) S dX11_rounds_0 rfl ?_
  refine zr_i2l (pc := 1) S dX11_rounds_1 ?_
  refine zr_lconst1 (pc := 2) S dX11_rounds_2 ?_
  refine zr_ldc2 (pc := 3) S (8) dX11_rounds_3 (List.mem_cons_of_mem _ (zWi_7 _ (List.mem_of_getElem? (i := 17) rfl))) (by unfold zrL; omega) ?_
  refine zr_invS (pc := 6) S [zL _, zL _, zL _] (m_X11_within _) kX11_rounds_93 dX11_rounds_6 (Nat.le_of_ble_eq_true rfl) ⟨Nat.le_of_ble_eq_true rfl, Nat.le_of_ble_eq_true rfl⟩ (us_X11_within ?_)
  dsimp only [zaft, Option.toList, List.cons_append, List.nil_append, Nat.add_zero]
  refine zr_invS (pc := 9) S [zI _] (m_X11_need _) kX11_rounds_97 dX11_rounds_9 (Nat.le_of_ble_eq_true rfl) ⟨Nat.le_of_ble_eq_true rfl, Nat.le_of_ble_eq_true rfl⟩ (us_X11_need (fun c9 => ?_) (fun c9 => zaft_thr (by omega) ⟨Nat.le_of_ble_eq_true rfl, Nat.le_of_ble_eq_true rfl⟩ (hT (b01_0.mp c9))))
  dsimp only [zaft, Option.toList, List.cons_append, List.nil_append, Nat.add_zero]
  rw [b01_0, Classical.not_not] at c9
  refine zr_aload_n (pc := 12) S dX11_rounds_12 rfl ?_
  refine zr_getR (pc := 13) S fX11_rounds_10 dX11_rounds_13 rfl (Nat.le_of_ble_eq_true rfl) rfl ?_
  refine zr_getI (pc := 16) S fX11_rounds_390 dX11_rounds_16 rfl (Nat.le_of_ble_eq_true rfl) rfl ?_
  refine zr_if_ne (pc := 19) (tgt := 24) S dX11_rounds_19 (by decide) (fun c19 => ?_) (fun c19 => ?_)
  · refine zr_iload_n (pc := 24) S dX11_rounds_24 rfl ?_
    refine zr_iconst (pc := 25) S dX11_rounds_25 (by unfold zrI; omega) ?_
    refine zr_icmp_ne (pc := 26) (tgt := 38) S dX11_rounds_26 (by decide) (fun c26 => ?_) (fun c26 => ?_)
    · refine zr_iload_n (pc := 38) S dX11_rounds_38 rfl ?_
      refine zr_i2l (pc := 39) S dX11_rounds_39 ?_
      refine zr_lconst0 (pc := 40) S dX11_rounds_40 ?_
      refine zr_iload_n (pc := 41) S dX11_rounds_41 rfl ?_
      refine zr_iconst (pc := 42) S dX11_rounds_42 (by unfold zrI; omega) ?_
      refine zr_isub (pc := 43) S dX11_rounds_43 (by unfold zrI; omega) ?_
      refine zr_i2l (pc := 44) S dX11_rounds_44 ?_
      refine zr_invS (pc := 45) S [zL _, zL _, zL _] (m_X11_within _) kX11_rounds_93 dX11_rounds_45 (Nat.le_of_ble_eq_true rfl) ⟨Nat.le_of_ble_eq_true rfl, Nat.le_of_ble_eq_true rfl⟩ (us_X11_within ?_)
      dsimp only [zaft, Option.toList, List.cons_append, List.nil_append, Nat.add_zero]
      refine zr_if_eq (pc := 48) (tgt := 63) S dX11_rounds_48 (by decide) (fun c48 => ?_) (fun c48 => ?_)
      · rw [b01_0] at c48
        have f := hN c9 (Or.inr ⟨c26, fun z => c48 (by omega)⟩)
        refine zr_iconst (pc := 63) S dX11_rounds_63 (by unfold zrI; omega) ?_
        exact zr_iret (pc := 64) S dX11_rounds_64 rfl ⟨Nat.le_of_ble_eq_true rfl, Nat.le_of_ble_eq_true rfl⟩ (f)
      · rw [b01_0, Classical.not_not] at c48
        exact key2 c9 c19 (by omega)
    · exact key1 c9 c19 c26
  · have f := hN c9 (Or.inl c19)
    refine zr_iconst (pc := 22) S dX11_rounds_22 (by unfold zrI; omega) ?_
    exact zr_iret (pc := 23) S dX11_rounds_23 rfl ⟨Nat.le_of_ble_eq_true rfl, Nat.le_of_ble_eq_true rfl⟩ (f)
/-- n coins of the sort s are loaded -/
def ldU (M : zM) (t s : Int) : Nat → zM
  | 0 => M
  | n + 1 => zup (layOn (ldU M t s n) t s) 21 t.toNat (ldU M t s n 21 t.toNat + 1)
theorem ICt_loaded {B : Int} {M : zM} {t x : Int} (hI : ICt B M) (h0 : 0 ≤ t) (h1 : t < 8) (h2 : 0 ≤ x) (h3 : x ≤ B) : ICt B (zup M 21 t.toNat x) := by
  unfold ICt at *
  refine ⟨hI.1, hI.2.1, fun u hu => ?_, hI.2.2.2⟩
  have := hI.2.2.1 u hu
  show 0 ≤ M 19 u ∧ M 19 u ≤ 20 ∧ 0 ≤ M 20 u ∧ M 20 u ≤ B ∧ 0 ≤ (if u = t.toNat then x else M 21 u) ∧ (if u = t.toNat then x else M 21 u) ≤ B ∧ -B ≤ M 22 u ∧ M 22 u ≤ B
  split <;> omega
theorem ldU_I {B : Int} {M : zM} {t s : Int} (hI : ICt B M) (h0 : 0 ≤ t) (h1 : t < 8) (h2 : 0 ≤ s) (h3 : s < 8) : ∀ n : Nat, ICt (B + n) (ldU M t s n)
  | 0 => by
    rw [Int.natCast_zero, Int.add_zero]
    exact hI
  | n + 1 => by
    have a := ldU_I hI h0 h1 h2 h3 n
    have b := a.b h0 h1
    have c := layOn_I a h0 h1 h2 h3
    rw [Int.natCast_add, Int.natCast_one, ← Int.add_assoc]
    exact ICt_loaded c h0 h1 (by omega) (by omega)
theorem lp_X11_load {E : zE} {X : zX} {Qp : Option zV → zM → Prop} {M : zM} {B t s m : Int} {bb : Nat × Nat} (S : zS (zg E) X cX11_load 5 wzX11_load RX11 (some .int)) (hbb : bb.1 ≤ 3 ∧ bb.2 ≤ 18) (hI : ICt B M) (hB : B ≤ 999000) (h0 : 0 ≤ t) (h1 : t < 8) (h2 : 0 ≤ s) (h3 : s < 8) (hm : m ≤ 20) (hQ : Qp (some (zI (ldU M t s m.toNat 19 t.toNat))) (ldU M t s m.toNat)) : ∀ n i : Nat, (n : Int) + i = m → zK (zg E) rmX11_load 5 (Qp, 3, 6 * 3) X bb 42 [some (zR 0), some (zI t), some (zI s), some (zI m), some (zI i)] [] (ldU M t s i) := by
  intro n
  induction n with
  | zero =>
    intro i hi
    obtain rfl : i = m.toNat := by omega
    refine zr_iload (pc := 42) S dX11_load_42 rfl ?_
    refine zr_iload_n (pc := 44) S dX11_load_44 rfl ?_
    refine zr_icmp_ge (pc := 45) (tgt := 66) S dX11_load_45 (by decide) (fun c => ?_) (fun c => absurd c (by omega))
    refine zr_aload_n (pc := 66) S dX11_load_66 rfl ?_
    refine zr_getR (pc := 67) S fX11_load_10 dX11_load_67 rfl (Nat.le_of_ble_eq_true rfl) rfl ?_
    refine zr_getR (pc := 70) S fX11_load_255 dX11_load_70 rfl (Nat.le_of_ble_eq_true rfl) rfl ?_
    refine zr_getR (pc := 73) S fX11_load_268 dX11_load_73 rfl (Nat.le_of_ble_eq_true rfl) rfl ?_
    refine zr_iload_n (pc := 76) S dX11_load_76 rfl ?_
    refine zr_iaload (pc := 77) S dX11_load_77 rfl (Nat.le_of_ble_eq_true rfl) (by omega) (by omega) ?_
    exact zr_iret (pc := 78) S dX11_load_78 rfl hbb hQ
  | succ n ih =>
    intro i hi
    have a := ldU_I hI h0 h1 h2 h3 i
    have k := ih (i + 1) (by omega)
    rw [Int.natCast_add, Int.natCast_one] at k
    refine zr_iload (pc := 42) S dX11_load_42 rfl ?_
    refine zr_iload_n (pc := 44) S dX11_load_44 rfl ?_
    refine zr_icmp_ge (pc := 45) (tgt := 66) S dX11_load_45 (by decide) (fun c => absurd c (by omega)) (fun c => ?_)
    refine zr_aload_n (pc := 48) S dX11_load_48 rfl ?_
    refine zr_getR (pc := 49) S fX11_load_10 dX11_load_49 rfl (Nat.le_of_ble_eq_true rfl) rfl ?_
    refine zr_getR (pc := 52) S fX11_load_255 dX11_load_52 rfl (Nat.le_of_ble_eq_true rfl) rfl ?_
    refine zr_iload_n (pc := 55) S dX11_load_55 rfl ?_
    refine zr_iload_n (pc := 56) S dX11_load_56 rfl ?_
    refine zr_invV (pc := 57) S [zI _, zI _] (m_X9_loadOne _) kX11_load_264 dX11_load_57 rfl (Nat.le_of_ble_eq_true rfl) rfl (Nat.le_of_ble_eq_true rfl) ⟨by show bb.1 + 0 ≤ 3; omega, by show bb.2 + 0 ≤ 18; omega⟩ (us_X9_loadOne a (by omega) h0 h1 h2 h3 ?_)
    dsimp only [zaft, Nat.add_zero]
    refine zr_iinc (pc := 60) S dX11_load_60 rfl (by unfold zrI; omega) (by decide) ?_
    dsimp only [zst1, zst2, zset, zget, zlong]
    refine zr_goto (pc := 63) (tgt := 42) S dX11_load_63 (by decide) ?_
    exact k
def sp_X11_load (as : List zV) (M : zM) (Q : Option zV → zM → Prop) : Prop := ∃ (B t s m : Int), as = [zR 0, zI t, zI s, zI m] ∧ (M 2 0 ≤ 8) ∧ (ICt B M) ∧ (B ≤ 999000) ∧ ((0 ≤ t ∧ t < M 2 0) → (0 ≤ s ∧ s < M 2 0) → (1 ≤ m ∧ m ≤ 20) → M 19 t.toNat + m ≤ 20 → Q (some (zI (ldU M t s m.toNat 19 t.toNat))) (ldU M t s m.toNat)) ∧ ((0 ≤ t ∧ t < M 2 0) → (0 ≤ s ∧ s < M 2 0) → (1 ≤ m ∧ m ≤ 20) → ¬ M 19 t.toNat + m ≤ 20 → Q (some (zI (-1))) M) ∧ (¬ ((0 ≤ t ∧ t < M 2 0) ∧ (0 ≤ s ∧ s < M 2 0)) → Q (some (zR 3000)) M) ∧ ((0 ≤ t ∧ t < M 2 0) → (0 ≤ s ∧ s < M 2 0) → ¬ (1 ≤ m ∧ m ≤ 20) → Q (some (zR 3001)) M)
theorem us_X11_load {B t s m : Int} {M : zM} {Q : Option zV → zM → Prop} (hs : M 2 0 ≤ 8) (ht : ICt B M) (hB : B ≤ 999000) (hQ : (0 ≤ t ∧ t < M 2 0) → (0 ≤ s ∧ s < M 2 0) → (1 ≤ m ∧ m ≤ 20) → M 19 t.toNat + m ≤ 20 → Q (some (zI (ldU M t s m.toNat 19 t.toNat))) (ldU M t s m.toNat)) (hF : (0 ≤ t ∧ t < M 2 0) → (0 ≤ s ∧ s < M 2 0) → (1 ≤ m ∧ m ≤ 20) → ¬ M 19 t.toNat + m ≤ 20 → Q (some (zI (-1))) M) (hT : ¬ ((0 ≤ t ∧ t < M 2 0) ∧ (0 ≤ s ∧ s < M 2 0)) → Q (some (zR 3000)) M) (hU : (0 ≤ t ∧ t < M 2 0) → (0 ≤ s ∧ s < M 2 0) → ¬ (1 ≤ m ∧ m ≤ 20) → Q (some (zR 3001)) M) : sp_X11_load [zR 0, zI t, zI s, zI m] M Q := ⟨B, t, s, m, rfl, hs, ht, hB, hQ, hF, hT, hU⟩
set_option maxRecDepth 20000 in
set_option maxHeartbeats 4000000 in
theorem m_X11_load (l : Launch) : zCx l yX11_load wzX11_load rmX11_load 3 sp_X11_load := by
  refine zMet.of RX11 (by decide +kernel) rfl rfl ?_
  intro E X as M Qp hX S hsp
  obtain ⟨B, t, s, m, rfl, hs, ht, hB, hQ, hF, hT, hU⟩ := hsp
  refine ⟨Nat.le_of_ble_eq_true rfl, ?_⟩
  dsimp only [zpad, zargs]
  refine zr_aload_n (pc := 0) S dX11_load_0 rfl ?_
  refine zr_iload_n (pc := 1) S dX11_load_1 rfl ?_
  refine zr_invV (pc := 2) S [zI _] (m_X11_needSort _) kX11_load_109 dX11_load_2 rfl (Nat.le_of_ble_eq_true rfl) rfl (Nat.le_of_ble_eq_true rfl) ⟨Nat.le_of_ble_eq_true rfl, Nat.le_of_ble_eq_true rfl⟩ (us_X11_needSort (fun c2 => ?_) (fun c2 => zaft_thr (by omega) ⟨Nat.le_of_ble_eq_true rfl, Nat.le_of_ble_eq_true rfl⟩ (hT (fun z => c2 z.1))))
  dsimp only [zaft, Option.toList, List.cons_append, List.nil_append, Nat.add_zero]
  refine zr_aload_n (pc := 5) S dX11_load_5 rfl ?_
  refine zr_iload_n (pc := 6) S dX11_load_6 rfl ?_
  refine zr_invV (pc := 7) S [zI _] (m_X11_needSort _) kX11_load_109 dX11_load_7 rfl (Nat.le_of_ble_eq_true rfl) rfl (Nat.le_of_ble_eq_true rfl) ⟨Nat.le_of_ble_eq_true rfl, Nat.le_of_ble_eq_true rfl⟩ (us_X11_needSort (fun c7 => ?_) (fun c7 => zaft_thr (by omega) ⟨Nat.le_of_ble_eq_true rfl, Nat.le_of_ble_eq_true rfl⟩ (hT (fun z => c7 z.2))))
  dsimp only [zaft, Option.toList, List.cons_append, List.nil_append, Nat.add_zero]
  refine zr_iload_n (pc := 10) S dX11_load_10 rfl ?_
  refine zr_i2l (pc := 11) S dX11_load_11 ?_
  refine zr_lconst1 (pc := 12) S dX11_load_12 ?_
  refine zr_ldc2 (pc := 13) S (20) dX11_load_13 (List.mem_cons_of_mem _ (zWi_7 _ (List.mem_of_getElem? (i := 12) rfl))) (by unfold zrL; omega) ?_
  refine zr_invS (pc := 16) S [zL _, zL _, zL _] (m_X11_within _) kX11_load_93 dX11_load_16 (Nat.le_of_ble_eq_true rfl) ⟨Nat.le_of_ble_eq_true rfl, Nat.le_of_ble_eq_true rfl⟩ (us_X11_within ?_)
  dsimp only [zaft, Option.toList, List.cons_append, List.nil_append, Nat.add_zero]
  refine zr_invS (pc := 19) S [zI _] (m_X11_need _) kX11_load_97 dX11_load_19 (Nat.le_of_ble_eq_true rfl) ⟨Nat.le_of_ble_eq_true rfl, Nat.le_of_ble_eq_true rfl⟩ (us_X11_need (fun c19 => ?_) (fun c19 => zaft_thr (by omega) ⟨Nat.le_of_ble_eq_true rfl, Nat.le_of_ble_eq_true rfl⟩ (hU c2 c7 (b01_0.mp c19))))
  dsimp only [zaft, Option.toList, List.cons_append, List.nil_append, Nat.add_zero]
  rw [b01_0, Classical.not_not] at c19
  refine zr_aload_n (pc := 22) S dX11_load_22 rfl ?_
  refine zr_getR (pc := 23) S fX11_load_10 dX11_load_23 rfl (Nat.le_of_ble_eq_true rfl) rfl ?_
  refine zr_getR (pc := 26) S fX11_load_255 dX11_load_26 rfl (Nat.le_of_ble_eq_true rfl) rfl ?_
  refine zr_iload_n (pc := 29) S dX11_load_29 rfl ?_
  refine zr_iload_n (pc := 30) S dX11_load_30 rfl ?_
  refine zr_invV (pc := 31) S [zI _, zI _] (m_X9_hasRoom _) kX11_load_259 dX11_load_31 rfl (Nat.le_of_ble_eq_true rfl) rfl (Nat.le_of_ble_eq_true rfl) ⟨Nat.le_of_ble_eq_true rfl, Nat.le_of_ble_eq_true rfl⟩ (us_X9_hasRoom ht c2.1 (by omega) (by omega) (by omega) ?_)
  dsimp only [zaft, Option.toList, List.cons_append, List.nil_append, Nat.add_zero]
  refine zr_if_ne (pc := 34) (tgt := 39) S dX11_load_34 (by decide) (fun c34 => ?_) (fun c34 => ?_)
  · rw [b01_0, Classical.not_not] at c34
    have f := hQ c2 c7 c19 c34
    refine zr_iconst (pc := 39) S dX11_load_39 (by unfold zrI; omega) ?_
    refine zr_istore (pc := 40) S dX11_load_40 (by decide) ?_
    dsimp only [zst1, zst2, zset, zget, zlong]
    exact lp_X11_load S ⟨Nat.le_of_ble_eq_true rfl, Nat.le_of_ble_eq_true rfl⟩ ht hB c2.1 (by omega) c7.1 (by omega) c19.2 f m.toNat 0 (by omega)
  · rw [b01_0] at c34
    have f := hF c2 c7 c19 c34
    refine zr_iconst (pc := 37) S dX11_load_37 (by unfold zrI; omega) ?_
    exact zr_iret (pc := 38) S dX11_load_38 rfl ⟨Nat.le_of_ble_eq_true rfl, Nat.le_of_ble_eq_true rfl⟩ (f)
end
