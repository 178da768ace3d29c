section
def rmX12_isWord : Room := { frames := 4, cells := 0, slots := 0, locals := 85 }
abbrev wzX12_isWord : List Cond := .code yX12_isWord cX12_isWord 4 (some .boolean) :: zW
theorem fX12_isWord_163 : zfl wzX12_isWord RX12 vwCl 163 12 12 := ⟨_, _, _, rfl, (fun w h => List.mem_cons_of_mem _ (zWuX12 w h)), by decide, List.mem_cons_of_mem _ (zWi_9 _ (List.mem_of_getElem? (i := 13) rfl))⟩
theorem fX12_isWord_148 : zfl wzX12_isWord RX12 vwCl 148 12 10 := ⟨_, _, _, rfl, (fun w h => List.mem_cons_of_mem _ (zWuX12 w h)), by decide, List.mem_cons_of_mem _ (zWi_9 _ (List.mem_of_getElem? (i := 10) rfl))⟩
theorem fX12_isWord_142 : zfl wzX12_isWord RX12 vwCl 142 12 8 := ⟨_, _, _, rfl, (fun w h => List.mem_cons_of_mem _ (zWuX12 w h)), by decide, List.mem_cons_of_mem _ (zWi_9 _ (List.mem_of_getElem? (i := 8) rfl))⟩
theorem fX12_isWord_145 : zfl wzX12_isWord RX12 vwCl 145 12 9 := ⟨_, _, _, rfl, (fun w h => List.mem_cons_of_mem _ (zWuX12 w h)), by decide, List.mem_cons_of_mem _ (zWi_9 _ (List.mem_of_getElem? (i := 9) rfl))⟩
theorem fX12_isWord_20 : zfl wzX12_isWord RX12 vwCl 20 12 4 := ⟨_, _, _, rfl, (fun w h => List.mem_cons_of_mem _ (zWuX12 w h)), by decide, List.mem_cons_of_mem _ (zWi_9 _ (List.mem_of_getElem? (i := 15) rfl))⟩
theorem kX12_isWord_169 : ∀ (s9 : State) (a9 : Array Value), (∀ w ∈ wzX12_isWord, w.before a9 s9 = true) → CallW rmX12_isWord s9 a9 RX12 RJ0 169 yJ0_length_8abf5 cJ0_length_8abf5 1 (some .int) wzJ0_length_8abf5 rmJ0_length_8abf5 0 0 0 := zcV (zWi_22 _ (List.mem_of_getElem? (i := 26) rfl)) (zWi_12 _ (List.mem_of_getElem? (i := 26) rfl)) (zWi_25 _ (List.mem_of_getElem? (i := 13) rfl)) (zWi_12 _ (List.mem_of_getElem? (i := 3) rfl)) (zWi_0 _ (List.mem_of_getElem? (i := 36) rfl)) (by decide +kernel) rfl rfl ⟨Nat.le_of_ble_eq_true rfl, Nat.le_of_ble_eq_true rfl⟩
theorem kX12_isWord_175 : ∀ (s9 : State) (a9 : Array Value), (∀ w ∈ wzX12_isWord, w.before a9 s9 = true) → CallW rmX12_isWord s9 a9 RX12 RJ0 175 yJ0_charAt_5068e cJ0_charAt_5068e 2 (some .char) wzJ0_charAt_5068e rmJ0_charAt_5068e 0 0 1 := zcV (zWi_22 _ (List.mem_of_getElem? (i := 27) rfl)) (zWi_12 _ (List.mem_of_getElem? (i := 23) rfl)) (zWi_25 _ (List.mem_of_getElem? (i := 10) rfl)) (zWi_12 _ (List.mem_of_getElem? (i := 3) rfl)) (zWi_0 _ (List.mem_of_getElem? (i := 32) rfl)) (by decide +kernel) rfl rfl ⟨Nat.le_of_ble_eq_true rfl, Nat.le_of_ble_eq_true rfl⟩
/-- the token is the word i -/
abbrev isW (t : Nat → Int) (s e i : Nat) : Prop := e - s = zSl.getD i 0 ∧ ∀ k, k < zSl.getD i 0 → t (s + k) = zch i k
theorem iw1 {E : zE} {X : zX} {Qp : Option zV → zM → Prop} {M : zM} {i s : Nat} (S : zS (zg E) X cX12_isWord 4 wzX12_isWord RX12 (some .boolean)) (hk : i < 10) (hb : M 180 9 = s) (hs : s + zSl.getD i 0 ≤ 400) (hQ : ∀ v : Int, ((v = 0 ∧ ¬ ∀ k, k < zSl.getD i 0 → M 184 (s + k) = zch i k) ∨ (v = 1 ∧ ∀ k, k < zSl.getD i 0 → M 184 (s + k) = zch i k)) → Qp (some (zI v)) M) : ∀ (r j : Nat), r + j = zSl.getD i 0 → (∀ k, k < j → M 184 (s + k) = zch i k) → zK (zg E) rmX12_isWord 4 (Qp, 0, 0) X (0, 0) 39 [some (zR 180), some (zR (1000 + i)), some (zI 1), some (zI j)] [] M := by
  have z6 := zSl_r i
  intro r
  induction r with
  | zero =>
    intro j hj hy
    have q := hQ 1 (Or.inr ⟨rfl, by rw [← hj, Nat.zero_add]; exact hy⟩)
    refine zr_iload_n (pc := 39) S dX12_isWord_39 rfl ?_
    refine zr_if_eq (pc := 40) (tgt := 82) S dX12_isWord_40 (by decide) (fun c40 => absurd c40 (by omega)) (fun c40 => ?_)
    refine zr_iload_n (pc := 43) S dX12_isWord_43 rfl ?_
    refine zr_aload_n (pc := 44) S dX12_isWord_44 rfl ?_
    refine zr_invStr (pc := 45) S [] hk (m_J0_length_8abf5 _) kX12_isWord_169 dX12_isWord_45 (Nat.le_of_ble_eq_true rfl) ⟨Nat.le_of_ble_eq_true rfl, Nat.le_of_ble_eq_true rfl⟩ (⟨_, rfl, hk, ?_⟩)
    dsimp only [zaft, Option.toList, List.cons_append, List.nil_append, Nat.add_zero]
    refine zr_icmp_ge (pc := 48) (tgt := 82) S dX12_isWord_48 (by decide) (fun c48 => ?_) (fun c48 => absurd c48 (by omega))
    refine zr_iload_n (pc := 82) S dX12_isWord_82 rfl ?_
    exact zr_zret (pc := 83) S dX12_isWord_83 rfl (by first | omega | exact b01_r) ⟨Nat.le_refl _, Nat.le_refl _⟩ (q)
  | succ r ih =>
    intro j hj hy
    have ix : ((s : Int) + (j : Int)).toNat = s + j := by omega
    by_cases c : M 184 (s + j) = zch i j
    · have l := ih (j + 1) (by omega) (fun k hk => by
        by_cases e : k = j
        · rw [e]; exact c
        · exact hy k (by omega))
      rw [Int.natCast_add, Int.natCast_one] at l
      refine zr_iload_n (pc := 39) S dX12_isWord_39 rfl ?_
      refine zr_if_eq (pc := 40) (tgt := 82) S dX12_isWord_40 (by decide) (fun c40 => absurd c40 (by omega)) (fun c40 => ?_)
      refine zr_iload_n (pc := 43) S dX12_isWord_43 rfl ?_
      refine zr_aload_n (pc := 44) S dX12_isWord_44 rfl ?_
      refine zr_invStr (pc := 45) S [] hk (m_J0_length_8abf5 _) kX12_isWord_169 dX12_isWord_45 (Nat.le_of_ble_eq_true rfl) ⟨Nat.le_of_ble_eq_true rfl, Nat.le_of_ble_eq_true rfl⟩ (⟨_, rfl, hk, ?_⟩)
      dsimp only [zaft, Option.toList, List.cons_append, List.nil_append, Nat.add_zero]
      refine zr_icmp_ge (pc := 48) (tgt := 82) S dX12_isWord_48 (by decide) (fun c48 => absurd c48 (by omega)) (fun c48 => ?_)
      refine zr_aload_n (pc := 51) S dX12_isWord_51 rfl ?_
      refine zr_getR (pc := 52) S fX12_isWord_20 dX12_isWord_52 rfl (Nat.le_of_ble_eq_true rfl) rfl ?_
      refine zr_aload_n (pc := 55) S dX12_isWord_55 rfl ?_
      refine zr_getI (pc := 56) S fX12_isWord_145 dX12_isWord_56 rfl (Nat.le_of_ble_eq_true rfl) rfl ?_
      rw [hb]
      refine zr_iload_n (pc := 59) S dX12_isWord_59 rfl ?_
      refine zr_iadd (pc := 60) S dX12_isWord_60 (by unfold zrI; omega) ?_
      refine zr_iaload (pc := 61) S dX12_isWord_61 rfl (Nat.le_of_ble_eq_true rfl) (by omega) (by omega) ?_
      rw [ix]
      refine zr_aload_n (pc := 62) S dX12_isWord_62 rfl ?_
      refine zr_iload_n (pc := 63) S dX12_isWord_63 rfl ?_
      refine zr_invStr (pc := 64) S [zI _] hk (m_J0_charAt_5068e _) kX12_isWord_175 dX12_isWord_64 (Nat.le_of_ble_eq_true rfl) ⟨Nat.le_of_ble_eq_true rfl, Nat.le_of_ble_eq_true rfl⟩ (⟨_, _, rfl, hk, by omega, by omega, ?_⟩)
      dsimp only [zaft, Option.toList, List.cons_append, List.nil_append, Nat.add_zero]
      refine zr_icmp_ne (pc := 67) (tgt := 74) S dX12_isWord_67 (by decide) (fun c67 => absurd c67 (by omega)) (fun c67 => ?_)
      refine zr_iconst (pc := 70) S dX12_isWord_70 (by unfold zrI; omega) ?_
      refine zr_goto (pc := 71) (tgt := 75) S dX12_isWord_71 (by decide) ?_
      refine zr_istore_n (pc := 75) S 2 dX12_isWord_75 rfl (by decide) ?_
      dsimp only [zst1, zst2, zset, zget, zlong]
      refine zr_iinc (pc := 76) S dX12_isWord_76 rfl (by unfold zrI; omega) (by decide) ?_
      dsimp only [zst1, zst2, zset, zget, zlong]
      refine zr_goto (pc := 79) (tgt := 39) S dX12_isWord_79 (by decide) ?_
      exact l
    · have q := hQ 0 (Or.inl ⟨rfl, fun z => c (z j (by omega))⟩)
      have k39 : zK (zg E) rmX12_isWord 4 (Qp, 0, 0) X (0, 0) 39 [some (zR 180), some (zR (1000 + i)), some (zI 0), some (zI ((j : Int) + 1))] [] M := by
        refine zr_iload_n (pc := 39) S dX12_isWord_39 rfl ?_
        refine zr_if_eq (pc := 40) (tgt := 82) S dX12_isWord_40 (by decide) (fun c40 => ?_) (fun c40 => absurd c40 (by omega))
        refine zr_iload_n (pc := 82) S dX12_isWord_82 rfl ?_
        exact zr_zret (pc := 83) S dX12_isWord_83 rfl (by first | omega | exact b01_r) ⟨Nat.le_refl _, Nat.le_refl _⟩ (q)
      refine zr_iload_n (pc := 39) S dX12_isWord_39 rfl ?_
      refine zr_if_eq (pc := 40) (tgt := 82) S dX12_isWord_40 (by decide) (fun c40 => absurd c40 (by omega)) (fun c40 => ?_)
      refine zr_iload_n (pc := 43) S dX12_isWord_43 rfl ?_
      refine zr_aload_n (pc := 44) S dX12_isWord_44 rfl ?_
      refine zr_invStr (pc := 45) S [] hk (m_J0_length_8abf5 _) kX12_isWord_169 dX12_isWord_45 (Nat.le_of_ble_eq_true rfl) ⟨Nat.le_of_ble_eq_true rfl, Nat.le_of_ble_eq_true rfl⟩ (⟨_, rfl, hk, ?_⟩)
      dsimp only [zaft, Option.toList, List.cons_append, List.nil_append, Nat.add_zero]
      refine zr_icmp_ge (pc := 48) (tgt := 82) S dX12_isWord_48 (by decide) (fun c48 => absurd c48 (by omega)) (fun c48 => ?_)
      refine zr_aload_n (pc := 51) S dX12_isWord_51 rfl ?_
      refine zr_getR (pc := 52) S fX12_isWord_20 dX12_isWord_52 rfl (Nat.le_of_ble_eq_true rfl) rfl ?_
      refine zr_aload_n (pc := 55) S dX12_isWord_55 rfl ?_
      refine zr_getI (pc := 56) S fX12_isWord_145 dX12_isWord_56 rfl (Nat.le_of_ble_eq_true rfl) rfl ?_
      rw [hb]
      refine zr_iload_n (pc := 59) S dX12_isWord_59 rfl ?_
      refine zr_iadd (pc := 60) S dX12_isWord_60 (by unfold zrI; omega) ?_
      refine zr_iaload (pc := 61) S dX12_isWord_61 rfl (Nat.le_of_ble_eq_true rfl) (by omega) (by omega) ?_
      rw [ix]
      refine zr_aload_n (pc := 62) S dX12_isWord_62 rfl ?_
      refine zr_iload_n (pc := 63) S dX12_isWord_63 rfl ?_
      refine zr_invStr (pc := 64) S [zI _] hk (m_J0_charAt_5068e _) kX12_isWord_175 dX12_isWord_64 (Nat.le_of_ble_eq_true rfl) ⟨Nat.le_of_ble_eq_true rfl, Nat.le_of_ble_eq_true rfl⟩ (⟨_, _, rfl, hk, by omega, by omega, ?_⟩)
      dsimp only [zaft, Option.toList, List.cons_append, List.nil_append, Nat.add_zero]
      refine zr_icmp_ne (pc := 67) (tgt := 74) S dX12_isWord_67 (by decide) (fun c67 => ?_) (fun c67 => absurd c67 (by omega))
      refine zr_iconst (pc := 74) S dX12_isWord_74 (by unfold zrI; omega) ?_
      refine zr_istore_n (pc := 75) S 2 dX12_isWord_75 rfl (by decide) ?_
      dsimp only [zst1, zst2, zset, zget, zlong]
      refine zr_iinc (pc := 76) S dX12_isWord_76 rfl (by unfold zrI; omega) (by decide) ?_
      dsimp only [zst1, zst2, zset, zget, zlong]
      refine zr_goto (pc := 79) (tgt := 39) S dX12_isWord_79 (by decide) ?_
      exact k39
end
