section
def flatA : Cond → List Cond → List Cond
  | .and a b, acc => flatA a (flatA b acc)
  | c, acc => c :: acc
theorem flatA_of {args : Array Value} {s : State} (T : Jvm.Cond) : T.before args s = true → ∀ (acc : List Cond), (∀ c ∈ acc, c.before args s = true) → ∀ c ∈ flatA T acc, c.before args s = true := by
  induction T with
  | and a b iha ihb =>
    intro h acc ha c hc
    rw [Cond.before_and, Bool.and_eq_true] at h
    exact iha h.1 (flatA b acc) (ihb h.2 acc ha) c hc
  | _ =>
    intro h acc ha c hc
    rcases List.mem_cons.mp hc with e | e
    · rw [e]; exact h
    · exact ha c e
def gvl : List Cond := flatA (Jvm.Cond.and given_1 narrow_1) []
def tmS (i : Nat) : Term := .string RX4 (([57, 107, 109, 111, 113, 73, 85, 89, 94, 96] : List Nat).getD i 0)
def tmT (i : Nat) : Term := .string RX12 (([200, 193, 190, 191, 195, 212, 217, 206, 208, 210] : List Nat).getD i 0)
def tmM (i : Nat) : Term := .string RX11 (([441, 436, 428, 449, 409] : List Nat).getD i 0)
theorem gv_ex : ∀ i, i < 10 → Cond.exactly (tmS i) "java/lang/String" ∈ gvl := by decide +kernel
theorem gv_co : ∀ i, i < 10 → Cond.eq (.field (tmS i) "java/lang/String" "coder" "B") (.int 0) ∈ gvl := by decide +kernel
theorem gv_ar : ∀ i, i < 10 → Cond.arrayOf (.field (tmS i) "java/lang/String" "value" "[B") .byte ∈ gvl := by decide +kernel
theorem gv_le : ∀ i, i < 10 → Cond.eq (.length (.field (tmS i) "java/lang/String" "value" "[B")) (.int (Int32.ofNat (zSl.getD i 0))) ∈ gvl := by decide +kernel
theorem gv_pick {α : Type} {l : List Cond} {f : α → Cond} (ks : List Nat) (L : List α) (h : ks.map (fun k => l[k]?) = L.map (fun p => some (f p))) : ∀ p ∈ L, f p ∈ l := by
  intro p hp
  have h1 : some (f p) ∈ ks.map (fun k => l[k]?) := by rw [h]; exact List.mem_map.mpr ⟨p, hp, rfl⟩
  obtain ⟨k, -, hk⟩ := List.mem_map.mp h1
  exact List.mem_of_getElem? hk
def elL : List (Nat × Nat) := [(0, 0), (0, 1), (0, 2), (0, 3), (7, 0), (7, 1), (7, 2), (7, 3), (7, 4), (7, 5), (8, 0), (8, 1), (8, 2), (8, 3), (8, 4), (9, 0), (9, 1), (9, 2), (9, 3), (5, 0), (5, 1), (5, 2), (1, 0), (1, 1), (1, 2), (1, 3), (2, 0), (2, 1), (2, 2), (2, 3), (3, 0), (3, 1), (3, 2), (3, 3), (4, 0), (4, 1), (4, 2), (4, 3), (6, 0), (6, 1)]
def neL : List (Nat × Nat) := [(0, 7), (0, 8), (7, 8), (0, 9), (7, 9), (8, 9), (0, 5), (7, 5), (8, 5), (9, 5), (0, 1), (7, 1), (8, 1), (9, 1), (5, 1), (0, 2), (7, 2), (8, 2), (9, 2), (5, 2), (1, 2), (0, 3), (7, 3), (8, 3), (9, 3), (5, 3), (1, 3), (2, 3), (0, 4), (7, 4), (8, 4), (9, 4), (5, 4), (1, 4), (2, 4), (3, 4), (0, 6), (7, 6), (8, 6), (9, 6), (5, 6), (1, 6), (2, 6), (3, 6), (4, 6)]
theorem gv_el0 : ∀ p ∈ elL, Cond.eq (.elem (.field (tmS p.1) "java/lang/String" "value" "[B") (.int (Int32.ofNat p.2))) (.int ((zSb.getD p.1 []).getD p.2 0)) ∈ gvl := gv_pick [161, 162, 163, 164, 171, 172, 173, 174, 175, 176, 184, 185, 186, 187, 188, 197, 198, 199, 200, 210, 211, 212, 223, 224, 225, 226, 238, 239, 240, 241, 254, 255, 256, 257, 271, 272, 273, 274, 289, 290] elL (by decide +kernel)
theorem gv_ne0 : ∀ p ∈ neL, Cond.not (Cond.eq (tmS p.1) (tmS p.2)) ∈ gvl := gv_pick [179, 191, 192, 203, 204, 205, 215, 216, 217, 218, 229, 230, 231, 232, 233, 244, 245, 246, 247, 248, 249, 260, 261, 262, 263, 264, 265, 266, 277, 278, 279, 280, 281, 282, 283, 284, 293, 294, 295, 296, 297, 298, 299, 300, 301] neL (by decide +kernel)
theorem gv_el : ∀ i, i < 10 → ∀ j, j < zSl.getD i 0 → Cond.eq (.elem (.field (tmS i) "java/lang/String" "value" "[B") (.int (Int32.ofNat j))) (.int ((zSb.getD i []).getD j 0)) ∈ gvl := by
  have h : ∀ i, i < 10 → ∀ j, j < zSl.getD i 0 → (i, j) ∈ elL := by decide +kernel
  exact fun i hi j hj => gv_el0 (i, j) (h i hi j hj)
theorem gv_ne : ∀ i, i < 10 → ∀ j, j < 10 → i ≠ j → (Cond.not (Cond.eq (tmS i) (tmS j)) ∈ gvl ∨ Cond.not (Cond.eq (tmS j) (tmS i)) ∈ gvl) := by
  have h : ∀ i, i < 10 → ∀ j, j < 10 → (i = j ∨ (i, j) ∈ neL ∨ (j, i) ∈ neL) := by decide +kernel
  exact fun i hi j hj hij => ((h i hi j hj).resolve_left hij).elim (fun q => Or.inl (gv_ne0 (i, j) q)) (fun q => Or.inr (gv_ne0 (j, i) q))
theorem gv_eq : ∀ i, i < 10 → (Cond.eq (tmS i) (tmT i) ∈ gvl ∨ Cond.eq (tmT i) (tmS i) ∈ gvl) := by decide +kernel
theorem gv_ms : ∀ i, i < 5 → Cond.exactly (tmM i) "java/lang/String" ∈ gvl := by decide +kernel
theorem gv_nc : ∀ x ∈ zNc, Cond.not (.castable x.1 x.2) ∈ gvl := by decide +kernel
theorem gv_st : Cond.eq (.static "java/lang/String" "COMPACT_STRINGS" "Z") (.int 1) ∈ gvl ∧ Cond.isRef (.static "jdk/internal/util/Preconditions" "SIOOBE_FORMATTER" "Ljava/util/function/BiFunction;") ∈ gvl ∧ Cond.isRef (.static Bundle.tN "UNASSIGNED_STACK" Bundle.steD) ∈ gvl ∧ Cond.isRef (.static Bundle.tN "SUPPRESSED_SENTINEL" Bundle.listD) ∈ gvl := by decide +kernel
theorem tb_ne : ∀ w ∈ zNest, Cond.methodLinkNest w.1 w.2.1 w.2.2.1 w.2.2.2 ∈ lw_tbl := List.forall_mem_cons.mpr ⟨(lt_4 _ (List.mem_of_getElem? (i := 91) rfl)), List.forall_mem_cons.mpr ⟨(lt_2 _ (List.mem_of_getElem? (i := 17) rfl)), List.forall_mem_cons.mpr ⟨(lt_3 _ (List.mem_of_getElem? (i := 210) rfl)), List.forall_mem_cons.mpr ⟨(lt_3 _ (List.mem_of_getElem? (i := 210) rfl)), List.forall_mem_cons.mpr ⟨(lt_6 _ (List.mem_of_getElem? (i := 228) rfl)), List.forall_mem_cons.mpr ⟨(lt_1 _ (List.mem_of_getElem? (i := 44) rfl)), List.forall_mem_cons.mpr ⟨(lt_1 _ (List.mem_of_getElem? (i := 93) rfl)), List.forall_mem_cons.mpr ⟨(lt_1 _ (List.mem_of_getElem? (i := 134) rfl)), List.forall_mem_cons.mpr ⟨(lt_6 _ (List.mem_of_getElem? (i := 235) rfl)), List.forall_mem_cons.mpr ⟨(lt_6 _ (List.mem_of_getElem? (i := 234) rfl)), List.forall_mem_cons.mpr ⟨(lt_6 _ (List.mem_of_getElem? (i := 212) rfl)), List.forall_mem_cons.mpr ⟨(lt_1 _ (List.mem_of_getElem? (i := 38) rfl)), List.forall_mem_cons.mpr ⟨(lt_2 _ (List.mem_of_getElem? (i := 12) rfl)), List.forall_mem_cons.mpr ⟨(lt_2 _ (List.mem_of_getElem? (i := 191) rfl)), fun _ h => absurd h List.not_mem_nil⟩⟩⟩⟩⟩⟩⟩⟩⟩⟩⟩⟩⟩⟩
theorem tb_d1 : ∀ x ∈ zD1, Cond.declares x ∈ lw_tbl := List.forall_mem_cons.mpr ⟨(lt_3 _ (List.mem_of_getElem? (i := 62) rfl)), List.forall_mem_cons.mpr ⟨(lt_3 _ (List.mem_of_getElem? (i := 64) rfl)), List.forall_mem_cons.mpr ⟨(lt_3 _ (List.mem_of_getElem? (i := 66) rfl)), fun _ h => absurd h List.not_mem_nil⟩⟩⟩
theorem tb_d2 : ∀ x ∈ zD2, Cond.castable x x ∈ lw_tbl := List.forall_mem_cons.mpr ⟨(lt_3 _ (List.mem_of_getElem? (i := 152) rfl)), List.forall_mem_cons.mpr ⟨(lt_3 _ (List.mem_of_getElem? (i := 60) rfl)), List.forall_mem_cons.mpr ⟨(lt_6 _ (List.mem_of_getElem? (i := 167) rfl)), List.forall_mem_cons.mpr ⟨(lt_6 _ (List.mem_of_getElem? (i := 183) rfl)), fun _ h => absurd h List.not_mem_nil⟩⟩⟩⟩
theorem tb_sr : ∀ x ∈ zSt, Cond.stringRef x.1 x.2.1 x.2.2.1 ∈ lw_tbl := List.forall_mem_cons.mpr ⟨(lt_4 _ (List.mem_of_getElem? (i := 5) rfl)), List.forall_mem_cons.mpr ⟨(lt_4 _ (List.mem_of_getElem? (i := 82) rfl)), List.forall_mem_cons.mpr ⟨(lt_4 _ (List.mem_of_getElem? (i := 83) rfl)), List.forall_mem_cons.mpr ⟨(lt_4 _ (List.mem_of_getElem? (i := 84) rfl)), List.forall_mem_cons.mpr ⟨(lt_4 _ (List.mem_of_getElem? (i := 85) rfl)), List.forall_mem_cons.mpr ⟨(lt_4 _ (List.mem_of_getElem? (i := 73) rfl)), List.forall_mem_cons.mpr ⟨(lt_4 _ (List.mem_of_getElem? (i := 86) rfl)), List.forall_mem_cons.mpr ⟨(lt_4 _ (List.mem_of_getElem? (i := 66) rfl)), List.forall_mem_cons.mpr ⟨(lt_4 _ (List.mem_of_getElem? (i := 67) rfl)), List.forall_mem_cons.mpr ⟨(lt_4 _ (List.mem_of_getElem? (i := 68) rfl)), List.forall_mem_cons.mpr ⟨(lt_7 _ (List.mem_of_getElem? (i := 214) rfl)), List.forall_mem_cons.mpr ⟨(lt_8 _ (List.mem_of_getElem? (i := 7) rfl)), List.forall_mem_cons.mpr ⟨(lt_8 _ (List.mem_of_getElem? (i := 5) rfl)), List.forall_mem_cons.mpr ⟨(lt_8 _ (List.mem_of_getElem? (i := 6) rfl)), List.forall_mem_cons.mpr ⟨(lt_8 _ (List.mem_of_getElem? (i := 8) rfl)), List.forall_mem_cons.mpr ⟨(lt_8 _ (List.mem_of_getElem? (i := 0) rfl)), List.forall_mem_cons.mpr ⟨(lt_8 _ (List.mem_of_getElem? (i := 9) rfl)), List.forall_mem_cons.mpr ⟨(lt_7 _ (List.mem_of_getElem? (i := 233) rfl)), List.forall_mem_cons.mpr ⟨(lt_7 _ (List.mem_of_getElem? (i := 234) rfl)), List.forall_mem_cons.mpr ⟨(lt_7 _ (List.mem_of_getElem? (i := 235) rfl)), List.forall_mem_cons.mpr ⟨(lt_3 _ (List.mem_of_getElem? (i := 159) rfl)), List.forall_mem_cons.mpr ⟨(lt_3 _ (List.mem_of_getElem? (i := 100) rfl)), List.forall_mem_cons.mpr ⟨(lt_7 _ (List.mem_of_getElem? (i := 3) rfl)), List.forall_mem_cons.mpr ⟨(lt_6 _ (List.mem_of_getElem? (i := 174) rfl)), List.forall_mem_cons.mpr ⟨(lt_6 _ (List.mem_of_getElem? (i := 190) rfl)), fun _ h => absurd h List.not_mem_nil⟩⟩⟩⟩⟩⟩⟩⟩⟩⟩⟩⟩⟩⟩⟩⟩⟩⟩⟩⟩⟩⟩⟩⟩⟩
theorem tb_st0 : Cond.laysStatic "java/lang/String" "COMPACT_STRINGS" "Z" ∈ lw_tbl ∧ Cond.initialized "java/lang/String" ∈ lw_tbl := ⟨(lt_4 _ (List.mem_of_getElem? (i := 19) rfl)), (lt_1 _ (List.mem_of_getElem? (i := 20) rfl))⟩
theorem tb_st1 : Cond.laysStatic "jdk/internal/util/Preconditions" "SIOOBE_FORMATTER" "Ljava/util/function/BiFunction;" ∈ lw_tbl ∧ Cond.initialized "jdk/internal/util/Preconditions" ∈ lw_tbl := ⟨(lt_4 _ (List.mem_of_getElem? (i := 35) rfl)), (lt_1 _ (List.mem_of_getElem? (i := 22) rfl))⟩
theorem tb_st2 : Cond.laysStatic Bundle.tN "UNASSIGNED_STACK" Bundle.steD ∈ lw_tbl ∧ Cond.initialized Bundle.tN ∈ lw_tbl := ⟨(lt_3 _ (List.mem_of_getElem? (i := 85) rfl)), (lt_1 _ (List.mem_of_getElem? (i := 14) rfl))⟩
theorem tb_st3 : Cond.laysStatic Bundle.tN "SUPPRESSED_SENTINEL" Bundle.listD ∈ lw_tbl ∧ Cond.initialized Bundle.tN ∈ lw_tbl := ⟨(lt_3 _ (List.mem_of_getElem? (i := 87) rfl)), (lt_1 _ (List.mem_of_getElem? (i := 14) rfl))⟩
theorem tb_ao : Cond.arrayOver (.object "SlotCoins$State") ∈ lw_tbl ∧ Cond.arrayOver (.object "SlotCoins$Tray") ∈ lw_tbl := ⟨(lt_2 _ (List.mem_of_getElem? (i := 7) rfl)), (lt_2 _ (List.mem_of_getElem? (i := 9) rfl))⟩
end
section
/-- the addresses: the cells from base on, words, their bytes, messages, the script -/
def zad (base b : Nat) (k v w : Nat → Nat) : Nat → Nat := fun i => if i < 1000 then base + i else if i < 1010 then k (i - 1000) else if i < 1100 then w (i - 1010) else if i < 2000 then v (i - 1100) else b
theorem vk_S.ext {N : Nat} {len : List Nat} {byt : List (List Int32)} {k v k' v' : Nat → Nat} {A : Nat → Prop} {U : State} {H : Heap} (h : vk_S N len byt k v A U H) (hk : ∀ i, i < N → k' i = k i) (hv : ∀ i, i < N → v' i = v i) : vk_S N len byt k' v' A U H :=
  ⟨fun i hi => by rw [hk i hi, hv i hi]; exact h.1 i hi, fun i j hi hj e => h.2 i j hi hj (by rw [← hk i hi, ← hk j hj]; exact e)⟩
theorem start_str {args : Array Value} {s : State} {A : Nat → Prop} (hg : ∀ c ∈ gvl, c.before args s = true) (hA : ∀ a : Nat, a < s.heap.size → ¬ A a) : ∃ k v w : Nat → Nat, vk_S 10 zSl zSb k v A s s.heap ∧ (∀ i, i < 10 → (tmS i).eval args s none [] s = some (.ref (k i))) ∧ (∀ i, i < 10 → (tmT i).eval args s none [] s = some (.ref (k i))) ∧ (∀ i, i < 5 → (tmM i).eval args s none [] s = some (.ref (w i))) := by
  obtain ⟨k, v, h1, h2⟩ := vk_Sof (args := args) (s := s) (N := 10) (tm := tmS) (len := zSl) (byt := zSb) (A := A) (by decide) (fun i hi => hg _ (gv_ex i hi)) (fun i hi => hg _ (gv_co i hi)) (fun i hi => hg _ (gv_ar i hi)) (fun i hi => hg _ (gv_le i hi)) (fun i hi j hj => hg _ (gv_el i hi j hj)) (fun i j hi hj h => (gv_ne i hi j hj h).elim (fun q => Or.inl (hg _ q)) (fun q => Or.inr (hg _ q))) hA
  have h0 : ∀ i : Nat, ∃ q : Nat, i < 5 → (tmM i).eval args s none [] s = some (.ref q) := by
    intro i
    by_cases hi : i < 5
    · obtain ⟨a, c, cA, kA, q1, -⟩ := Cond.exactly_spec (args := args) (first := s) (o := none) (s := s) (idx := []) (t := tmM i) (cls := "java/lang/String") (hg _ (gv_ms i hi))
      exact ⟨a, fun _ => q1⟩
    · exact ⟨0, fun h => absurd h hi⟩
  obtain ⟨w, hw⟩ := Classical.axiomOfChoice h0
  refine ⟨k, v, w, h1, h2, fun i hi => ?_, hw⟩
  rcases gv_eq i hi with h | h
  · exact va_eqR (hg _ h) (h2 i hi)
  · exact va_eqv (hg _ h) (h2 i hi)
theorem start_env {args : Array Value} {s : State} {A : Nat → Prop} (ht : ∀ w ∈ lw_tbl, w.before args s = true) (hg : ∀ c ∈ gvl, c.before args s = true) (hA : ∀ a : Nat, a < s.heap.size → ¬ A a) (base b : Nat) : ∃ k v w : Nat → Nat, zEnv zNest (zad base b k v w) A s s.heap := by
  obtain ⟨k, v, w, h1, h2, h3, h4⟩ := start_str hg hA
  refine ⟨k, v, w, fun x hx => va_Nw.of rfl (ht _ (tb_ne x hx)), fun x hx => va_Nw.of rfl (ht _ (tb_d1 x hx)), fun x hx => va_Nw.of rfl (ht _ (tb_d2 x hx)), fun x hx => va_Nc.of (hg _ (gv_nc x hx)), ?_, ?_, va_Zof (ht _ tb_st0.1) (ht _ tb_st0.2) (va_eqt (hg _ gv_st.1)) hA, va_Zqof (ht _ tb_st1.1) (ht _ tb_st1.2) (hg _ gv_st.2.1) hA, vx_Zqof (ht _ tb_st2.1) (ht _ tb_st2.2) (hg _ gv_st.2.2.1) hA, vx_Zqof (ht _ tb_st3.1) (ht _ tb_st3.2) (hg _ gv_st.2.2.2) hA⟩
  · have e1 : ∀ x ∈ zSt, (Term.string x.1 x.2.1).eval args s none [] s = some (.ref (zad base b k v w (1000 + x.2.2.2))) := by
      unfold zSt
      exact List.forall_mem_cons.mpr ⟨h2 0 (by decide), List.forall_mem_cons.mpr ⟨h2 1 (by decide), List.forall_mem_cons.mpr ⟨h2 2 (by decide), List.forall_mem_cons.mpr ⟨h2 3 (by decide), List.forall_mem_cons.mpr ⟨h2 4 (by decide), List.forall_mem_cons.mpr ⟨h2 5 (by decide), List.forall_mem_cons.mpr ⟨h2 6 (by decide), List.forall_mem_cons.mpr ⟨h2 7 (by decide), List.forall_mem_cons.mpr ⟨h2 8 (by decide), List.forall_mem_cons.mpr ⟨h2 9 (by decide), List.forall_mem_cons.mpr ⟨h3 0 (by decide), List.forall_mem_cons.mpr ⟨h3 1 (by decide), List.forall_mem_cons.mpr ⟨h3 2 (by decide), List.forall_mem_cons.mpr ⟨h3 3 (by decide), List.forall_mem_cons.mpr ⟨h3 4 (by decide), List.forall_mem_cons.mpr ⟨h3 5 (by decide), List.forall_mem_cons.mpr ⟨h3 6 (by decide), List.forall_mem_cons.mpr ⟨h3 7 (by decide), List.forall_mem_cons.mpr ⟨h3 8 (by decide), List.forall_mem_cons.mpr ⟨h3 9 (by decide), List.forall_mem_cons.mpr ⟨h4 0 (by decide), List.forall_mem_cons.mpr ⟨h4 1 (by decide), List.forall_mem_cons.mpr ⟨h4 2 (by decide), List.forall_mem_cons.mpr ⟨h4 3 (by decide), List.forall_mem_cons.mpr ⟨h4 4 (by decide), fun _ h => absurd h List.not_mem_nil⟩⟩⟩⟩⟩⟩⟩⟩⟩⟩⟩⟩⟩⟩⟩⟩⟩⟩⟩⟩⟩⟩⟩⟩⟩
    exact fun x hx => vk_R.of (ht _ (tb_sr x hx)) (e1 x hx)
  · refine vk_S.ext h1 (fun i hi => ?_) (fun i hi => ?_)
    · show zad base b k v w (1000 + i) = k i
      unfold zad
      rw [if_neg (by omega), if_pos (by omega), show 1000 + i - 1000 = i by omega]
    · show zad base b k v w (1100 + i) = v i
      unfold zad
      rw [if_neg (by omega), if_neg (by omega), if_neg (by omega), if_pos (by omega), show 1100 + i - 1100 = i by omega]
/-- the classes' numbers and slots, the arrays' classes -/
theorem start_cls {args : Array Value} {s : State} (ht : ∀ w ∈ lw_tbl, w.before args s = true) : ∃ D : va_G, ∃ d : Nat → ClassId, va_K D vwCl [(d 0, .int), (d 1, .long), (d 2, .byte), (d 3, .boolean), (d 4, .object "SlotCoins$State"), (d 5, .object "SlotCoins$Tray")] s := by
  have hz : ∀ w ∈ zW, w.before args s = true := fun w h => ht w (zWl w h)
  have h0 : ∀ c : Nat, ∃ z : ClassId × (Nat → Nat), ∀ q : vw_C, vwCl[c]? = some q → u_Kn s q.1 q.2.1 q.2.2 z.1 z.2 := by
    intro c
    cases hc : vwCl[c]? with
    | none => exact ⟨(0, fun _ => 0), fun q h => by cases h⟩
    | some q =>
      have hk : ∃ (cC : ClassId) (iS : Nat → Nat), u_Kn s q.1 q.2.1 q.2.2 cC iS := by
        have hm := List.mem_of_getElem? hc
        rcases List.mem_cons.mp hm with e | hm
        · subst e; exact u_known (ws := zW) hz zWuX0 (hz _ (zWi_17 _ (List.mem_of_getElem? (i := 27) rfl)))
        rcases List.mem_cons.mp hm with e | hm
        · subst e; exact u_known (ws := zW) hz zWuX1 (hz _ (zWi_17 _ (List.mem_of_getElem? (i := 28) rfl)))
        rcases List.mem_cons.mp hm with e | hm
        · subst e; exact u_known (ws := zW) hz zWuX2 (hz _ (zWi_17 _ (List.mem_of_getElem? (i := 32) rfl)))
        rcases List.mem_cons.mp hm with e | hm
        · subst e; exact u_known (ws := zW) hz zWuX3 (hz _ (zWi_17 _ (List.mem_of_getElem? (i := 33) rfl)))
        rcases List.mem_cons.mp hm with e | hm
        · subst e; exact u_known (ws := zW) hz zWuX4 (hz _ (zWi_17 _ (List.mem_of_getElem? (i := 34) rfl)))
        rcases List.mem_cons.mp hm with e | hm
        · subst e; exact u_known (ws := zW) hz zWuX5 (hz _ (zWi_17 _ (List.mem_of_getElem? (i := 35) rfl)))
        rcases List.mem_cons.mp hm with e | hm
        · subst e; exact u_known (ws := zW) hz zWuX6 (hz _ (zWi_17 _ (List.mem_of_getElem? (i := 36) rfl)))
        rcases List.mem_cons.mp hm with e | hm
        · subst e; exact u_known (ws := zW) hz zWuX7 (hz _ (zWi_17 _ (List.mem_of_getElem? (i := 37) rfl)))
        rcases List.mem_cons.mp hm with e | hm
        · subst e; exact u_known (ws := zW) hz zWuX8 (hz _ (zWi_17 _ (List.mem_of_getElem? (i := 38) rfl)))
        rcases List.mem_cons.mp hm with e | hm
        · subst e; exact u_known (ws := zW) hz zWuX9 (hz _ (zWi_17 _ (List.mem_of_getElem? (i := 39) rfl)))
        rcases List.mem_cons.mp hm with e | hm
        · subst e; exact u_known (ws := zW) hz zWuX10 (hz _ (zWi_17 _ (List.mem_of_getElem? (i := 29) rfl)))
        rcases List.mem_cons.mp hm with e | hm
        · subst e; exact u_known (ws := zW) hz zWuX11 (hz _ (zWi_17 _ (List.mem_of_getElem? (i := 30) rfl)))
        rcases List.mem_cons.mp hm with e | hm
        · subst e; exact u_known (ws := zW) hz zWuX12 (hz _ (zWi_17 _ (List.mem_of_getElem? (i := 31) rfl)))
        cases hm
      obtain ⟨cC, iS, h⟩ := hk
      exact ⟨(cC, iS), fun q' h' => by cases h'; exact h⟩
  obtain ⟨D, hD⟩ := Classical.axiomOfChoice h0
  have ha : ∀ ty : FieldType, (∀ (U : State) (cA : ClassId), U.vm.findClass ("[" ++ ty.toString) = some cA → va_RA U cA ty) → Cond.arrayClass ty ∈ zW → ∃ cA : ClassId, ArrOfT s cA ty ∧ va_RA s cA ty := by
    intro ty hr hw
    obtain ⟨c, k, comp, h1, h2, h3⟩ := Cond.arrayClass_spec (hz _ hw)
    exact ⟨c, fun n z => ⟨fun k h => (by cases h), k, h2, comp, h3⟩, hr _ _ h1⟩
  have hq : ∀ C : String, Cond.arrayOver (.object C) ∈ lw_tbl → ∃ cA : ClassId, ArrOfT s cA (.object C) ∧ va_RA s cA (.object C) := by
    intro C hw
    obtain ⟨comp, c, k, h1, h2, h3, h4, h5⟩ := Cond.arrayOver_spec (ht _ hw)
    exact ⟨c, fun n z => ⟨fun k h => (by cases h), k, h3, comp, h4⟩, k, comp, h3, h4, h1, h5⟩
  obtain ⟨d0, e0⟩ := ha .int (fun _ _ h => h) (zWi_0 _ (List.mem_of_getElem? (i := 2) rfl))
  obtain ⟨d1, e1⟩ := ha .long (fun _ _ h => h) (zWi_0 _ (List.mem_of_getElem? (i := 3) rfl))
  obtain ⟨d2, e2⟩ := ha .byte (fun _ _ h => h) (zWi_0 _ (List.mem_of_getElem? (i := 1) rfl))
  obtain ⟨d3, e3⟩ := ha .boolean (fun _ _ h => h) (zWi_0 _ (List.mem_of_getElem? (i := 0) rfl))
  obtain ⟨d4, e4⟩ := hq "SlotCoins$State" tb_ao.1
  obtain ⟨d5, e5⟩ := hq "SlotCoins$Tray" tb_ao.2
  refine ⟨(fun c => (D c).1, fun c => (D c).2), fun t => [d0, d1, d2, d3, d4, d5].getD t 0, fun c q h => hD c q h, fun k q hk => ?_⟩
  match k, hk with
  | 0, hk => cases hk; exact e0
  | 1, hk => cases hk; exact e1
  | 2, hk => cases hk; exact e2
  | 3, hk => cases hk; exact e3
  | 4, hk => cases hk; exact e4
  | 5, hk => cases hk; exact e5
  | k + 6, hk => cases hk
end
