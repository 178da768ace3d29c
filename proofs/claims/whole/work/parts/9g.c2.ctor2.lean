section
variable {E : zE} {a : Nat} {R : Room} {nL : Nat} {X : zX} {Q : State → Prop} {b : Nat × Nat} {cc : ByteArray} {Ts : List Cond} {own : String} {pc : Nat} {ls : List (Nat × Value)} {st : List Value} {n : Nat} {u : List (Nat × va_E)}
theorem zj_get (S : zB E X cc nL Ts own) {i ci N j k q : Nat} {C : String} {T : u_T} (v : Value) {fs : List Value} (hd : decode cc pc = .ok (.getfield i, 3)) (hq : a + j = q) (hjn : j < n) (hj : zlk u j = some (.inr (ci, fs))) (hc : vwCl[ci]? = some (C, T, N)) (hu : ∀ w ∈ u_ws C T N, w ∈ Ts) (hk : k < N) (hl : Cond.fieldLink own i (T k).1 (T k).2.1 (T k).2.2.1 ∈ Ts) (hv : fs[k]? = some v) (kk : zJ E a R nL X Q b (pc + 3) ls (v :: st) n u) : zJ E a R nL X Q b pc ls (.ref q :: st) n u := by
  intro H locs arr hH hS hh
  subst hq
  exact va_get (D := E.1) (ws := [(a + j, .inr (ci, fs))]) S.1.1 S.1.2.1 S.1.2.2.2.2 hu S.1.2.2.2.1 S.2.1 (zP1 (hH.2 j _ hjn hj)) 0 rfl hc k hk (S.1.2.2.2.2 _ hl) (fun _ h9 => h9) hv hd (kk H locs arr hH hS hh)
theorem zj_getW (S : zB E X cc nL Ts own) {i ci N k q : Nat} {C : String} {T : u_T} (v : Value) {fs : List Value} (hd : decode cc pc = .ok (.getfield i, 3)) (hw : q < a ∧ va_at E.1 vwCl (q, .inr (ci, fs)) X.2.2.2.1.heap) (hz : X.2.2.2.1.heap.size = a + 1) (hc : vwCl[ci]? = some (C, T, N)) (hu : ∀ w ∈ u_ws C T N, w ∈ Ts) (hk : k < N) (hl : Cond.fieldLink own i (T k).1 (T k).2.1 (T k).2.2.1 ∈ Ts) (hv : fs[k]? = some v) (kk : zJ E a R nL X Q b (pc + 3) ls (v :: st) n u) : zJ E a R nL X Q b pc ls (.ref q :: st) n u := by
  intro H locs arr hH hS hh
  have hx : va_at E.1 vwCl (q, .inr (ci, fs)) H := hw.2.kept (hS.2.1 q (by rw [hz]; omega) (by omega))
  exact va_get (D := E.1) (ws := [(q, .inr (ci, fs))]) S.1.1 S.1.2.1 S.1.2.2.2.2 hu S.1.2.2.2.1 S.2.1 (zP1 hx) 0 rfl hc k hk (S.1.2.2.2.2 _ hl) (fun _ h9 => h9) hv hd (kk H locs arr hH hS hh)
theorem zj_put (S : zB E X cc nL Ts own) (hin2 : X.2.2.2.2.2.2.2.1.name = "<init>") {i ci N j k q : Nat} {C : String} {T : u_T} {ty0 : Nat → FieldType} (ty : FieldType) (v : Value) {fs : List Value} (hd : decode cc pc = .ok (.putfield i, 3)) (hq : a + j = q) (hjn : j < n) (hj : zlk u j = some (.inr (ci, fs))) (hc : vwCl[ci]? = some (C, T, N)) (hu : ∀ w ∈ u_ws C T N, w ∈ Ts) (hty : ∀ k, k < N → parseFieldDescriptor (T k).2.2.1 = some (ty0 k)) (hnm : ∀ a, a < N → ∀ b, b < N → a ≠ b → (T a).2.1 ≠ (T b).2.1) (hk : k < N) (hl : Cond.fieldLink own i (T k).1 (T k).2.1 (T k).2.2.1 ∈ Ts) (hdecl : (T k).1 = own) (hp : parseFieldDescriptor (T k).2.2.1 = some ty) (hn : narrow ty v = v) (hfit : fits ty v = true) (hlen : k < fs.length) {fs' : List Value} (hfs : fs.set k v = fs') (kk : zJ E a R nL X Q b (pc + 3) ls st n ((j, .inr (ci, fs')) :: u)) : zJ E a R nL X Q b pc ls (v :: .ref q :: st) n u := by
  intro H locs arr hH hS hh
  subst hq
  subst hfs
  have hts := S.1.2.2.2.2
  have hap := va_apart (own := own) hts hu ty0 hty hnm S.2.1 hc
  obtain ⟨r, h1, cell, q1, q2, q3, q4⟩ := hH.2 j _ hjn hj
  have hr : r = (C, T, N) := Option.some.inj (h1.symm.trans hc)
  subst hr
  obtain ⟨hSl, hfc, kC, hkC, hkind⟩ := S.2.1.1 ci _ hc
  obtain ⟨cf, kf, fi, f, hi, hsl⟩ := hSl k hk
  have hlay := hts _ (hu _ (u_in_lay hk))
  have hst := (u_facts hfc hkC (u_lays hts hu hk) hi).1
  have fin : ∀ H' : Heap, H'[a + j]? = some (cell.setSlot f.slot v) → H'.size = H.size → (∀ q, q ≠ a + j → H'[q]? = H[q]?) → W X.1 X.2.1 X.2.2.1 R X.2.2.2.1 X.2.2.2.2.1 X.2.2.2.2.2.1 X.2.2.2.2.2.2.1 X.2.2.2.2.2.2.2.1 X.2.2.2.2.2.2.2.2 H' (locs ++ [⟨a + j, f.slot⟩]) b.1 b.2 Q (F0 X.2.2.2.2.1 (pc + 3) arr st) := by
    intro H' e1 e2 e3
    rw [hsl] at e1 ⊢
    exact kk H' _ arr (hH.set e2 e3 ⟨_, hc, t_OB.to (V := updV (vp_V fs) k v) ⟨_, e1, q2, q3, t_set q4 hap hk v⟩ (fun i _ => vp_updV_set hlen v i)⟩) (hS.put e2 e3 (Nat.le_add_right a j)) hh
  unfold u_lay at hlay
  by_cases hfin : (T k).2.2.2 = true
  · rw [if_pos hfin] at hlay
    have hcf : X.2.2.2.2.1.cls = cf := by
      obtain ⟨_, _, c', _, _, _, -, -, hf', -, -, -, hown2, -⟩ := Cond.laysFinal_spec hlay
      have e1 : c' = cf := by have := hi.symm.trans hf'; simp at this; exact this.1.symm
      rw [hdecl] at hown2
      rw [← e1]; exact Option.some.inj (S.1.2.2.2.1.symm.trans hown2)
    have h6 := u_fits hfc hkC hkind (Or.inr hlay) hi hp hn hfit
    exact W.putFinK S.1.1 S.1.2.1 S.1.2.2.2.1 (hts _ hl) hi hst hcf hin2 (by rw [q2]; exact h6) q1 q3 (by rw [hsl]; exact k2_hasslot (q4 k hk)) rfl rfl hd fin
  · rw [if_neg hfin] at hlay
    have h6 := u_store hfc hkC hkind hlay hi hp hn hfit
    exact W.putK S.1.1 S.1.2.1 (f := f) ⟨S.1.2.2.2.1, hts _ hl, ⟨_, _, _, hi⟩, hst⟩ (by rw [q2]; exact h6) q1 q3 (by rw [hsl]; exact k2_hasslot (q4 k hk)) rfl rfl hd fin
theorem zj_iast (S : zB E X cc nL Ts own) {j N q : Nat} {f : Nat → Int} (x : Nat) {xi v : Int} (hd : decode cc pc = .ok (.iastore, 1)) (hq : a + j = q) (hjn : j < n) (hj : zlk u j = some (zce E (.inl (0, N)) f)) (hxi : (x : Int) = xi) (hx : x < N) (hN : N < 2147483648) (kk : zJ E a R nL X Q b (pc + 1) ls st n ((j, zce E (.inl (0, N)) (fun i => if i = x then v else f i)) :: u)) : zJ E a R nL X Q b pc ls (.int (Int32.ofInt v) :: .int (Int32.ofInt xi) :: .ref q :: st) n u := by
  intro H locs arr hH hS hh
  subst hq
  subst hxi
  have hi := zI_in (i := (x : Int)) (n := N) (by omega) (by omega) ⟨by omega, by omega⟩
  have hP : H[a + j]? = some (vp_cell (E.2.1 0) (N, .inl (fun i => Int32.ofInt (f i)))) := hH.2 j _ hjn hj
  refine W.iast S.1.1 S.1.2.1 hP ((S.2.1.2 0 _ rfl).1 N (fun j => .int (Int32.ofInt (f j)))) (fun q => by cases q) (by show ¬ (_ < 0 ∨ (arrV _ _ _).slots.size ≤ _); rw [arrV_size]; exact hi.1) rfl rfl hd fun H1 e z oq => ?_
  refine kk H1 _ arr (hH.set z oq ?_) (hS.put z oq (Nat.le_add_right a j)) hh
  show H1[a + j]? = some (vp_cell (E.2.1 0) (N, .inl (fun i => Int32.ofInt (if i = x then v else f i))))
  rw [e, show (Int32.ofInt (x : Int)).toNatClampNeg = x from hi.2, vp_cell_i, vp_cell_i, arrV_store]
  congr 2
  funext i
  by_cases hix : i = x
  · subst hix
    simp [updV]
  · simp [updV, hix]
theorem zj_aast (S : zB E X cc nL Ts own) {j jv ci N t q v : Nat} {r : vw_C} {f : Nat → Option Nat} (x : Nat) {xi : Int} {vs : List Value} (hd : decode cc pc = .ok (.aastore, 1)) (hq : a + j = q) (hv : a + jv = v) (hjn : j < n) (hvn : jv < n) (hj : zlk u j = some (.inl (E.2.1 t, N, .inr (.inr (.inr (.inr f)))))) (hjv : zlk u jv = some (.inr (ci, vs))) (hc : vwCl[ci]? = some r) (ht : (zt E)[t]? = some (E.2.1 t, .object r.1)) (hxi : (x : Int) = xi) (hx : x < N) (hN : N < 2147483648) (kk : zJ E a R nL X Q b (pc + 1) ls st n ((j, .inl (E.2.1 t, N, .inr (.inr (.inr (.inr (va_up f x (some v))))))) :: u)) : zJ E a R nL X Q b pc ls (.ref v :: .int (Int32.ofInt xi) :: .ref q :: st) n u := by
  intro H locs arr hH hS hh
  subst hq
  subst hv
  subst hxi
  have hi := zI_in (i := (x : Int)) (n := N) (by omega) (by omega) ⟨by omega, by omega⟩
  have hP : H[a + j]? = some (vp_cell (E.2.1 t) (N, .inr (.inr (.inr (.inr f))))) := hH.2 j _ hjn hj
  obtain ⟨r', hr', cellV, g1, g2, g3, -⟩ := hH.2 jv _ hvn hjv
  have hcls := (S.2.1.1 ci r hc).2
  obtain ⟨kA, comp, k1, k2, k3, -⟩ := (S.2.1.2 t _ ht).2
  have hcomp : comp = E.1.1 ci := Option.some.inj (k3.symm.trans hcls.1)
  subst hcomp
  obtain ⟨kC, hkC, -⟩ := hcls.2
  have h0 : ¬ Int32.ofInt (x : Int) < 0 := fun z => hi.1 (Or.inl z)
  refine W.aast S.1.1 S.1.2.1 hP (fun q h => by cases h) (fun h => by cases h) k1 k2 rfl hkC ⟨h0, by show _ < (arrV _ _ _).slots.size; rw [arrV_size, show (Int32.ofInt (x : Int)).toNatClampNeg = x from hi.2]; exact hx⟩ g1 (fun q h => by rw [g3] at h; cases h) (by rw [g2]; exact hkC) (by rw [g2]; exact va_assign hcls) rfl rfl hd fun H1 e z oq => ?_
  refine kk H1 _ arr (hH.set z oq ?_) (hS.put z oq (Nat.le_add_right a j)) hh
  show H1[a + j]? = some (vp_cell (E.2.1 t) (N, .inr (.inr (.inr (.inr (va_up f x (some (a + jv))))))))
  rw [e, show (Int32.ofInt (x : Int)).toNatClampNeg = x from hi.2, vp_cell_q, vp_cell_q, arrV_store]
  congr 2
  funext i
  by_cases hix : i = x
  · subst hix
    simp [updV, va_up, va_rf]
  · simp [updV, va_up, hix]
theorem zcPre {l0 : Nat} {as : List Value} {W1 : List (Nat × va_E)} {e0 : va_E} {H : Heap} (hU : zU E X.2.2.2.1) (hc : zH E l0 1 [(0, e0)] H) (hW : ∀ x ∈ W1, x.1 < l0 ∧ va_at E.1 vwCl x H) : PreS X.2.2.2.1 H (va_Pc (.ref l0 :: as) (fun U => zH E l0 1 [(0, e0)] U.heap ∧ (∀ x ∈ W1, x.1 < l0 ∧ va_at E.1 vwCl x U.heap) ∧ zU E U)) (.ref l0 :: as) :=
  ⟨fun a U g mk q => by
    obtain ⟨q0, q1, q2, q3⟩ := q
    exact ⟨q0, q1, q2, zU.same (u := U) (U := U.calling g mk a) rfl q3⟩, fun U hU1 hW1 => ⟨rfl, by rw [hU1]; exact hc, by rw [hU1]; exact hW, zU.warm hW1 hU⟩⟩
theorem zcAft {n0 m' : Nat} {out : List (Nat × va_E)} {H H1 : Heap} (hf : (List.range m').all (fun j => (zlk out j).isSome) = true) (hH : zH E a (n0 + 1) u H) (h1 : zH E (a + n0) m' out H1) (hk : ∀ q : Nat, q < H.size → ¬ a + n0 ≤ q → H1[q]? = H[q]?) : zH E a (n0 + m') (zsh n0 out ++ u) H1 := by
  refine ⟨by have h0 := h1.1; omega, fun j e hj he => ?_⟩
  by_cases hn : j < n0
  · rw [zlk_app0 _ _ _ (zlk_sh0 n0 out j hn)] at he
    exact (hH.2 j e (by omega) he).kept (hk (a + j) (by have h0 := hH.1; omega) (by omega))
  · obtain ⟨i, rfl⟩ : ∃ i, j = n0 + i := ⟨j - n0, by omega⟩
    have hs : (zlk out i).isSome = true := List.all_eq_true.mp hf i (List.mem_range.mpr (by omega))
    obtain ⟨e', he'⟩ := Option.isSome_iff_exists.mp hs
    rw [zlk_app _ _ _ e' (by rw [zlk_sh]; exact he')] at he
    cases he
    have := h1.2 i e (by omega) he'
    rw [Nat.add_assoc] at this
    exact this
theorem zcBef {n0 : Nat} {e0 : va_E} {H : Heap} (hH : zH E a (n0 + 1) u H) (h0 : zlk u n0 = some e0) : zH E (a + n0) 1 [(0, e0)] H := by
  refine ⟨by have h0 := hH.1; omega, fun j e hj he => ?_⟩
  have ej : j = 0 := by omega
  subst ej
  rw [zlk_s] at he
  cases he
  exact hH.2 n0 e0 (by omega) h0
/-- a constructor's call, 'this' the last cell -/
theorem zj_call (S : zB E X cc nL Ts own) (b' : Nat × Nat) {i maxL mc ms n0 m' n' q na : Nat} {y : MethodName} {wsy : List Cond} {rm9 : Room} {bytes : ByteArray} {W1 : List (Nat × va_E)} {e0 : va_E} {out : List (Nat × va_E)} (as : List Value) (hM : zcM X.2.1 y wsy rm9 mc ms E (a + n0) as W1 e0 m' out) (cw : ∀ (s9 : State) (a9 : Array Value), (∀ w ∈ Ts, w.before a9 s9 = true) → CallB R s9 a9 own i y bytes maxL none wsy rm9 mc ms na ∧ y.name = "<init>" ∧ (Cond.instanceMethod y).before a9 s9 = true) (hd : decode cc pc = .ok (.invokespecial i, 3)) (hna : as.length = na) (hq : a + n0 = q) (h0 : zlk u n0 = some e0) (hn : n0 + 1 = n) (hn' : n0 + m' = n') (hst : (st.map fun v => v.category).sum ≤ 8) (hb : b.1 + mc = b'.1 ∧ b.2 + ms = b'.2 ∧ b'.1 ≤ R.cells ∧ b'.2 ≤ R.slots) (hW : ∀ x ∈ W1, ∃ j, j < n0 ∧ zlk u j = some x.2 ∧ x.1 = a + j) (hf : (List.range m').all (fun j => (zlk out j).isSome) = true) (kk : zJ E a R nL X Q b' (pc + 3) ls st n' (zsh n0 out ++ u)) : zJ E a R nL X Q b pc ls (as.reverse ++ .ref q :: st) n u := by
  intro H locs arr hH hS hh
  subst hq
  subst hn
  subst hn'
  have hW1 : ∀ x ∈ W1, x.1 < a + n0 ∧ va_at E.1 vwCl x H := fun x hx => by
    obtain ⟨j, h1, h2, h3⟩ := hW x hx
    have := hH.2 j _ (by omega) h2
    rw [← h3] at this
    exact ⟨by omega, this⟩
  refine va_callv (va_runI (As := as) (rest := st) S.1 hM (cw _ _ S.1.2.2.2.2) (zcPre S.2 (zcBef hH h0) hW1) rfl hna hh.1 rfl (lv_room hst) hd ⟨by rw [hb.1]; exact hb.2.2.1, by rw [hb.2.1]; exact hb.2.2.2⟩) hS (fun q _ h => Nat.le_trans (Nat.le_add_right a n0) h) (fun q h => Nat.le_trans (Nat.le_add_right a n0) h) (fun _ t H1 locs1 ht _ _ hB hz hk hS1 => ?_)
  have hB : zH E (a + n0) m' out t.heap := hB
  rw [ht] at hB
  rw [hb.1, hb.2.1]
  exact kk H1 locs1 arr (zcAft hf hH hB hk) hS1 hh
theorem zj_callN (S : zB E X cc nL Ts own) (b' : Nat × Nat) {host : String} {i maxL mc ms n0 m' n' q na : Nat} {y : MethodName} {wsy : List Cond} {rm9 : Room} {bytes : ByteArray} {W1 : List (Nat × va_E)} {e0 : va_E} {out : List (Nat × va_E)} (as : List Value) (hM : zcM X.2.1 y wsy rm9 mc ms E (a + n0) as W1 e0 m' out) (cw : ∀ (s9 : State) (a9 : Array Value), (∀ w ∈ Ts, w.before a9 s9 = true) → va_Nw (.methodLinkNest own i y host) s9 → va_CN R s9 a9 own i y host bytes maxL none wsy rm9 mc ms na ∧ y.name = "<init>" ∧ (Cond.instanceMethod y).before a9 s9 = true) (hnl : (own, i, y, host) ∈ zNest) (hd : decode cc pc = .ok (.invokespecial i, 3)) (hna : as.length = na) (hq : a + n0 = q) (h0 : zlk u n0 = some e0) (hn : n0 + 1 = n) (hn' : n0 + m' = n') (hst : (st.map fun v => v.category).sum ≤ 8) (hb : b.1 + mc = b'.1 ∧ b.2 + ms = b'.2 ∧ b'.1 ≤ R.cells ∧ b'.2 ≤ R.slots) (hW : ∀ x ∈ W1, ∃ j, j < n0 ∧ zlk u j = some x.2 ∧ x.1 = a + j) (hf : (List.range m').all (fun j => (zlk out j).isSome) = true) (kk : zJ E a R nL X Q b' (pc + 3) ls st n' (zsh n0 out ++ u)) : zJ E a R nL X Q b pc ls (as.reverse ++ .ref q :: st) n u := by
  intro H locs arr hH hS hh
  subst hq
  subst hn
  subst hn'
  have hW1 : ∀ x ∈ W1, x.1 < a + n0 ∧ va_at E.1 vwCl x H := fun x hx => by
    obtain ⟨j, h1, h2, h3⟩ := hW x hx
    have := hH.2 j _ (by omega) h2
    rw [← h3] at this
    exact ⟨by omega, this⟩
  refine va_callv (va_runIN (As := as) (rest := st) S.1 hM (cw _ _ S.1.2.2.2.2 (S.2.2.1 _ hnl)) (zcPre S.2 (zcBef hH h0) hW1) rfl hna hh.1 rfl (lv_room hst) hd ⟨by rw [hb.1]; exact hb.2.2.1, by rw [hb.2.1]; exact hb.2.2.2⟩) hS (fun q _ h => Nat.le_trans (Nat.le_add_right a n0) h) (fun q h => Nat.le_trans (Nat.le_add_right a n0) h) (fun _ t H1 locs1 ht _ _ hB hz hk hS1 => ?_)
  have hB : zH E (a + n0) m' out t.heap := hB
  rw [ht] at hB
  rw [hb.1, hb.2.1]
  exact kk H1 locs1 arr (zcAft hf hH hB hk) hS1 hh
/-- the end: the cells by their list -/
theorem zj_ret (S : zB E X cc nL Ts own) (hi : zBi X) {mc ms : Nat} {out : List (Nat × va_E)} (hd : decode cc pc = .ok (.return_, 1)) (hb : b.1 ≤ mc ∧ b.2 ≤ ms) (ho : ∀ (j : Nat) (e : va_E) (H : Heap), j < n → zlk out j = some e → zH E a n u H → va_at E.1 vwCl (a + j, e) H) : zJ E a R nL X (MQ X.2.2.2.2.2.2.1 (zcQ E a n out) X.2.2.2.2.2.1 X.2.2.2.1 mc ms (fun q => a ≤ q)) b pc ls [] n u := by
  intro H locs arr hH hS hh
  refine W.widen hb.1 hb.2 ?_
  exact W.vret S.1.1 S.1.2.1 hi.2.1 (fun t ht hW => ⟨⟨(), rfl, trivial, by show zH E a n out t.heap; rw [ht]; exact ⟨hH.1, fun j e hj he => ho j e H hj he hH⟩⟩, hS.F ht⟩) hS.2.2 hd hi.2.2
end
