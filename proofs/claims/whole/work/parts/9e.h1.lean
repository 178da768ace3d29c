section
variable {G : zG} {R : Room} {nL : Nat} {q : zq} {X : zX} {b : Nat × Nat} {cc : ByteArray} {Ts : List Cond} {own : String} {ret : Option FieldType} {pc : Nat} {ls : List (Option zV)} {st : List zV} {M : zM}
/-- at pc an exception zXn c is caught by a handler that answers n -/
def zHd (cc : ByteArray) (Ts : List Cond) (own : String) (nL pc c : Nat) (n : Int) : Prop :=
  ∃ (pre suf : List ExceptionTableEntry) (x : ExceptionTableEntry), tableOf (ztab Ts) = pre ++ x :: suf ∧
    (∀ z ∈ pre, z.catchType ≠ 0 ∧ ∃ nm, Cond.classLink own z.catchType nm ∈ Ts ∧ (zXn c, nm) ∈ zNc) ∧
    covers x pc = true ∧ x.catchType ≠ 0 ∧ Cond.classLink own x.catchType (zXn c) ∈ Ts ∧ zXn c ∈ zD2 ∧ zrI n ∧
    ((∃ i, i < nL ∧ decode cc x.handlerPc = .ok (.astore i, 2) ∧ decode cc (x.handlerPc + 2) = .ok (.iconst n, 1) ∧ decode cc (x.handlerPc + 2 + 1) = .ok (.ireturn, 1)) ∨
     (∃ k9 : Fin 4, (k9 : Nat) < nL ∧ decode cc x.handlerPc = .ok (.astore_n k9, 1) ∧ decode cc (x.handlerPc + 1) = .ok (.iconst n, 1) ∧ decode cc (x.handlerPc + 1 + 1) = .ok (.ireturn, 1)))
def zafh (G : zG) (R : Room) (nL : Nat) (q : zq) (X : zX) (cc : ByteArray) (Ts : List Cond) (own : String) (b : Nat × Nat) (pc : Nat) (ls : List (Option zV)) (st : List zV) : Option zV → zM → Prop
  | none, M => zK G R nL q X b (pc + 3) ls st M
  | some (.inl x), M => zK G R nL q X b (pc + 3) ls (zI x :: st) M
  | some (.inr (.inl x)), M => zK G R nL q X b (pc + 3) ls (zL x :: st) M
  | some (.inr (.inr k)), M => (k < 3000 → zK G R nL q X b (pc + 3) ls (zR k :: st) M) ∧ (3000 ≤ k → ∃ n, zHd cc Ts own nL pc (k - 3000) n ∧ q.1 (some (zI n)) M ∧ b.1 ≤ q.2.1 ∧ b.2 ≤ q.2.2)
theorem zafh_ret {r : Option zV} (h : zafh G R nL q X cc Ts own b pc ls st r M) (hr : ∀ k, r = some (zR k) → k < 3000) : zK G R nL q X b (pc + 3) ls (r.toList ++ st) M := by
  rcases r with _ | x | x | k
  · exact h
  · exact h
  · exact h
  · exact h.1 (hr k rfl)
/-- behind a call that may throw what this method catches -/
theorem zbehindH (S : zS G X cc nL Ts own ret) {mc ms : Nat} {sz : List Value} {H : Heap} {locs : List Loc} {arr : Array Slot} {Qp : Option zV → zM → Prop} {a : Array Value} (hri : ret = some .int)
    (hr : vx_Run X.1 X.2.1 X.2.2.1 R X.2.2.2.1 X.2.2.2.2.1 X.2.2.2.2.2.1 X.2.2.2.2.2.2.1 X.2.2.2.2.2.2.2.1 X.2.2.2.2.2.2.2.2 H locs b.1 b.2 mc ms (F0 X.2.2.2.2.1 pc arr sz) (st.map (zc G.2.1)) (zQc G (zA G.2.1 G.2.2.1 H.size) Qp a) (zQX G (zA G.2.1 G.2.2.1 H.size) Qp) (zA G.2.1 G.2.2.1 H.size))
    (ho : ∀ v ∈ st, zok v) (hl : zokL ls) (hS : va_S (zA G.2.1 G.2.2.1 X.2.2.2.1.heap.size) X.2.2.2.1.heap H locs) (hh : zhas G.2.1 arr nL ls)
    (kk : ∀ r M', Qp r M' → zafh G R nL q X cc Ts own (b.1 + mc, b.2 + ms) pc ls st r M') :
    W X.1 X.2.1 X.2.2.1 R X.2.2.2.1 X.2.2.2.2.1 X.2.2.2.2.2.1 X.2.2.2.2.2.2.1 X.2.2.2.2.2.2.2.1 X.2.2.2.2.2.2.2.2 H locs b.1 b.2 (vx_MQ X.2.2.2.2.2.2.1 (zQc G (zA G.2.1 G.2.2.1 X.2.2.2.1.heap.size) q.1) (zQX G (zA G.2.1 G.2.2.1 X.2.2.2.1.heap.size) q.1) X.2.2.2.2.2.1 X.2.2.2.1 q.2.1 q.2.2 (zA G.2.1 G.2.2.1 X.2.2.2.1.heap.size)) (F0 X.2.2.2.2.1 pc arr sz) := by
  have hA : ∀ z, zA G.2.1 G.2.2.1 H.size z → zA G.2.1 G.2.2.1 X.2.2.2.1.heap.size z := fun z hz => hz.elim Or.inl (fun h => Or.inr (Nat.le_trans hS.1 h))
  intro T hT XX
  rcases hr T hT XX with ⟨v, st₀, t, T', L, h0, X', hL, e1, e2, ⟨⟨r, M', hv, hp, hrk, hr3, hM', hP'⟩, hz, hk⟩, stp⟩ | ⟨z9, st₀, t, T', L, En, ce, h0, X', hL, e1, e2, ⟨⟨c9, M', hcn, hp, hM', hP'⟩, hz, hk⟩, hce, hcv, hcl, stp⟩
  all_goals rw [h0] at hz hk
  all_goals
    have hS' : va_S (zA G.2.1 G.2.2.1 X.2.2.2.1.heap.size) X.2.2.2.1.heap T'.heap (locs ++ L) :=
      ⟨Nat.le_trans hS.1 (by rw [e1]; exact hz), fun z h1 h2 => by rw [e1, hk z (Nat.lt_of_lt_of_le h1 hS.1) (fun y => h2 (hA z y))]; exact hS.2.1 z h1 h2, fun z hz => by
        rcases List.mem_append.mp hz with h | h
        · exact hS.2.2 z h
        · exact hA _ (hL z h)⟩
  · have hv : v = r.map (zc G.2.1) := by cases hv; rfl
    subst hv
    have hst : ∀ v ∈ r.toList ++ st, zok v := fun v hv => by
      rcases List.mem_append.mp hv with h | h
      · exact hrk v (Option.mem_toList.mp h)
      · exact ho v h
    obtain ⟨t2, a1, b1⟩ := zafh_ret (kk r M' hp) hr3 hst hl hM' T'.heap (locs ++ L) arr (by rw [e1]; exact hP') hS' hh T' rfl X'
    refine ⟨t2, stp t2 ?_, b1⟩
    have e : (r.map (zc G.2.1)).toList ++ st.map (zc G.2.1) = (r.toList ++ st).map (zc G.2.1) := by cases r <;> simp
    rw [e]
    exact a1
  · obtain ⟨n, ⟨pre, suf, x, k1, k2, k3, k4, k5, k6, k7, k8⟩, hq9, hb1, hb2⟩ := (kk _ M' hp).2 (by omega)
    rw [show 3000 + c9 - 3000 = c9 by omega] at k2 k5 k6
    subst hcn
    have hrt : ∀ {pc9 : Nat} {arr9 : Array Slot}, decode cc pc9 = .ok (.ireturn, 1) → W X.1 X.2.1 X.2.2.1 R X.2.2.2.1 X.2.2.2.2.1 X.2.2.2.2.2.1 X.2.2.2.2.2.2.1 X.2.2.2.2.2.2.2.1 X.2.2.2.2.2.2.2.2 T'.heap (locs ++ L) (b.1 + mc) (b.2 + ms) (vx_MQ X.2.2.2.2.2.2.1 (zQc G (zA G.2.1 G.2.2.1 X.2.2.2.1.heap.size) q.1) (zQX G (zA G.2.1 G.2.2.1 X.2.2.2.1.heap.size) q.1) X.2.2.2.2.2.1 X.2.2.2.1 q.2.1 q.2.2 (zA G.2.1 G.2.2.1 X.2.2.2.1.heap.size)) (F0 X.2.2.2.2.1 pc9 arr9 [.int (Int32.ofInt n)]) := fun {pc9 arr9} hd9 => by
      refine W.widen hb1 hb2 (vx_ret ?_)
      exact W.iret S.1.1 S.1.2.1 (by rw [S.2.2.2.1, hri]) (fun t ht hW => ⟨⟨some (zI n), M', rfl, hq9, fun v hv => by cases hv; exact k7, fun k hk => (by cases hk), hM', by rw [ht, e1]; exact hP'⟩, hS'.F ht⟩) hS'.2.2 hd9 S.2.2.2.2.1
    have hgo : W X.1 X.2.1 X.2.2.1 R X.2.2.2.1 X.2.2.2.2.1 X.2.2.2.2.2.1 X.2.2.2.2.2.2.1 X.2.2.2.2.2.2.2.1 X.2.2.2.2.2.2.2.2 T'.heap (locs ++ L) (b.1 + mc) (b.2 + ms) (vx_MQ X.2.2.2.2.2.2.1 (zQc G (zA G.2.1 G.2.2.1 X.2.2.2.1.heap.size) q.1) (zQX G (zA G.2.1 G.2.2.1 X.2.2.2.1.heap.size) q.1) X.2.2.2.2.2.1 X.2.2.2.1 q.2.1 q.2.2 (zA G.2.1 G.2.2.1 X.2.2.2.1.heap.size)) (F0 X.2.2.2.2.1 x.handlerPc arr [.ref z9]) := by
      rcases k8 with ⟨i, i1, d1, d2, d3⟩ | ⟨k9, i1, d1, d2, d3⟩
      · exact lv_astore S.1.1 S.1.2.1 d1 hh.lv i1 rfl (fun arr1 hh1 => lv_iconst S.1.1 S.1.2.1 d2 rfl (hrt d3))
      · exact lv_astore_n S.1.1 S.1.2.1 d1 rfl hh.lv i1 rfl (fun arr1 hh1 => lv_iconst S.1.1 S.1.2.1 d2 rfl (hrt d3))
    have hcast : (Cond.castable (zXn c9) (zXn c9)).before X.2.2.2.2.2.1 X.2.2.2.1 = true := va_tabs rfl rfl (S.2.2.2.2.2.1.2.2.1 _ k6)
    obtain ⟨t2, a1, b1⟩ := (vx_catch (own := own) (name := zXn c9) (ls := arr) (rest := st.map (zc G.2.1)) (pc := pc) S.1.2.2.2.1 pre x suf (by rw [S.2.2.2.2.2.2.2, k1]) (fun z hz => Or.inr ⟨(k2 z hz).1, (k2 z hz).2.imp (fun nm h => ⟨S.1.2.2.2.2 _ h.1, S.2.2.2.2.2.1.2.2.2.1 _ h.2⟩)⟩) k3 k4 (S.1.2.2.2.2 _ k5) hcast (by rw [e1]; exact hce) hcv hcl hgo) T' rfl X'
    exact ⟨t2, stp.trans a1, b1⟩
theorem zr_invVH (S : zS G X cc nL Ts own ret) {i k ci maxL mc ms : Nat} {y : MethodName} {wsy : List Cond} {rm9 : Room} {bytes : ByteArray} {ret9 : Option FieldType} {sp : List zV → zM → (Option zV → zM → Prop) → Prop} {C : String} {T : u_T} {Nf : Nat} {sl : List Nat} (as : List zV) (hM9 : zMet X.2.1 G.1 G.2.2.1 G.2.2.2.1 G.2.2.2.2 y wsy rm9 mc ms sp) (cw : ∀ (s9 : State) (a9 : Array Value), (∀ w ∈ Ts, w.before a9 s9 = true) → CallW R s9 a9 own C i y bytes maxL ret9 wsy rm9 mc ms as.length) (hd : decode cc pc = .ok (.invokevirtual i, 3)) (hY : G.1 k = .inr (ci, sl)) (hk : k < G.2.2.1) (hc : G.2.2.2.1[ci]? = some (C, T, Nf)) (hst : zdep st ≤ 8) (hb : b.1 + mc ≤ R.cells ∧ b.2 + ms ≤ R.slots) (hri : ret = some .int) (hsp : sp (zR k :: as) M (fun r M' => zafh G R nL q X cc Ts own (b.1 + mc, b.2 + ms) pc ls st r M')) : zK G R nL q X b pc ls (as.reverse ++ zR k :: st) M := by
  intro ho hl hM H locs arr hP hS hh
  have hoa : ∀ v ∈ as, zok v := fun v hv => ho v (List.mem_append_left _ (List.mem_reverse.mpr hv))
  have hot : ∀ v ∈ st, zok v := fun v hv => ho v (List.mem_append_right _ (List.mem_cons_of_mem _ hv))
  have hMet := hM9 S.2.2.2.2.2.2.1 G.2.1 H.size (zR k :: as) M _ (zokc (v := zR k) trivial hoa) hM S.2.2.1 hsp
  have he : (as.reverse ++ zR k :: st).map (zc G.2.1) = (as.map (zc G.2.1)).reverse ++ .ref (G.2.1.2.2 k) :: st.map (zc G.2.1) := by simp [zc]
  have hg := zw_get (Y := G.1) (E := G.2.1) (M := M) hk
  rw [hY] at hg
  rw [he]
  exact zbehindH S hri (vx_runV (As := as.map (zc G.2.1)) (rest := st.map (zc G.2.1)) S.1 hMet (cw _ _ S.1.2.2.2.2) ⟨zPcBlind, va_recv S.2.1 hP hc hg, fun U hU hW => ⟨rfl, by rw [hU], by rw [hU]; exact hP, va_K.moved hW.alike S.2.1, zenvC S hS hU hW⟩⟩ rfl (by rw [List.length_map]) hh.1 rfl (by rw [zdep_eq]; show 2 * 0 + _ ≤ 8; omega) hd hb) hot hl hS hh (fun r M' h => h)
theorem zMet.ofH {l : Launch} {Y : zY} {N : Nat} {cl : List vw_C} {nw : zN} {y : MethodName} {ws ws' : List Cond} {rm : Room} {mc ms : Nat} {sp : List zV → zM → (Option zV → zM → Prop) → Prop} {cc : ByteArray} {nL : Nat} {ret : Option FieldType} {hh : List (Nat × Nat × Nat × Nat)} (own : String)
    (hy : plainName y.cls = true) (hw : ws = Cond.codeWith y cc nL ret hh :: ws') (ho : y.cls = own)
    (body : ∀ (E : zE) (X : zX) (as : List zV) (M : zM) (Qp : Option zV → zM → Prop), X.2.1 = l → zS (Y, E, N, cl, nw) X cc nL ws own ret → sp as M Qp → (zargs as).length ≤ nL ∧ zK (Y, E, N, cl, nw) rm nL (Qp, mc, ms) X (0, 0) 0 (zpad nL (zargs as)) [] M) : zMet l Y N cl nw y ws rm mc ms sp := by
  intro hfl E sz as M Qp hok hM hinj hsp
  refine vx_ofWH (cc := cc) (maxL := nL) (ret := ret) hy hw ?_
  intro p e s m args below meth c s₁ B hml hv
  have hts := atoms_spec (ws := ws) B.pre
  have htab2 : c.exceptionTable.toList = tableOf (ztab ws) := by
    have h9 := vx_table (x := y) B (hts (Cond.codeWith y cc nL ret hh) (by rw [hw]; exact List.mem_cons_self))
    rw [h9, hw]
    rfl
  obtain ⟨rfl, hsz, hP, hK, hN⟩ := hv
  subst hsz
  have hown : s.vm.findClass own = some m.cls := by rw [← ho]; exact findClass_of_methodNamed B.named
  have S : zS (Y, E, N, cl, nw) (p, l, e, s, m, (as.map (zc E)).toArray, below, meth, c) cc nL ws own ret := ⟨⟨B.exec, B.bytes, hml, hown, hts⟩, hK, hinj, B.returns, B.notSynchronized, hN, hfl, htab2⟩
  obtain ⟨hlen, k⟩ := body E (p, l, e, s, m, (as.map (zc E)).toArray, below, meth, c) as M Qp rfl S hsp
  rw [lg_entry_eq]
  have hl := lv_entry (as.map (zc E)) (n := nL) (by rw [zargs_len]; exact hlen)
  refine k (fun v hv => by cases hv) (fun i v hv => zargs_ok as hok i v (zpad_get _ _ _ _ hv)) hM s.heap [] _ hP va_S.rf ⟨hl.1, hl.2.1, fun i v hv => ?_⟩
  have := hl.2.2 _ (zargs_get E as 0 i v (zpad_get _ _ _ _ hv))
  rw [Nat.zero_add] at this
  exact this
end
