section
/-- cells by their numbers, the latest first -/
def zlk : List (Nat × va_E) → Nat → Option va_E
  | [], _ => none
  | (k, e) :: r, j => match Nat.beq k j with
    | true => some e
    | false => zlk r j
def zsh (q : Nat) : List (Nat × va_E) → List (Nat × va_E)
  | [] => []
  | (k, e) :: r => (q + k, e) :: zsh q r
def zix : Nat → List va_E → List (Nat × va_E)
  | _, [] => []
  | q, e :: r => (q, e) :: zix (q + 1) r
theorem zlk_s {k : Nat} {e : va_E} {r : List (Nat × va_E)} : zlk ((k, e) :: r) k = some e := by
  show (match Nat.beq k k with | true => some e | false => zlk r k) = some e
  rw [show Nat.beq k k = true from Nat.beq_refl k]
theorem zlk_o {k j : Nat} {e : va_E} {r : List (Nat × va_E)} (h : j ≠ k) : zlk ((k, e) :: r) j = zlk r j := by
  show (match Nat.beq k j with | true => some e | false => zlk r j) = zlk r j
  have hb : Nat.beq k j = false := by
    cases hc : Nat.beq k j with
    | false => rfl
    | true => exact absurd (Nat.eq_of_beq_eq_true hc).symm h
  rw [hb]
theorem zlk_app : ∀ (u v : List (Nat × va_E)) (j : Nat) (e : va_E), zlk u j = some e → zlk (u ++ v) j = some e
  | [], _, _, _, h => by cases h
  | (k, x) :: r, v, j, e, h => by
    by_cases hj : j = k
    · subst hj
      rw [zlk_s] at h
      cases h
      exact zlk_s
    · rw [zlk_o hj] at h
      show zlk ((k, x) :: (r ++ v)) j = some e
      rw [zlk_o hj]
      exact zlk_app r v j e h
theorem zlk_app0 : ∀ (u v : List (Nat × va_E)) (j : Nat), zlk u j = none → zlk (u ++ v) j = zlk v j
  | [], _, _, _ => rfl
  | (k, x) :: r, v, j, h => by
    by_cases hj : j = k
    · subst hj
      rw [zlk_s] at h
      cases h
    · rw [zlk_o hj] at h
      show zlk ((k, x) :: (r ++ v)) j = _
      rw [zlk_o hj]
      exact zlk_app0 r v j h
theorem zlk_sh (q : Nat) : ∀ (u : List (Nat × va_E)) (j : Nat), zlk (zsh q u) (q + j) = zlk u j
  | [], _ => rfl
  | (k, x) :: r, j => by
    show zlk ((q + k, x) :: zsh q r) (q + j) = _
    by_cases hj : j = k
    · subst hj
      rw [zlk_s, zlk_s]
    · rw [zlk_o hj, zlk_o (by omega)]
      exact zlk_sh q r j
theorem zlk_sh0 (q : Nat) : ∀ (u : List (Nat × va_E)) (j : Nat), j < q → zlk (zsh q u) j = none
  | [], _, _ => rfl
  | (k, x) :: r, j, h => by
    show zlk ((q + k, x) :: zsh q r) j = _
    rw [zlk_o (by omega)]
    exact zlk_sh0 q r j h
/-- the cells from a on, n of them -/
def zH (E : zE) (a n : Nat) (u : List (Nat × va_E)) (H : Heap) : Prop := H.size = a + n ∧ ∀ (j : Nat) (e : va_E), j < n → zlk u j = some e → va_at E.1 vwCl (a + j, e) H
theorem zH.push {E : zE} {a n : Nat} {u : List (Nat × va_E)} {H H1 : Heap} {e : va_E} (h : zH E a n u H) (z : H1.size = H.size + 1) (o : ∀ q : Nat, q < H.size → H1[q]? = H[q]?) (he : va_at E.1 vwCl (a + n, e) H1) : zH E a (n + 1) ((n, e) :: u) H1 := by
  refine ⟨by have h0 := h.1; omega, fun j x hj hx => ?_⟩
  by_cases hn : j = n
  · subst hn
    rw [zlk_s] at hx
    cases hx
    exact he
  · rw [zlk_o hn] at hx
    exact (h.2 j x (by omega) hx).kept (o (a + j) (by have h0 := h.1; omega))
theorem zH.set {E : zE} {a n j : Nat} {u : List (Nat × va_E)} {H H1 : Heap} {e : va_E} (h : zH E a n u H) (z : H1.size = H.size) (o : ∀ q : Nat, q ≠ a + j → H1[q]? = H[q]?) (he : va_at E.1 vwCl (a + j, e) H1) : zH E a n ((j, e) :: u) H1 := by
  refine ⟨by have h0 := h.1; omega, fun i x hi hx => ?_⟩
  by_cases hn : i = j
  · subst hn
    rw [zlk_s] at hx
    cases hx
    exact he
  · rw [zlk_o hn] at hx
    exact (h.2 i x hi hx).kept (o (a + i) (by omega))
/-- what holds of the machine throughout -/
def zU (E : zE) (U : State) : Prop := va_K E.1 vwCl (zt E) U ∧ (∀ w ∈ zNest, va_Nw (.methodLinkNest w.1 w.2.1 w.2.2.1 w.2.2.2) U) ∧ va_AO "SlotCoins$State" U ∧ va_AO "SlotCoins$Tray" U
theorem zU.same {E : zE} {u U : State} (hv : u.vm = U.vm) (h : zU E u) : zU E U := by
  obtain ⟨h1, h2, h3, h4⟩ := h
  have ha : u.vm.Alike U.vm := by rw [hv]; exact Vm.Alike.refl _
  exact ⟨va_K.moved ha h1, fun w hw => va_Nw.same rfl hv (h2 w hw), va_AO.moved ha h3, va_AO.moved ha h4⟩
theorem zU.warm {E : zE} {s U : State} (hW : s.WarmedH U.vm) (h : zU E s) : zU E U := by
  obtain ⟨h1, h2, h3, h4⟩ := h
  exact ⟨va_K.moved hW.alike h1, fun w hw => va_Nw.warmM hW (h2 w hw), va_AO.moved hW.alike h3, va_AO.moved hW.alike h4⟩
def zB (E : zE) (X : zX) (cc : ByteArray) (nL : Nat) (Ts : List Cond) (own : String) : Prop :=
  CallFix X.1 X.2.2.2.2.1 X.2.2.2.2.2.2.2.2 cc nL X.2.2.2.1 X.2.2.2.2.2.1 Ts own ∧ zU E X.2.2.2.1
/-- a constructor's own -/
def zBi (X : zX) : Prop := X.2.2.2.2.2.2.2.1.name = "<init>" ∧ X.2.2.2.2.2.2.2.1.sig.returnType = none ∧ X.2.2.2.2.2.2.2.1.locks = false
def zJ (E : zE) (a : Nat) (R : Room) (nL : Nat) (X : zX) (Q : State → Prop) (b : Nat × Nat) (pc : Nat) (ls : List (Nat × Value)) (st : List Value) (n : Nat) (u : List (Nat × va_E)) : Prop :=
  ∀ (H : Heap) (locs : List Loc) (arr : Array Slot), zH E a n u H → va_S (fun q => a ≤ q) X.2.2.2.1.heap H locs → lv_has arr nL ls →
    W X.1 X.2.1 X.2.2.1 R X.2.2.2.1 X.2.2.2.2.1 X.2.2.2.2.2.1 X.2.2.2.2.2.2.1 X.2.2.2.2.2.2.2.1 X.2.2.2.2.2.2.2.2 H locs b.1 b.2 Q (F0 X.2.2.2.2.1 pc arr st)
/-- a constructor's contract: 'this' is the last cell, at a; W1: cells before it that are read; n, out: the cells from a on behind it -/
abbrev zcQ (E : zE) (a n : Nat) (out : List (Nat × va_E)) : Array Value → State → Outcome → State → Prop := va_Qv (fun _ : Unit => True) (fun _ t => zH E a n out t.heap) (fun q => a ≤ q)
def zcM (l : Launch) (y : MethodName) (ws : List Cond) (rm : Room) (mc ms : Nat) (E : zE) (a : Nat) (as : List Value) (W1 : List (Nat × va_E)) (e0 : va_E) (n : Nat) (out : List (Nat × va_E)) : Prop :=
  Met l y ws rm (va_Pc (.ref a :: as) (fun U => zH E a 1 [(0, e0)] U.heap ∧ (∀ x ∈ W1, x.1 < a ∧ va_at E.1 vwCl x U.heap) ∧ zU E U)) (zcQ E a n out) mc ms (fun q => a ≤ q)
theorem zcM.of {l : Launch} {y : MethodName} {ws ws' : List Cond} {rm : Room} {mc ms : Nat} {E : zE} {a : Nat} {as : List Value} {W1 : List (Nat × va_E)} {e0 : va_E} {n : Nat} {out : List (Nat × va_E)} {cc : ByteArray} {nL : Nat} (own : String)
    (hy : plainName y.cls = true) (hw : ws = Cond.code y cc nL none :: ws') (ho : y.cls = own) (hyn : y.name = "<init>") (hlen : (lg_sl (.ref a :: as)).length ≤ nL)
    (body : ∀ X : zX, X.2.1 = l → zB E X cc nL ws own → zBi X → (∀ x ∈ W1, x.1 < a ∧ va_at E.1 vwCl x X.2.2.2.1.heap) → X.2.2.2.1.heap.size = a + 1 →
      zJ E a rm nL X (MQ X.2.2.2.2.2.2.1 (zcQ E a n out) X.2.2.2.2.2.1 X.2.2.2.1 mc ms (fun q => a ≤ q)) (0, 0) 0 (lv_args 0 (.ref a :: as)) [] 1 [(0, e0)]) : zcM l y ws rm mc ms E a as W1 e0 n out := by
  refine Met.ofW (cc := cc) (maxL := nL) (ret := none) hy hw ?_
  intro p e s m args below meth c s₁ B hml hv
  obtain ⟨rfl, hH, hW1, hU⟩ := hv
  have hown : s.vm.findClass own = some m.cls := by rw [← ho]; exact findClass_of_methodNamed B.named
  have hts := atoms_spec (ws := ws) B.pre
  rw [lg_entry_eq]
  exact body (p, l, e, s, m, (Value.ref a :: as).toArray, below, meth, c) rfl ⟨⟨B.exec, B.bytes, hml, hown, hts⟩, hU⟩ ⟨(name_of_methodNamed B.named B.method).1.trans hyn, B.returns, B.notSynchronized⟩ hW1 hH.1 s.heap [] _ hH va_S.rf (lv_entry _ hlen)
theorem zP1 {D : va_G} {cl : List vw_C} {x : Nat × va_E} {H : Heap} (h : va_at D cl x H) : va_P D cl [x] H := fun k q hk => by
  cases k with
  | zero =>
    cases hk
    exact h
  | succ n => simp at hk
theorem zcI {R rm : Room} {own : String} {i maxL mc ms n : Nat} {y : MethodName} {bytes : ByteArray} {a : Cond} (h1 : Cond.methodLink own i y ∈ zW) (h2 : Cond.instanceMethod y ∈ zW) (h4 : Cond.initialized y.cls ∈ zW) (h5 : Cond.code y bytes maxL none ∈ zW) (hy : y.name = "<init>") (hd : y.cls ≠ "java/lang/invoke/MethodHandle" ∧ y.cls ≠ "java/lang/invoke/VarHandle" ∧ (parseMethodDescriptor y.desc).map (fun d => d.parameters.length) = some n) (hrc : rm.cells = mc) (hrs : rm.slots = ms) (hR : rm.frames + 1 ≤ R.frames ∧ 8 + (maxL + 11) + rm.locals ≤ R.locals) : ∀ (s9 : State) (a9 : Array Value), (∀ w ∈ a :: zW, w.before a9 s9 = true) → CallB R s9 a9 own i y bytes maxL none (Cond.code y bytes maxL none :: zW) rm mc ms n ∧ y.name = "<init>" ∧ (Cond.instanceMethod y).before a9 s9 = true :=
  fun _ _ hts => cwI n hts (zGI (zGc h5 (fun _ h => h))) rfl hrc hrs (hts _ (List.mem_cons_of_mem _ h4)) (hts _ (List.mem_cons_of_mem _ h1)) (hts _ (List.mem_cons_of_mem _ h2)) hy hd hR
theorem zcIN {R rm : Room} {own host : String} {i maxL mc ms n : Nat} {y : MethodName} {bytes : ByteArray} {a : Cond} (h2 : Cond.instanceMethod y ∈ zW) (h4 : Cond.initialized y.cls ∈ zW) (h5 : Cond.code y bytes maxL none ∈ zW) (hy : y.name = "<init>") (hd : y.cls ≠ "java/lang/invoke/MethodHandle" ∧ y.cls ≠ "java/lang/invoke/VarHandle" ∧ (parseMethodDescriptor y.desc).map (fun d => d.parameters.length) = some n) (hrc : rm.cells = mc) (hrs : rm.slots = ms) (hR : rm.frames + 1 ≤ R.frames ∧ 8 + (maxL + 11) + rm.locals ≤ R.locals) : ∀ (s9 : State) (a9 : Array Value), (∀ w ∈ a :: zW, w.before a9 s9 = true) → va_Nw (.methodLinkNest own i y host) s9 → va_CN R s9 a9 own i y host bytes maxL none (Cond.code y bytes maxL none :: zW) rm mc ms n ∧ y.name = "<init>" ∧ (Cond.instanceMethod y).before a9 s9 = true :=
  fun _ _ hts hn => ⟨va_cnB n hts (zGI (zGc h5 (fun _ h => h))) rfl hrc hrs hn (hts _ (List.mem_cons_of_mem _ h4)) hd hR, hy, hts _ (List.mem_cons_of_mem _ h2)⟩
end
section
variable {E : zE} {a : Nat} {R : Room} {nL : Nat} {X : zX} {Q : State → Prop} {b : Nat × Nat} {cc : ByteArray} {Ts : List Cond} {own : String} {pc : Nat} {ls : List (Nat × Value)} {st : List Value} {n : Nat} {u : List (Nat × va_E)}
theorem zj_iconst (S : zB E X cc nL Ts own) {x : Int} (hd : decode cc pc = .ok (.iconst x, 1)) (k : zJ E a R nL X Q b (pc + 1) ls (.int (Int32.ofInt x) :: st) n u) : zJ E a R nL X Q b pc ls st n u :=
  fun H locs arr hH hS hh => lv_iconst S.1.1 S.1.2.1 hd rfl (k H locs arr hH hS hh)
theorem zj_bipush (S : zB E X cc nL Ts own) {x : Int} (hd : decode cc pc = .ok (.bipush x, 2)) (hn : (Int8.ofInt x).toInt32 = Int32.ofInt x := by decide) (k : zJ E a R nL X Q b (pc + 2) ls (.int (Int32.ofInt x) :: st) n u) : zJ E a R nL X Q b pc ls st n u :=
  fun H locs arr hH hS hh => lv_bipush S.1.1 S.1.2.1 hd hn (k H locs arr hH hS hh)
theorem zj_sipush (S : zB E X cc nL Ts own) {x : Int} (hd : decode cc pc = .ok (.sipush x, 3)) (hn : (Int16.ofInt x).toInt32 = Int32.ofInt x := by decide) (k : zJ E a R nL X Q b (pc + 3) ls (.int (Int32.ofInt x) :: st) n u) : zJ E a R nL X Q b pc ls st n u :=
  fun H locs arr hH hS hh => lv_sipush S.1.1 S.1.2.1 hd hn (k H locs arr hH hS hh)
theorem zj_ldc (S : zB E X cc nL Ts own) {i : Nat} (x : Int) (hd : decode cc pc = .ok (.ldc i, 2)) (hw : Cond.constant own i (Int32.ofInt x) ∈ Ts) (k : zJ E a R nL X Q b (pc + 2) ls (.int (Int32.ofInt x) :: st) n u) : zJ E a R nL X Q b pc ls st n u :=
  fun H locs arr hH hS hh => lv_ldc S.1.1 S.1.2.1 S.1.2.2.2.1 (S.1.2.2.2.2 _ hw) hd (k H locs arr hH hS hh)
theorem zj_aload_n (S : zB E X cc nL Ts own) {k9 : Fin 4} {i : Nat} {x : Nat} (j : Nat) (hd : decode cc pc = .ok (.aload_n k9, 1)) (hi : (k9 : Nat) = i) (hj : ls[j]? = some (i, .ref x)) (k : zJ E a R nL X Q b (pc + 1) ls (.ref x :: st) n u) : zJ E a R nL X Q b pc ls st n u :=
  fun H locs arr hH hS hh => lv_aload_n S.1.1 S.1.2.1 hd hi (lv_at hh j hj) (k H locs arr hH hS hh)
theorem zj_iload_n (S : zB E X cc nL Ts own) {k9 : Fin 4} {i : Nat} {x : Int32} (j : Nat) (hd : decode cc pc = .ok (.iload_n k9, 1)) (hi : (k9 : Nat) = i) (hj : ls[j]? = some (i, .int x)) (k : zJ E a R nL X Q b (pc + 1) ls (.int x :: st) n u) : zJ E a R nL X Q b pc ls st n u :=
  fun H locs arr hH hS hh => lv_iload_n S.1.1 S.1.2.1 hd hi (lv_at hh j hj) (k H locs arr hH hS hh)
theorem zj_istore_n (S : zB E X cc nL Ts own) {k9 : Fin 4} {i : Nat} {x : Int32} (ls' : List (Nat × Value)) (hd : decode cc pc = .ok (.istore_n k9, 1)) (hi : (k9 : Nat) = i) (hn : i < nL) (hl : (i, Value.int x) :: ls.filter (fun q => !(q.1 == i) && !(q.1 + 1 == i && q.2.category == 2)) = ls') (k : zJ E a R nL X Q b (pc + 1) ls' st n u) : zJ E a R nL X Q b pc ls (.int x :: st) n u :=
  fun H locs arr hH hS hh => lv_istore_n S.1.1 S.1.2.1 hd hi hh hn hl (fun arr' hh' => k H locs arr' hH hS hh')
theorem zj_istore (S : zB E X cc nL Ts own) {i : Nat} {x : Int32} (ls' : List (Nat × Value)) (hd : decode cc pc = .ok (.istore i, 2)) (hn : i < nL) (hl : (i, Value.int x) :: ls.filter (fun q => !(q.1 == i) && !(q.1 + 1 == i && q.2.category == 2)) = ls') (k : zJ E a R nL X Q b (pc + 2) ls' st n u) : zJ E a R nL X Q b pc ls (.int x :: st) n u :=
  fun H locs arr hH hS hh => lv_istore S.1.1 S.1.2.1 hd hh hn hl (fun arr' hh' => k H locs arr' hH hS hh')
theorem zj_astore_n (S : zB E X cc nL Ts own) {k9 : Fin 4} {i : Nat} {x : Nat} (ls' : List (Nat × Value)) (hd : decode cc pc = .ok (.astore_n k9, 1)) (hi : (k9 : Nat) = i) (hn : i < nL) (hl : (i, Value.ref x) :: ls.filter (fun q => !(q.1 == i) && !(q.1 + 1 == i && q.2.category == 2)) = ls') (k : zJ E a R nL X Q b (pc + 1) ls' st n u) : zJ E a R nL X Q b pc ls (.ref x :: st) n u :=
  fun H locs arr hH hS hh => lv_astore_n S.1.1 S.1.2.1 hd hi hh hn hl (fun arr' hh' => k H locs arr' hH hS hh')
theorem zj_iinc (S : zB E X cc nL Ts own) {i : Nat} {x v : Int32} {d : Int} (ls' : List (Nat × Value)) (j : Nat) (hd : decode cc pc = .ok (.iinc i d, 3)) (hj : ls[j]? = some (i, .int x)) (hv : x + Int32.ofInt d = v) (hn : i < nL) (hl : (i, Value.int v) :: ls.filter (fun q => !(q.1 == i) && !(q.1 + 1 == i && q.2.category == 2)) = ls') (k : zJ E a R nL X Q b (pc + 3) ls' st n u) : zJ E a R nL X Q b pc ls st n u :=
  fun H locs arr hH hS hh => lv_iinc S.1.1 S.1.2.1 hd hh hj hv hn hl (fun arr' hh' => k H locs arr' hH hS hh')
theorem zj_ge_t (S : zB E X cc nL Ts own) {x y : Int32} {off : Int} {tgt : Nat} (hd : decode cc pc = .ok (.if_icmp .ge off, 3)) (ht : (pc : Int) + off = (tgt : Int)) (h : y ≤ x) (k : zJ E a R nL X Q b tgt ls st n u) : zJ E a R nL X Q b pc ls (.int y :: .int x :: st) n u :=
  fun H locs arr hH hS hh => lv_icmp_ge S.1.1 S.1.2.1 hd ht (fun _ => k H locs arr hH hS hh) (fun c => absurd h c)
theorem zj_ge_f (S : zB E X cc nL Ts own) {x y : Int32} {off : Int} (tgt : Nat) (hd : decode cc pc = .ok (.if_icmp .ge off, 3)) (ht : (pc : Int) + off = (tgt : Int)) (h : ¬ y ≤ x) (k : zJ E a R nL X Q b (pc + 3) ls st n u) : zJ E a R nL X Q b pc ls (.int y :: .int x :: st) n u :=
  fun H locs arr hH hS hh => lv_icmp_ge S.1.1 S.1.2.1 hd ht (fun c => absurd c h) (fun _ => k H locs arr hH hS hh)
theorem zj_goto (S : zB E X cc nL Ts own) {off : Int} {tgt : Nat} (hd : decode cc pc = .ok (.goto off, 3)) (ht : (pc : Int) + off = (tgt : Int)) (k : zJ E a R nL X Q b tgt ls st n u) : zJ E a R nL X Q b pc ls st n u :=
  fun H locs arr hH hS hh => lv_goto S.1.1 S.1.2.1 hd ht (k H locs arr hH hS hh)
theorem zj_dup (S : zB E X cc nL Ts own) {x : Nat} (hd : decode cc pc = .ok (.dup, 1)) (k : zJ E a R nL X Q b (pc + 1) ls (.ref x :: .ref x :: st) n u) : zJ E a R nL X Q b pc ls (.ref x :: st) n u :=
  fun H locs arr hH hS hh => lv_dup S.1.1 S.1.2.1 hd rfl (k H locs arr hH hS hh)
theorem zj_iadd (S : zB E X cc nL Ts own) {x y : Int} (z : Int) (hd : decode cc pc = .ok (.iadd, 1)) (hz : x + y = z) (k : zJ E a R nL X Q b (pc + 1) ls (.int (Int32.ofInt z) :: st) n u) : zJ E a R nL X Q b pc ls (.int (Int32.ofInt y) :: .int (Int32.ofInt x) :: st) n u := by
  intro H locs arr hH hS hh
  refine lv_iadd S.1.1 S.1.2.1 hd ?_
  rw [← Int32.ofInt_add, hz]
  exact k H locs arr hH hS hh
theorem zj_obj (S : zB E X cc nL Ts own) {i x : Nat} (hd : decode cc pc = .ok (.invokespecial i, 3)) (h1 : Cond.methodLink own i objectInit ∈ Ts) (h2 : Cond.instanceMethod objectInit ∈ Ts) (h3 : Cond.code objectInit ⟨#[0xb1]⟩ 1 none ∈ Ts) (hf : 1 ≤ R.frames) (hl : 12 ≤ R.locals) (k : zJ E a R nL X Q b (pc + 3) ls [] n u) : zJ E a R nL X Q b pc ls [.ref x] n u := by
  intro H locs arr hH hS hh
  exact W.objInit S.1.1 S.1.2.1 S.1.2.2.2.1 (S.1.2.2.2.2 _ h1) (S.1.2.2.2.2 _ h2) (S.1.2.2.2.2 _ h3) rfl (by rw [S.1.2.2.1]; exact hh.1) rfl hd hf hl (k H locs arr hH hS hh)
theorem zj_wd {b' : Nat × Nat} (h : b.1 ≤ b'.1 ∧ b.2 ≤ b'.2) (k : zJ E a R nL X Q b' pc ls st n u) : zJ E a R nL X Q b pc ls st n u :=
  fun H locs arr hH hS hh => W.widen h.1 h.2 (k H locs arr hH hS hh)
theorem zj_new (S : zB E X cc nL Ts own) (b' : Nat × Nat) {i ci N n' : Nat} {C : String} {T : u_T} {ty : Nat → FieldType} (fs : List Value) (hd : decode cc pc = .ok (.new i, 3)) (hc : vwCl[ci]? = some (C, T, N)) (hu : ∀ w ∈ u_ws C T N, w ∈ Ts) (hty : ∀ k, k < N → parseFieldDescriptor (T k).2.2.1 = some (ty k)) (w1 : Cond.classLink own i C ∈ Ts) (w2 : Cond.instantiable C N ∈ Ts) (w3 : Cond.initialized C ∈ Ts) (hfs : ∀ j, j < N → defaultValue (ty j) = vp_V fs j) (hb : b.1 + 1 = b'.1 ∧ b.2 + N = b'.2 ∧ b'.1 ≤ R.cells ∧ b'.2 ≤ R.slots) (hn : n + 1 = n') (k : zJ E a R nL X Q b' (pc + 3) ls (.ref (a + n) :: st) n' ((n, .inr (ci, fs)) :: u)) : zJ E a R nL X Q b pc ls st n u := by
  intro H locs arr hH hS hh
  subst hn
  have hKn := S.2.1.1 ci _ hc
  refine W.newcK S.1.1 S.1.2.1 S.1.2.2.2.1 (S.1.2.2.2.2 _ w1) (S.1.2.2.2.2 _ w2) (S.1.2.2.2.2 _ w3) rfl hd (by rw [hb.1]; exact hb.2.2.1) (by rw [hb.2.1]; exact hb.2.2.2) hKn.2.1 hH.1 fun H1 kC hkC e1 z1 o1 => ?_
  rw [hb.1, hb.2.1]
  refine k H1 locs arr (hH.push (by rw [z1, hH.1]) (fun q hq => o1 q (by rw [← hH.1]; exact hq)) ⟨_, hc, (u_born ty S.1.2.2.2.2 hu hKn hkC e1 hty).to hfs⟩) ⟨Nat.le_trans hS.1 (by have h0 := hH.1; omega), fun x h1 h2 => (o1 x (by rw [← hH.1]; exact Nat.lt_of_lt_of_le h1 hS.1)).trans (hS.2.1 x h1 h2), hS.2.2⟩ hh
theorem zj_newa (S : zB E X cc nL Ts own) (b' : Nat × Nat) (t : Nat) {atype : ArrayType} {x : Int} {N n' : Nat} (hd : decode cc pc = .ok (.newarray atype, 2)) (hw : Cond.arrayClass (newarray.typeOf atype) ∈ Ts) (ht : (zt E)[t]? = some (E.2.1 t, newarray.typeOf atype)) (hp : ∀ (U : State) (cA : ClassId), va_RA U cA (newarray.typeOf atype) → U.vm.findClass ("[" ++ (newarray.typeOf atype).toString) = some cA) (hc : ∀ cA : ClassId, vp_cell cA (N, zcont E t (fun _ => 0)) = arrV cA N (fun _ => defaultValue (newarray.typeOf atype))) (h0 : ¬ Int32.ofInt x < 0) (hN : (Int32.ofInt x).toNatClampNeg = N) (hbt : N * componentBytes (newarray.typeOf atype) ≤ 536870912) (hb : b.1 + 1 = b'.1 ∧ b.2 + N = b'.2 ∧ b'.1 ≤ R.cells ∧ b'.2 ≤ R.slots) (hn : n + 1 = n') (k : zJ E a R nL X Q b' (pc + 2) ls (.ref (a + n) :: st) n' ((n, zce E (.inl (t, N)) (fun _ => 0)) :: u)) : zJ E a R nL X Q b pc ls (.int (Int32.ofInt x) :: st) n u := by
  intro H locs arr hH hS hh
  subst hn
  refine va_newaK S.1.1 S.1.2.1 (S.1.2.2.2.2 _ hw) rfl hd rfl h0 hN hbt (by rw [hb.1]; exact hb.2.2.1) (by rw [hb.2.1]; exact hb.2.2.2) hH.1 fun H1 cA e1 z1 o1 _ hNm => ?_
  have hc0 : cA = E.2.1 t := Option.some.inj (hNm.symm.trans (hp _ _ (S.2.1.2 t _ ht).2))
  rw [hb.1, hb.2.1]
  refine k H1 locs arr (hH.push (by rw [z1, hH.1]) (fun q hq => o1 q (by rw [← hH.1]; exact hq)) ?_) ⟨Nat.le_trans hS.1 (by have h0 := hH.1; omega), fun x h1 h2 => (o1 x (by rw [← hH.1]; exact Nat.lt_of_lt_of_le h1 hS.1)).trans (hS.2.1 x h1 h2), hS.2.2⟩ hh
  show H1[a + n]? = some (vp_cell (E.2.1 t) (N, zcont E t (fun _ => 0)))
  rw [hc, ← hc0]
  exact e1
theorem zj_newq (S : zB E X cc nL Ts own) (b' : Nat × Nat) (t : Nat) {C : String} {i : Nat} {x : Int} {N n' : Nat} (hd : decode cc pc = .ok (.anewarray i, 3)) (hw : Cond.classLink own i C ∈ Ts) (ho : va_AO C X.2.2.2.1) (ht : (zt E)[t]? = some (E.2.1 t, .object C)) (h0 : ¬ Int32.ofInt x < 0) (hN : (Int32.ofInt x).toNatClampNeg = N) (hbt : N * 4 ≤ 536870912) (hb : b.1 + 1 = b'.1 ∧ b.2 + N = b'.2 ∧ b'.1 ≤ R.cells ∧ b'.2 ≤ R.slots) (hn : n + 1 = n') (k : zJ E a R nL X Q b' (pc + 3) ls (.ref (a + n) :: st) n' ((n, .inl (E.2.1 t, N, .inr (.inr (.inr (.inr (fun _ => none)))))) :: u)) : zJ E a R nL X Q b pc ls (.int (Int32.ofInt x) :: st) n u := by
  intro H locs arr hH hS hh
  subst hn
  subst hN
  refine W.anew S.1.1 S.1.2.1 S.1.2.2.2.1 (S.1.2.2.2.2 _ hw) (va_AO.use ho) rfl hd rfl h0 hbt (by rw [hb.1]; exact hb.2.2.1) (by rw [hb.2.1]; exact hb.2.2.2) fun cA kA comp f1 f2 f3 f4 => ?_
  generalize hH1 : H.push ({ cls := cA, slots := Array.replicate (Int32.ofInt x).toNatClampNeg .null, vm := .none } : Cell) = H1
  have z1 : H1.size = H.size + 1 := by rw [← hH1, Array.size_push]
  have e1 : H1[H.size]? = some (arrV cA (Int32.ofInt x).toNatClampNeg (fun _ => .null)) := by rw [← hH1, Array.getElem?_push_size, ← arrV_new]
  have o1 : ∀ q : Nat, q < H.size → H1[q]? = H[q]? := fun q hq => by rw [← hH1, Array.getElem?_push, if_neg (Nat.ne_of_lt hq)]
  obtain ⟨_, _, _, _, _, hNm⟩ := (S.2.1.2 t _ ht).2
  have hc0 : cA = E.2.1 t := Option.some.inj (f1.symm.trans hNm)
  rw [hb.1, hb.2.1, hH.1]
  rw [hH.1] at e1
  refine k H1 locs arr (hH.push z1 o1 ?_) ⟨Nat.le_trans hS.1 (by omega), fun x h1 h2 => (o1 x (Nat.lt_of_lt_of_le h1 hS.1)).trans (hS.2.1 x h1 h2), hS.2.2⟩ hh
  show H1[a + n]? = some (vp_cell (E.2.1 t) _)
  rw [← hc0]
  exact e1
end
