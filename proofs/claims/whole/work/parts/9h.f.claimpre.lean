section
/-! THE CLAIM OUT OF ONE WALK OF THE LAW'S BODY. Your part is whole_start (and what it stands on); all else here is the same for every law, but numbers. -/
def R_law : String := "SlotCoinsLaw"
def lw_P (b : Addr) (xs : List Int32) (args : Array Value) (s : State) : Prop := args = #[.ref b] ∧ s.IntsAt b xs ∧ xs.length ≤ 3584 ∧ (Jvm.Cond.and given_1 narrow_1).before args s = true
def lw_Q (_ : Array Value) (s : State) (o : Outcome) (t : State) : Prop := o = .returned (some (.int 1)) ∧ Framed s o t [] 601024 7293034
def lw_Z (below : List Frame) (a : Array Value) (s : State) : State → Prop := fun t => ∃ o, t.status = .running ∧ Ended t below o ∧ lw_Q a s o t
/-- the law's own end, with 1 on the stack, nothing written that was there before, its room as the claim has it -/
theorem lw_ret {p : Program} {l : Launch} {e : Env} {s : State} {m : MethodId} {below : List Frame} {meth : Method} {c : Code} {b : Nat} (hx : p.tables.exec = Jvm.exec) (hb : c.code = code) (hr : meth.sig.returnType = ret) (hlocks : meth.locks = false) {pc : Nat} {H : Heap} {ls : Array Slot} (hdg : decode code pc = .ok (.ireturn, 1)) : W p l e room_1 s m #[Value.ref b] below meth c H [] 601024 7293034 (lw_Z below #[Value.ref b] s) (F0 m pc ls [.int 1]) := by
  intro T hT X
  obtain ⟨fs, hret, hrun, hended, hW, hframe⟩ := X.leave (v := some (.int 1)) (hlocks := hlocks) (fun h => by rw [hr] at h; cases h)
  have hmeth' : T.vm.method? m = some meth := X.method'
  refine ⟨T.setFrames fs, ?_, .returned (some (.int 1)), hrun, hended, rfl, ⟨_, rfl⟩, hW, hframe⟩
  jvm_step X.here [X.here.top, hx, hb, hdg, hmeth', hr, ret, narrow_b1]
  (try refine ⟨rfl, ?_⟩); (try refine ⟨rfl, ?_⟩)
  first | (intro acts; rw [hret _ acts rfl rfl rfl]) | rw [hret _ _ rfl rfl rfl]
  exact Steps.refl _
/-- what holds at the law's entry: the machine, the code, the tables' words (any of lw_tbl by 'hts w (by decide +kernel)'), the script of L ints xs at the cell b, what the Statement gives of the start (any of its parts by flat_of_before) -/
def lw_At (p : Program) (s : State) (m : MethodId) (meth : Method) (c : Code) (b L : Nat) (xs : Nat → Int32) : Prop :=
  p.tables.exec = Jvm.exec ∧ c.code = code ∧ meth.sig.returnType = ret ∧ c.maxLocals = 8 ∧ s.vm.findClass R_law = some m.cls ∧ (∀ w ∈ lw_tbl, w.before #[Value.ref b] s = true) ∧ va_X b L xs s s.heap ∧ b < s.heap.size ∧ meth.locks = false ∧ (Jvm.Cond.and given_1 narrow_1).before #[Value.ref b] s = true ∧ (Jvm.Cond.code x code maxLocals ret).before #[Value.ref b] s = true ∧ c.exceptionTable.toList = []
end
section
theorem lw_end {E : zE} {sz : Nat} {below : List Frame} {s : State} {b : Nat} {t : State} (hz : ∀ q, zA E 202 sz q → s.heap.size ≤ q) (h : vx_MQ below (zQc (zg E) (zA E 202 sz) lawQ) (zQX (zg E) (zA E 202 sz) lawQ) #[Value.ref b] s 601024 7293034 (zA E 202 sz) t) : lw_Z below #[Value.ref b] s t := by
  obtain ⟨o, h1, h2, h3⟩ := h
  rcases h3 with ⟨⟨⟨r, M, e1, e2, -⟩, -⟩, L, hF, hL⟩ | ⟨q, -, E', ce, L, ⟨⟨c, M, -, hq, -⟩, -⟩, -⟩
  · have e2 : r = some (zI 1) := e2
    subst e2
    refine ⟨o, h1, h2, e1, hF.1, hF.2.1, hF.2.2.weaken (fun x hx hlt => absurd hlt (Nat.not_lt.mpr (hz _ (hL x hx)))) (Nat.le_refl _) (Nat.le_refl _)⟩
  · have hq : some (zR (3000 + c)) = some (zI 1) := hq
    cases hq
set_option maxHeartbeats 4000000 in
theorem whole_start {p : Program} {e : Env} {s : State} {m : MethodId} {below : List Frame} {meth : Method} {c : Code} (l : Launch) (hst : l.stackTraces = false) {b L : Nat} {xs : Nat → Int32} (hL : L ≤ 3584) (C0 : lw_At p s m meth c b L xs) : W p l e room_1 s m #[Value.ref b] below meth c s.heap [] 0 0 (lw_Z below #[Value.ref b] s) (entryFrame m ([Value.ref b] : List Value).toArray 8) := by
  obtain ⟨hx, hb, hr, hml, hown, hts, hX, hbl, hlk, hgv, hcode, hexc⟩ := C0
  have hg : ∀ c ∈ gvl, c.before #[Value.ref b] s = true := flatA_of _ hgv [] (fun c h => by cases h)
  obtain ⟨k, v, w, hE⟩ := start_env (A := fun q => s.heap.size ≤ q) hts hg (fun a h => by omega) s.heap.size b
  obtain ⟨D, d, hK⟩ := start_cls hts
  have hwz : ∀ w ∈ wzLaw, w.before #[Value.ref b] s = true := List.forall_mem_cons.mpr ⟨hcode, fun w h => hts w (zWl w h)⟩
  have hU : zU (D, d, zad s.heap.size b k v w) s := ⟨hK, fun w hw => hE.1 w hw, va_AO.of (hts _ tb_ao.1), va_AO.of (hts _ tb_ao.2)⟩
  have S : zB (D, d, zad s.heap.size b k v w) (p, l, e, s, m, #[Value.ref b], below, meth, c) cL_law 8 wzLaw RL := ⟨⟨hx, hb, hml, hown, hwz⟩, hU⟩
  have hzA : ∀ q, zA (D, d, zad s.heap.size b k v w) 202 s.heap.size q → s.heap.size ≤ q := by
    rintro q (⟨i, hi, rfl⟩ | h)
    · show s.heap.size ≤ zad s.heap.size b k v w i
      rw [zad_lt (by omega)]
      omega
    · exact h
  rw [lg_entry_eq]
  refine law_entry (a := s.heap.size) (b := b) S ?_ s.heap [] _ ⟨rfl, fun j e h => absurd h (Nat.not_lt_zero _)⟩ va_S.rf (lv_entry [Value.ref b] (Nat.le_of_ble_eq_true rfl))
  intro H locs arr hH hS hh
  have S' : zS (zg (D, d, zad s.heap.size b k v w)) (p, l, e, s, m, #[Value.ref b], below, meth, c) cL_law 8 wzLaw RL (some .boolean) := by
    refine ⟨⟨hx, hb, hml, hown, hwz⟩, hK, fun i j hi hj h => ?_, hr, hlk, hE.nar hzA, hst, hexc⟩
    have h : zad s.heap.size b k v w i = zad s.heap.size b k v w j := h
    have hi : i < 202 := hi
    have hj : j < 202 := hj
    rw [zad_lt (by omega), zad_lt (by omega)] at h
    omega
  have hSc : zSc (zg (D, d, zad s.heap.size b k v w)) (p, l, e, s, m, #[Value.ref b], below, meth, c) L xs := ⟨hX, hbl, fun h => absurd hbl (Nat.not_lt.mpr (hzA b h))⟩
  have K := lp_law S' hSc hL 512 0 M0 (by omega) (by omega) rr0
  refine zmono (fun t h => lw_end hzA h) (W.widen (k := 1000) (n := 100000) (by decide) (by decide) (K (fun v hv => by cases hv) ?_ M0_ok H locs arr (fc_P D d s.heap.size b k v w H hH) ⟨hS.1, fun q h1 h2 => hS.2.1 q h1 (fun h => h2 (Or.inr h)), fun q hq => Or.inr (hS.2.2 q hq)⟩ ⟨hh.1, hh.2.1, ?_⟩))
  · intro i v hv
    match i, hv with
    | 0, hv => cases hv; exact trivial
    | 1, hv => cases hv; exact trivial
    | 2, hv => cases hv; exact trivial
    | 3, hv => cases hv; exact trivial
    | 4, hv => cases hv; exact (⟨by decide, by decide⟩ : zrI (7 * ((0 : Nat) : Int)))
    | 5, hv => cases hv
    | 6, hv => cases hv
    | 7, hv => cases hv
    | i + 8, hv => cases hv
  · intro i v hv
    match i, hv with
    | 0, hv => cases hv; exact lv_at hh 4 rfl
    | 1, hv => cases hv; exact lv_at hh 3 rfl
    | 2, hv => cases hv; exact lv_at hh 2 rfl
    | 3, hv => cases hv; exact lv_at hh 1 rfl
    | 4, hv => cases hv; exact lv_at hh 0 rfl
    | 5, hv => cases hv
    | 6, hv => cases hv
    | 7, hv => cases hv
    | i + 8, hv => cases hv
end
