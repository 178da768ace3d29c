section
theorem zcSW {R rm : Room} {own : String} {i maxL mc ms n : Nat} {y : MethodName} {bytes : ByteArray} {ret : Option FieldType} {hh : List (Nat × Nat × Nat × Nat)} {a : Cond} (h1 : Cond.methodLink own i y ∈ zW) (h2 : Cond.static y ∈ zW) (h4 : Cond.initialized y.cls ∈ zW) (h5 : Cond.codeWith y bytes maxL ret hh ∈ zW) (hd : y.cls ≠ "java/lang/invoke/MethodHandle" ∧ y.cls ≠ "java/lang/invoke/VarHandle" ∧ (parseMethodDescriptor y.desc).map (fun d => d.parameters.length) = some n) (hrc : rm.cells = mc) (hrs : rm.slots = ms) (hR : rm.frames + 1 ≤ R.frames ∧ 8 + (maxL + 11) + rm.locals ≤ R.locals) :
    ∀ (s9 : State) (a9 : Array Value), (∀ w ∈ a :: zW, w.before a9 s9 = true) → vx_CSW R s9 a9 own i y bytes maxL ret hh (.codeWith y bytes maxL ret hh :: zW) rm mc ms n :=
  fun _ _ hts => vx_cwSW n hts (zGI (zGc h1 (zGc h2 (zGc h4 (zGc h5 (fun _ h => h)))))) rfl hrc hrs hd hR
end
section
variable {G : zG} {R : Room} {nL : Nat} {q : zq} {X : zX} {b : Nat × Nat} {cc : ByteArray} {Ts : List Cond} {own : String} {ret : Option FieldType} {pc : Nat} {ls : List (Option zV)} {st : List zV} {M : zM}
/-- a static call of a method that has handlers -/
theorem zr_invSW (S : zS G X cc nL Ts own ret) {i maxL mc ms : Nat} {y : MethodName} {wsy : List Cond} {rm9 : Room} {bytes : ByteArray} {ret9 : Option FieldType} {hh9 : List (Nat × Nat × Nat × Nat)} {sp : List zV → zM → (Option zV → zM → Prop) → Prop} (as : List zV) (hM9 : zMet X.2.1 G.1 G.2.2.1 G.2.2.2.1 G.2.2.2.2 y wsy rm9 mc ms sp) (cw : ∀ (s9 : State) (a9 : Array Value), (∀ w ∈ Ts, w.before a9 s9 = true) → vx_CSW R s9 a9 own i y bytes maxL ret9 hh9 wsy rm9 mc ms as.length) (hd : decode cc pc = .ok (.invokestatic i, 3)) (hst : zdep st ≤ 8) (hb : b.1 + mc ≤ R.cells ∧ b.2 + ms ≤ R.slots) (hsp : sp as M (fun r M' => zaft G R nL q X (b.1 + mc, b.2 + ms) (pc + 3) ls st r M')) (ht : ztab Ts = [] := by rfl) : zK G R nL q X b pc ls (as.reverse ++ st) M := by
  intro ho hl hM H locs arr hP hS hh
  have hoa : ∀ v ∈ as, zok v := fun v hv => ho v (List.mem_append_left _ (List.mem_reverse.mpr hv))
  have hot : ∀ v ∈ st, zok v := fun v hv => ho v (List.mem_append_right _ hv)
  have hMet := hM9 S.2.2.2.2.2.2.1 G.2.1 H.size as M _ hoa hM S.2.2.1 hsp
  have he : (as.reverse ++ st).map (zc G.2.1) = (as.map (zc G.2.1)).reverse ++ st.map (zc G.2.1) := by simp
  rw [he]
  exact zbehind S ht (vx_runSX (As := as.map (zc G.2.1)) (rest := st.map (zc G.2.1)) S.1 hMet (cw _ _ S.1.2.2.2.2) ⟨zPcBlind, fun U hU hW => ⟨rfl, by rw [hU], by rw [hU]; exact hP, va_K.moved hW.alike S.2.1, zenvC S hS hU hW⟩⟩ rfl (by rw [List.length_map]) hh.1 rfl (by rw [zdep_eq]; show 2 * 0 + _ ≤ 8; omega) hd hb) hot hl hS hh (fun r M' h => h)
/-- the law's script: cell number 2000, outside the world -/
def zSc (G : zG) (X : zX) (L : Nat) (xs : Nat → Int32) : Prop := va_X (G.2.1.2.2 2000) L xs X.2.2.2.1 X.2.2.2.1.heap ∧ G.2.1.2.2 2000 < X.2.2.2.1.heap.size ∧ ¬ zA G.2.1 G.2.2.1 X.2.2.2.1.heap.size (G.2.1.2.2 2000)
theorem zrI_32 (x : Int32) : zrI x.toInt := ⟨Int32.le_toInt x, Int32.toInt_lt x⟩
theorem zr_sld (S : zS G X cc nL Ts own ret) {L : Nat} {xs : Nat → Int32} (hs : zSc G X L xs) {i : Int} (hd : decode cc pc = .ok (.iaload, 1)) (h0 : 0 ≤ i) (h1 : i < (L : Int)) (kk : zK G R nL q X b (pc + 1) ls (zI (xs i.toNat).toInt :: st) M) : zK G R nL q X b pc ls (zI i :: zR 2000 :: st) M := by
  intro ho hl hM H locs arr hP hS hh
  have hi := zI_in h0 h1 (zokh ho)
  refine va_sld S.1.1 S.1.2.1 hs.1 hs.2.1 hs.2.2 hS hi.1 hd ?_
  rw [hi.2, show xs i.toNat = Int32.ofInt (xs i.toNat).toInt from (Int32.ofInt_toInt _).symm]
  exact kk (zokc (v := zI _) (zrI_32 _) (zokt (zokt ho))) hl hM H locs arr hP hS hh
theorem zr_slen (S : zS G X cc nL Ts own ret) {L : Nat} {xs : Nat → Int32} (hs : zSc G X L xs) (hd : decode cc pc = .ok (.arraylength, 1)) (hL : L ≤ 3584) (kk : zK G R nL q X b (pc + 1) ls (zI L :: st) M) : zK G R nL q X b pc ls (zR 2000 :: st) M := by
  intro ho hl hM H locs arr hP hS hh
  refine va_slen S.1.1 S.1.2.1 hs.1 hs.2.1 hs.2.2 hS hd ?_
  rw [show Int32.ofNat L = Int32.ofInt (L : Int) by first | rfl | exact Int32.ofInt_eq_ofNat.symm | simp]
  exact kk (zokc (v := zI L) ⟨by omega, by omega⟩ (zokt ho)) hl hM H locs arr hP hS hh
/-- more room may be counted as used -/
theorem zr_wd {b' : Nat × Nat} (h : b.1 ≤ b'.1 ∧ b.2 ≤ b'.2) (kk : zK G R nL q X b' pc ls st M) : zK G R nL q X b pc ls st M := by
  intro ho hl hM H locs arr hP hS hh
  exact W.widen h.1 h.2 (kk ho hl hM H locs arr hP hS hh)
def lorI (x y : Int) : Int := (Int64.ofInt x ||| Int64.ofInt y).toInt
theorem lorI_r {x y : Int} : zrL (lorI x y) := ⟨Int64.le_toInt _, Int64.toInt_lt _⟩
theorem zr_lorI (S : zS G X cc nL Ts own ret) {x y : Int} (hd : decode cc pc = .ok (.lor, 1)) (kk : zK G R nL q X b (pc + 1) ls (zL (lorI x y) :: st) M) : zK G R nL q X b pc ls (zL y :: zL x :: st) M := by
  intro ho hl hM H locs arr hP hS hh
  refine lv_lor S.1.1 S.1.2.1 hd ?_
  rw [show Int64.ofInt x ||| Int64.ofInt y = Int64.ofInt (lorI x y) from (Int64.ofInt_toInt _).symm]
  exact kk (zokc (v := zL _) lorI_r (zokt (zokt ho))) hl hM H locs arr hP hS hh
/-- what the law owes, out of what its walk gives -/
theorem zmono {p : Program} {l : Launch} {e : Env} {s : State} {m : MethodId} {args : Array Value} {below : List Frame} {meth : Method} {c : Code} {H : Heap} {locs : List Loc} {cells slots : Nat} {Q Q' : State → Prop} {g : JFrame} (h : ∀ t, Q t → Q' t) (k : W p l e R s m args below meth c H locs cells slots Q g) : W p l e R s m args below meth c H locs cells slots Q' g := fun T hT XX => by
  obtain ⟨t, a, b⟩ := k T hT XX
  exact ⟨t, a, h t b⟩
end
