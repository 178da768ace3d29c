section
variable {G : zG} {R : Room} {nL : Nat} {q : zq} {X : zX} {b : Nat × Nat} {cc : ByteArray} {Ts : List Cond} {own : String} {ret : Option FieldType} {pc : Nat} {ls : List (Option zV)} {st : List zV} {M : zM}

abbrev zNm : List String := ["java/lang/RuntimeException", "java/lang/Exception"]
def zDL : List Cond := zD1.map .declares ++ zD2.map (fun x => .castable x x)
theorem zDL_ok (S : zS G X cc nL Ts own ret) : ∀ w ∈ zDL, w.before X.2.2.2.2.2.1 X.2.2.2.1 = true := by
  intro w hw
  rcases List.mem_append.mp hw with h | h
  · obtain ⟨x, hx, rfl⟩ := List.mem_map.mp h
    exact va_Nw.use rfl (S.2.2.2.2.2.1.2.1 x hx)
  · obtain ⟨x, hx, rfl⟩ := List.mem_map.mp h
    exact va_Nw.use rfl (S.2.2.2.2.2.1.2.2.1 x hx)
/-- what a throw of the class c stands on, among the words Ts -/
def zat (own : String) (ic : Nat) : Nat → List Cond
  | 0 => vx_atX own ic (zXn 0) 13 vx_r13 zNm
  | c + 1 => vx_atS own ic (zXn (c + 1)) zNm
def zthr (Ts : List Cond) (own : String) (ik ic c : Nat) : Prop := Cond.classLink own ik (zXn c) ∈ Ts ∧ Cond.initialized (zXn c) ∈ Ts ∧ (∀ w ∈ (zat own ic c).filter goodWord, w ∈ Ts) ∧ (∀ w ∈ (zat own ic c).filter (fun w => !goodWord w), w ∈ zDL) ∧ (∀ w ∈ Cond.classLink own ik (zXn c) :: Cond.initialized (zXn c) :: zat own ic c, vx_ot w = true) ∧ Bundle.fit (zXn c) = true
theorem zr_throw (S : zS G X cc nL Ts own ret) {ik is ic c9 i9 : Nat} {tx : String} (hw : zthr Ts own ik ic c9) (hs : (own, is, tx, i9) ∈ zSt) (d0 : decode cc pc = .ok (.new ik, 3)) (d3 : decode cc (pc + 3) = .ok (.dup, 1)) (d4 : decode cc (pc + 4) = .ok (.ldc_w is, 3)) (d7 : decode cc (pc + 7) = .ok (.invokespecial ic, 3)) (d10 : decode cc (pc + 10) = .ok (.athrow, 1))
    (hR : 5 < R.frames ∧ zdep st + 82 ≤ R.locals) (hRc : b.1 + 1 ≤ R.cells ∧ b.2 + 6 ≤ R.slots) (hb : b.1 + 1 ≤ q.2.1 ∧ b.2 + 6 ≤ q.2.2) (hq : q.1 (some (zR (3000 + c9))) M) (ht : ztab Ts = [] := by rfl) : zK G R nL q X b pc ls st M := by
  intro ho hl hM H locs arr hP hS hh
  obtain ⟨h1, h2, h3, h4, h5, h6⟩ := hw
  have hout : ∀ x ∈ X.2.2.2.2.2.2.2.2.exceptionTable.toList, covers x (pc + 10) = false := by
    rw [S.2.2.2.2.2.2.2, ht]
    intro x hx
    cases hx
  have hend : ∀ t : State, X.2.2.2.1.vm.Alike t.vm → H.size ≤ t.heap.size → (∀ q : Nat, q < H.size → t.heap[q]? = H[q]?) → zQX G (zA G.2.1 G.2.2.1 X.2.2.2.1.heap.size) q.1 (zXn c9) X.2.2.2.1 t := by
    intro t _ hz hk
    refine ⟨⟨c9, M, rfl, hq, hM, hP.kept (fun k q9 hk9 => hk _ (vx_lt hP hk9))⟩, Nat.le_trans hS.1 hz, fun a h1 h2 => ?_⟩
    rw [hk a (Nat.lt_of_lt_of_le h1 hS.1)]
    exact hS.2.1 a h1 h2
  cases c9 with
  | zero =>
    exact vx_throwWX (names := zNm) (ix := 13) (rx := vx_r13) (A := zA G.2.1 G.2.2.1 X.2.2.2.1.heap.size) S.1.1 S.1.2.1 S.2.2.2.2.2.2.1 vx_r13_ok.1 vx_r13_ok.2.1 vx_r13_ok.2.2.1 vx_r13_ok.2.2.2 S.1.2.2.2.1 h6 (by decide +kernel) (S.1.2.2.2.2 _ h1) (S.1.2.2.2.2 _ h2) (S.2.2.2.2.2.1.2.2.2.2.1 _ hs) (vx_hat (fun w hw => S.1.2.2.2.2 _ (h3 w hw)) h4 (zDL_ok S)) h5 S.2.2.2.2.2.1.2.2.2.2.2.2.2.2.1 S.2.2.2.2.2.1.2.2.2.2.2.2.2.2.2 hS (by rw [hh.1, S.1.2.2.1]) d0 d3 d4 d7 d10 hout hR.1 (by rw [zdep_eq]; exact hR.2) hRc.1 hRc.2 S.2.2.2.2.1 hend hS.2.2 hb.1 hb.2
  | succ c9 =>
    exact vx_throwSW (names := zNm) (A := zA G.2.1 G.2.2.1 X.2.2.2.1.heap.size) S.1.1 S.1.2.1 S.2.2.2.2.2.2.1 S.1.2.2.2.1 h6 (by decide +kernel) (S.1.2.2.2.2 _ h1) (S.1.2.2.2.2 _ h2) (S.2.2.2.2.2.1.2.2.2.2.1 _ hs) (vx_hat (fun w hw => S.1.2.2.2.2 _ (h3 w hw)) h4 (zDL_ok S)) h5 S.2.2.2.2.2.1.2.2.2.2.2.2.2.2.1 S.2.2.2.2.2.1.2.2.2.2.2.2.2.2.2 hS (by rw [hh.1, S.1.2.2.1]) d0 d3 d4 d7 d10 hout hR.1 (by rw [zdep_eq]; exact hR.2) hRc.1 hRc.2 S.2.2.2.2.1 hend hS.2.2 hb.1 hb.2
theorem zr_ldcS (S : zS G X cc nL Ts own ret) {i k9 : Nat} {tx : String} (hs : (own, i, tx, k9) ∈ zSt) (hd : decode cc pc = .ok (.ldc i, 2)) (k : zK G R nL q X b (pc + 2) ls (zR (1000 + k9) :: st) M) : zK G R nL q X b pc ls st M := by
  intro ho hl hM H locs arr hP hS hh
  exact va_ldcS S.1.1 S.1.2.1 S.1.2.2.2.1 (S.2.2.2.2.2.1.2.2.2.2.1 _ hs) hd (k (zokc (v := zR (1000 + k9)) trivial ho) hl hM H locs arr hP hS hh)
theorem zr_getSv (S : zS G X cc nL Ts own ret) {i k9 : Nat} (hk : k9 < 10) (hw : Cond.fieldLink own i "java/lang/String" "value" "[B" ∈ Ts) (hd : decode cc pc = .ok (.getfield i, 3)) (k : zK G R nL q X b (pc + 3) ls (zR (1100 + k9) :: st) M) : zK G R nL q X b pc ls (zR (1000 + k9) :: st) M := by
  intro ho hl hM H locs arr hP hS hh
  exact vk_getf S.1.1 S.1.2.1 (S.2.2.2.2.2.1.2.2.2.2.2.1.1 k9 hk).2.2.1 hS S.1.2.2.2.1 (S.1.2.2.2.2 _ hw) (fun _ h => h) hd (k (zokc (v := zR (1100 + k9)) trivial (zokt ho)) hl hM H locs arr hP hS hh)
theorem zr_getSc (S : zS G X cc nL Ts own ret) {i k9 : Nat} (hk : k9 < 10) (hw : Cond.fieldLink own i "java/lang/String" "coder" "B" ∈ Ts) (hd : decode cc pc = .ok (.getfield i, 3)) (k : zK G R nL q X b (pc + 3) ls (zI 0 :: st) M) : zK G R nL q X b pc ls (zR (1000 + k9) :: st) M := by
  intro ho hl hM H locs arr hP hS hh
  exact vk_getf S.1.1 S.1.2.1 (S.2.2.2.2.2.1.2.2.2.2.2.1.1 k9 hk).2.1 hS S.1.2.2.2.1 (S.1.2.2.2.2 _ hw) (fun _ h => h) hd (k (zokc (v := zI 0) zrI_0 (zokt ho)) hl hM H locs arr hP hS hh)
theorem zr_getsC (S : zS G X cc nL Ts own ret) {i : Nat} (hw : Cond.fieldLink own i "java/lang/String" "COMPACT_STRINGS" "Z" ∈ Ts) (hd : decode cc pc = .ok (.getstatic i, 3)) (k : zK G R nL q X b (pc + 3) ls (zI 1 :: st) M) : zK G R nL q X b pc ls st M := by
  intro ho hl hM H locs arr hP hS hh
  exact va_gets S.1.1 S.1.2.1 S.2.2.2.2.2.1.2.2.2.2.2.2.1 hS S.1.2.2.2.1 (S.1.2.2.2.2 _ hw) (fun _ h => h) hd (k (zokc (v := zI 1) ⟨by omega, by omega⟩ ho) hl hM H locs arr hP hS hh)
theorem zr_alenS (S : zS G X cc nL Ts own ret) {k9 : Nat} (hk : k9 < 10) (hd : decode cc pc = .ok (.arraylength, 1)) (k : zK G R nL q X b (pc + 1) ls (zI (zSl.getD k9 0 : Nat) :: st) M) (hn : zrI (zSl.getD k9 0 : Nat)) : zK G R nL q X b pc ls (zR (1100 + k9) :: st) M := by
  intro ho hl hM H locs arr hP hS hh
  exact va_tlen S.1.1 S.1.2.1 (S.2.2.2.2.2.1.2.2.2.2.2.1.1 k9 hk).2.2.2 hS (v := Int32.ofInt (zSl.getD k9 0 : Nat)) (by first | rfl | exact Int32.ofInt_eq_ofNat.symm | simp) hd (k (zokc (v := zI _) hn (zokt ho)) hl hM H locs arr hP hS hh)
/-- the letter j of the word k -/
def zch (k : Nat) (j : Int) : Int := ((zSb.getD k []).getD j.toNat 0).toInt
theorem zch_r (k : Nat) (j : Int) : 0 ≤ zch k j ∧ zch k j < 128 := by
  have h : ∀ l ∈ zSb, ∀ x ∈ l, 0 ≤ x.toInt ∧ x.toInt < 128 := by decide +kernel
  unfold zch
  rw [List.getD_eq_getElem?_getD, List.getD_eq_getElem?_getD]
  cases hk : zSb[k]? with
  | none => simp only [Option.getD_none, List.getElem?_nil]; exact ⟨by decide, by decide⟩
  | some l =>
    cases hj : l[j.toNat]? with
    | none => simp only [Option.getD_some, hj, Option.getD_none]; exact ⟨by decide, by decide⟩
    | some x => simp only [Option.getD_some, hj]; exact h l (List.mem_of_getElem? hk) x (List.mem_of_getElem? hj)
theorem zr_baloadS (S : zS G X cc nL Ts own ret) {k9 : Nat} {j : Int} (hk : k9 < 10) (hd : decode cc pc = .ok (.baload, 1)) (h0 : 0 ≤ j) (h1 : j < (zSl.getD k9 0 : Nat)) (k : zK G R nL q X b (pc + 1) ls (zI (zch k9 j) :: st) M) : zK G R nL q X b pc ls (zI j :: zR (1100 + k9) :: st) M := by
  intro ho hl hM H locs arr hP hS hh
  have hi := zI_in h0 h1 (zokh ho)
  have hr := zch_r k9 j
  refine va_tb S.1.1 S.1.2.1 (S.2.2.2.2.2.1.2.2.2.2.2.1.1 k9 hk).2.2.2 hS hi.1 (v := .int (Int32.ofInt (zch k9 j))) ?_ hd (k (zokc (v := zI _) ⟨by omega, by omega⟩ (zokt (zokt ho))) hl hM H locs arr hP hS hh)
  rw [hi.2]
  unfold zch
  rw [Int32.ofInt_toInt]
theorem zr_i2c (S : zS G X cc nL Ts own ret) {x : Int} (hd : decode cc pc = .ok (.i2c, 1)) (h0 : 0 ≤ x) (h1 : x < 65536) (k : zK G R nL q X b (pc + 1) ls (zI x :: st) M) : zK G R nL q X b pc ls (zI x :: st) M := by
  intro ho hl hM H locs arr hP hS hh
  have hx : zrI x := zokh ho
  refine lv_i2c S.1.1 S.1.2.1 hd (v := Int32.ofInt x) ?_ (k ho hl hM H locs arr hP hS hh)
  have e2 : (Int32.ofInt x).toUInt32.toNat = x.toNat := by
    have := Int32.toNat_toUInt32_of_le (x := Int32.ofInt x) (by rw [Int32.le_iff_toInt_le, zI_toInt hx]; exact h0)
    rw [this]
    show (Int32.ofInt x).toInt.toNat = _
    rw [zI_toInt hx]
  have e1 : (Int32.ofInt x).toUInt32 % 65536 = (Int32.ofInt x).toUInt32 := by
    apply UInt32.toNat_inj.mp
    rw [UInt32.toNat_mod, e2]
    show x.toNat % 65536 = x.toNat
    omega
  rw [e1]
  simp
theorem zr_nret (S : zS G X cc nL Ts own ret) {x : Int} {ty : FieldType} (hd : decode cc pc = .ok (.ireturn, 1)) (hr : ret = some ty) (hn : narrow ty (.int (Int32.ofInt x)) = .int (Int32.ofInt x)) (hb : b.1 ≤ q.2.1 ∧ b.2 ≤ q.2.2) (hq : q.1 (some (zI x)) M) : zK G R nL q X b pc ls [zI x] M := by
  intro ho hl hM H locs arr hP hS hh
  refine W.widen hb.1 hb.2 (vx_ret ?_)
  exact W.zret S.1.1 S.1.2.1 (by rw [S.2.2.2.1, hr]) hn (fun t ht hW => ⟨⟨some (zI x), M, rfl, hq, fun v hv => by cases hv; exact zokh ho, fun k hk => (by cases hk), hM, by rw [ht]; exact hP⟩, hS.F ht⟩) hS.2.2 hd S.2.2.2.2.1
theorem zr_invStr (S : zS G X cc nL Ts own ret) {i k9 maxL mc ms : Nat} {y : MethodName} {wsy : List Cond} {rm9 : Room} {bytes : ByteArray} {ret9 : Option FieldType} {sp : List zV → zM → (Option zV → zM → Prop) → Prop} (as : List zV) (hk : k9 < 10) (hM9 : zMet X.2.1 G.1 G.2.2.1 G.2.2.2.1 G.2.2.2.2 y wsy rm9 mc ms sp) (cw : ∀ (s9 : State) (a9 : Array Value), (∀ w ∈ Ts, w.before a9 s9 = true) → CallW R s9 a9 own "java/lang/String" i y bytes maxL ret9 wsy rm9 mc ms as.length) (hd : decode cc pc = .ok (.invokevirtual i, 3)) (hst : zdep st ≤ 8) (hb : b.1 + mc ≤ R.cells ∧ b.2 + ms ≤ R.slots) (hsp : sp (zR (1000 + k9) :: as) M (fun r M' => zaft G R nL q X (b.1 + mc, b.2 + ms) (pc + 3) ls st r M')) (ht : ztab Ts = [] := by rfl) : zK G R nL q X b pc ls (as.reverse ++ zR (1000 + k9) :: st) M := by
  intro ho hl hM H locs arr hP hS hh
  have hoa : ∀ v ∈ as, zok v := fun v hv => ho v (List.mem_append_left _ (List.mem_reverse.mpr hv))
  have hot : ∀ v ∈ st, zok v := fun v hv => ho v (List.mem_append_right _ (List.mem_cons_of_mem _ hv))
  have hMet := hM9 S.2.2.2.2.2.2.1 G.2.1 H.size (zR (1000 + k9) :: as) M _ (zokc (v := zR (1000 + k9)) trivial hoa) hM S.2.2.1 hsp
  have he : (as.reverse ++ zR (1000 + k9) :: st).map (zc G.2.1) = (as.map (zc G.2.1)).reverse ++ .ref (G.2.1.2.2 (1000 + k9)) :: st.map (zc G.2.1) := by simp [zc]
  rw [he]
  refine zbehind S ht (vx_runV (As := as.map (zc G.2.1)) (rest := st.map (zc G.2.1)) S.1 hMet (cw _ _ S.1.2.2.2.2) ⟨zPcBlind, vk_recv S.2.2.2.2.2.1.2.2.2.2.2.1 hk hS, fun U hU hW => ⟨rfl, by rw [hU], by rw [hU]; exact hP, va_K.moved hW.alike S.2.1, zenvC S hS hU hW⟩⟩ rfl (by rw [List.length_map]) hh.1 rfl (by rw [zdep_eq]; show 2 * 0 + _ ≤ 8; omega) hd hb) hot hl hS hh (fun r M' h => h)
end
section
theorem zthw_0 {a : Cond} : zthr (a :: zW) RX11 439 443 0 := ⟨List.mem_cons_of_mem _ (zWi_0 _ (List.mem_of_getElem? (i := 16) rfl)), List.mem_cons_of_mem _ (zWi_12 _ (List.mem_of_getElem? (i := 2) rfl)), fun w h => List.mem_cons_of_mem _ (zWit0 w h), by decide +kernel, by decide +kernel, by decide +kernel⟩
theorem zthw_1 {a : Cond} : zthr (a :: zW) RX11 434 438 1 := ⟨List.mem_cons_of_mem _ (zWi_0 _ (List.mem_of_getElem? (i := 15) rfl)), List.mem_cons_of_mem _ (zWi_11 _ (List.mem_of_getElem? (i := 47) rfl)), fun w h => List.mem_cons_of_mem _ (zWit1 w h), by decide +kernel, by decide +kernel, by decide +kernel⟩
theorem zthw_2 {a : Cond} : zthr (a :: zW) RX11 426 430 2 := ⟨List.mem_cons_of_mem _ (zWi_0 _ (List.mem_of_getElem? (i := 14) rfl)), List.mem_cons_of_mem _ (zWi_11 _ (List.mem_of_getElem? (i := 48) rfl)), fun w h => List.mem_cons_of_mem _ (zWit2 w h), by decide +kernel, by decide +kernel, by decide +kernel⟩
theorem zthw_3 {a : Cond} : zthr (a :: zW) RX11 407 411 3 := ⟨List.mem_cons_of_mem _ (zWi_0 _ (List.mem_of_getElem? (i := 13) rfl)), List.mem_cons_of_mem _ (zWi_11 _ (List.mem_of_getElem? (i := 49) rfl)), fun w h => List.mem_cons_of_mem _ (zWit3 w h), by decide +kernel, by decide +kernel, by decide +kernel⟩
end
section
variable {G : zG} {R : Room} {nL : Nat} {q : zq} {X : zX} {b : Nat × Nat} {cc : ByteArray} {Ts : List Cond} {own : String} {ret : Option FieldType} {pc : Nat} {ls : List (Option zV)} {st : List zV} {M : zM}
theorem znch {x : Int} (h0 : 0 ≤ x) (h1 : x < 128) : narrow .char (.int (Int32.ofInt x)) = .int (Int32.ofInt x) := by
  have h : ∀ n : Fin 128, narrow .char (.int (Int32.ofInt (n.val : Int))) = .int (Int32.ofInt (n.val : Int)) := by decide +kernel
  have := h ⟨x.toNat, by omega⟩
  rw [show ((x.toNat : Nat) : Int) = x by omega] at this
  exact this
theorem zr_ishr0 (S : zS G X cc nL Ts own ret) {x : Int} (hd : decode cc pc = .ok (.ishr, 1)) (k : zK G R nL q X b (pc + 1) ls (zI x :: st) M) : zK G R nL q X b pc ls (zI 0 :: zI x :: st) M := by
  intro ho hl hM H locs arr hP hS hh
  refine lv_ishr S.1.1 S.1.2.1 hd ?_
  have e : Int32.ofInt x >>> (Int32.ofInt 0 &&& 31) = Int32.ofInt x := by simp
  rw [e]
  exact k (zokt ho) hl hM H locs arr hP hS hh
end
section
def rmJ0_coder_7d493 : Room := { frames := 0, cells := 0, slots := 0, locals := 0 }
abbrev wzJ0_coder_7d493 : List Cond := .code yJ0_coder_7d493 cJ0_coder_7d493 1 (some .byte) :: zW
def rmJ0_isLatin1_aae02 : Room := { frames := 0, cells := 0, slots := 0, locals := 0 }
abbrev wzJ0_isLatin1_aae02 : List Cond := .code yJ0_isLatin1_aae02 cJ0_isLatin1_aae02 1 (some .boolean) :: zW
def rmJ0_length_8abf5 : Room := { frames := 1, cells := 0, slots := 0, locals := 20 }
abbrev wzJ0_length_8abf5 : List Cond := .code yJ0_length_8abf5 cJ0_length_8abf5 1 (some .int) :: zW
def rmJ3_checkIndex_8e157 : Room := { frames := 0, cells := 0, slots := 0, locals := 0 }
abbrev wzJ3_checkIndex_8e157 : List Cond := .code yJ3_checkIndex_8e157 cJ3_checkIndex_8e157 3 (some .int) :: zW
def rmJ0_checkIndex_df160 : Room := { frames := 1, cells := 0, slots := 0, locals := 22 }
abbrev wzJ0_checkIndex_df160 : List Cond := .code yJ0_checkIndex_df160 cJ0_checkIndex_df160 2 none :: zW
def rmJ1_charAt_3b067 : Room := { frames := 2, cells := 0, slots := 0, locals := 43 }
abbrev wzJ1_charAt_3b067 : List Cond := .code yJ1_charAt_3b067 cJ1_charAt_3b067 2 (some .char) :: zW
def rmJ0_charAt_5068e : Room := { frames := 3, cells := 0, slots := 0, locals := 64 }
abbrev wzJ0_charAt_5068e : List Cond := .code yJ0_charAt_5068e cJ0_charAt_5068e 2 (some .char) :: zW
def sp_J0_coder_7d493 (as : List zV) (M : zM) (Q : Option zV → zM → Prop) : Prop := ∃ k : Nat, as = [zR (1000 + k)] ∧ k < 10 ∧ Q (some (zI 0)) M
set_option maxRecDepth 20000 in
set_option maxHeartbeats 4000000 in
theorem m_J0_coder_7d493 (l : Launch) : zC l yJ0_coder_7d493 wzJ0_coder_7d493 rmJ0_coder_7d493 sp_J0_coder_7d493 := by
  refine zMet.of RJ0 (by decide +kernel) rfl rfl ?_
  intro E X as M Qp hX S hsp
  obtain ⟨k, rfl, hk, hQ⟩ := hsp
  refine ⟨Nat.le_of_ble_eq_true rfl, ?_⟩
  dsimp only [zpad, zargs]
  refine zr_getsC (pc := 0) S (List.mem_cons_of_mem _ (zWi_7 _ (List.mem_of_getElem? (i := 38) rfl))) dJ0_coder_7d493_0 ?_
  refine zr_if_eq (pc := 3) (tgt := 13) S dJ0_coder_7d493_3 (by decide) (fun c => absurd c (by omega)) (fun c => ?_)
  refine zr_aload_n (pc := 6) S dJ0_coder_7d493_6 rfl ?_
  refine zr_getSc (pc := 7) S hk (List.mem_cons_of_mem _ (zWi_7 _ (List.mem_of_getElem? (i := 37) rfl))) dJ0_coder_7d493_7 ?_
  refine zr_goto (pc := 10) (tgt := 14) S dJ0_coder_7d493_10 (by decide) ?_
  exact zr_nret (pc := 14) S dJ0_coder_7d493_14 rfl (by decide) ⟨Nat.le_of_ble_eq_true rfl, Nat.le_of_ble_eq_true rfl⟩ hQ
def sp_J0_isLatin1_aae02 (as : List zV) (M : zM) (Q : Option zV → zM → Prop) : Prop := ∃ k : Nat, as = [zR (1000 + k)] ∧ k < 10 ∧ Q (some (zI 1)) M
set_option maxRecDepth 20000 in
set_option maxHeartbeats 4000000 in
theorem m_J0_isLatin1_aae02 (l : Launch) : zC l yJ0_isLatin1_aae02 wzJ0_isLatin1_aae02 rmJ0_isLatin1_aae02 sp_J0_isLatin1_aae02 := by
  refine zMet.of RJ0 (by decide +kernel) rfl rfl ?_
  intro E X as M Qp hX S hsp
  obtain ⟨k, rfl, hk, hQ⟩ := hsp
  refine ⟨Nat.le_of_ble_eq_true rfl, ?_⟩
  dsimp only [zpad, zargs]
  refine zr_getsC (pc := 0) S (List.mem_cons_of_mem _ (zWi_7 _ (List.mem_of_getElem? (i := 38) rfl))) dJ0_isLatin1_aae02_0 ?_
  refine zr_if_eq (pc := 3) (tgt := 17) S dJ0_isLatin1_aae02_3 (by decide) (fun c => absurd c (by omega)) (fun c => ?_)
  refine zr_aload_n (pc := 6) S dJ0_isLatin1_aae02_6 rfl ?_
  refine zr_getSc (pc := 7) S hk (List.mem_cons_of_mem _ (zWi_7 _ (List.mem_of_getElem? (i := 37) rfl))) dJ0_isLatin1_aae02_7 ?_
  refine zr_if_ne (pc := 10) (tgt := 17) S dJ0_isLatin1_aae02_10 (by decide) (fun c => absurd c (by omega)) (fun c => ?_)
  refine zr_iconst (pc := 13) S dJ0_isLatin1_aae02_13 (by unfold zrI; omega) ?_
  refine zr_goto (pc := 14) (tgt := 18) S dJ0_isLatin1_aae02_14 (by decide) ?_
  exact zr_zret (pc := 18) S dJ0_isLatin1_aae02_18 rfl (by omega) ⟨Nat.le_of_ble_eq_true rfl, Nat.le_of_ble_eq_true rfl⟩ hQ
theorem zSl_r (k : Nat) : zSl.getD k 0 ≤ 6 := by
  have h : ∀ x ∈ zSl, x ≤ 6 := by decide
  rw [List.getD_eq_getElem?_getD]
  cases hk : zSl[k]? with
  | none => exact Nat.zero_le _
  | some x => exact h x (List.mem_of_getElem? hk)
def sp_J0_length_8abf5 (as : List zV) (M : zM) (Q : Option zV → zM → Prop) : Prop := ∃ k : Nat, as = [zR (1000 + k)] ∧ k < 10 ∧ Q (some (zI (zSl.getD k 0 : Nat))) M
set_option maxRecDepth 20000 in
set_option maxHeartbeats 4000000 in
theorem m_J0_length_8abf5 (l : Launch) : zC l yJ0_length_8abf5 wzJ0_length_8abf5 rmJ0_length_8abf5 sp_J0_length_8abf5 := by
  refine zMet.of RJ0 (by decide +kernel) rfl rfl ?_
  intro E X as M Qp hX S hsp
  obtain ⟨k, rfl, hk, hQ⟩ := hsp
  have hz := zSl_r k
  refine ⟨Nat.le_of_ble_eq_true rfl, ?_⟩
  dsimp only [zpad, zargs]
  refine zr_aload_n (pc := 0) S dJ0_length_8abf5_0 rfl ?_
  refine zr_getSv (pc := 1) S hk (List.mem_cons_of_mem _ (zWi_7 _ (List.mem_of_getElem? (i := 39) rfl))) dJ0_length_8abf5_1 ?_
  refine zr_alenS (pc := 4) S hk dJ0_length_8abf5_4 ?_ (by unfold zrI; omega)
  refine zr_aload_n (pc := 5) S dJ0_length_8abf5_5 rfl ?_
  refine zr_invStr (pc := 6) S [] hk (m_J0_coder_7d493 _) (zcV (n := 0) (zWi_17 _ (List.mem_of_getElem? (i := 41) rfl)) (zWi_12 _ (List.mem_of_getElem? (i := 24) rfl)) (zWi_25 _ (List.mem_of_getElem? (i := 11) rfl)) (zWi_12 _ (List.mem_of_getElem? (i := 3) rfl)) (zWi_0 _ (List.mem_of_getElem? (i := 34) rfl)) (by decide +kernel) rfl rfl ⟨Nat.le_of_ble_eq_true rfl, Nat.le_of_ble_eq_true rfl⟩) dJ0_length_8abf5_6 (Nat.le_of_ble_eq_true rfl) ⟨Nat.le_of_ble_eq_true rfl, Nat.le_of_ble_eq_true rfl⟩ ⟨k, rfl, hk, ?_⟩
  dsimp only [zaft]
  refine zr_ishr0 (pc := 9) S dJ0_length_8abf5_9 ?_
  exact zr_iret (pc := 10) S dJ0_length_8abf5_10 rfl ⟨Nat.le_of_ble_eq_true rfl, Nat.le_of_ble_eq_true rfl⟩ hQ
theorem m_J3_checkIndex_8e157 (l : Launch) {i n : Int32} {v : Value} (hv9 : v = .null ∨ ∃ t, v = .ref t) (h0 : ¬ i < 0) (h1 : i < n) : Met l yJ3_checkIndex_8e157 wzJ3_checkIndex_8e157 rmJ3_checkIndex_8e157 (va_Pc [.int i, .int n, v] (fun _ => True)) (fun _ st o t => o = .returned (some (.int i)) ∧ t.heap = st.heap) 0 0 (fun _ => False) := by
  refine Met.ofW (cc := cJ3_checkIndex_8e157) (maxL := 3) (ret := some .int) (by decide +kernel) rfl ?_
  intro p e s m args below meth c s₁ B hml hv
  obtain ⟨rfl, -⟩ := hv
  rw [lg_entry_eq]
  have hl := lv_entry [.int i, .int n, v] (n := 3) (by rcases hv9 with rfl | ⟨t, rfl⟩ <;> exact Nat.le_refl _)
  have g0 := hl.2.2 (0, .int i) List.mem_cons_self
  have g1 := hl.2.2 (1, .int n) (List.mem_cons_of_mem _ List.mem_cons_self)
  refine lv_iload_n (pc := 0) B.exec B.bytes dJ3_checkIndex_8e157_0 rfl g0 ?_
  refine lv_if_lt (pc := 1) (tgt := 9) B.exec B.bytes dJ3_checkIndex_8e157_1 (by decide) (fun c => absurd c h0) (fun c => ?_)
  refine lv_iload_n (pc := 4) B.exec B.bytes dJ3_checkIndex_8e157_4 rfl g0 ?_
  refine lv_iload_n (pc := 5) B.exec B.bytes dJ3_checkIndex_8e157_5 rfl g1 ?_
  refine lv_icmp_lt (pc := 6) (tgt := 16) B.exec B.bytes dJ3_checkIndex_8e157_6 (by decide) (fun c => ?_) (fun c => absurd h1 c)
  refine lv_iload_n (pc := 16) B.exec B.bytes dJ3_checkIndex_8e157_16 rfl g0 ?_
  exact W.iret (pc := 17) B.exec B.bytes B.returns (fun t ht hW => ⟨rfl, ht⟩) (fun q hq => by cases hq) dJ3_checkIndex_8e157_17 B.notSynchronized
def sp_J0_checkIndex_df160 (as : List zV) (M : zM) (Q : Option zV → zM → Prop) : Prop := ∃ i n : Int, as = [zI i, zI n] ∧ 0 ≤ i ∧ i < n ∧ Q none M
set_option maxRecDepth 20000 in
set_option maxHeartbeats 4000000 in
theorem m_J0_checkIndex_df160 (l : Launch) : zC l yJ0_checkIndex_df160 wzJ0_checkIndex_df160 rmJ0_checkIndex_df160 sp_J0_checkIndex_df160 := by
  refine zMet.of RJ0 (by decide +kernel) rfl rfl ?_
  intro E X as M Qp hX S hsp
  obtain ⟨i, n, rfl, h0, h1, hQ⟩ := hsp
  refine ⟨Nat.le_of_ble_eq_true rfl, ?_⟩
  dsimp only [zpad, zargs]
  refine zr_iload_n (pc := 0) S dJ0_checkIndex_df160_0 rfl ?_
  refine zr_iload_n (pc := 1) S dJ0_checkIndex_df160_1 rfl ?_
  have hlast : zK (zg E) rmJ0_checkIndex_df160 2 (Qp, 0, 0) X (0, 0) 9 [some (zI i), some (zI n)] [] M := zr_vret (pc := 9) S dJ0_checkIndex_df160_9 rfl ⟨Nat.le_of_ble_eq_true rfl, Nat.le_of_ble_eq_true rfl⟩ hQ
  intro ho hl hM H locs arr hP hS hh
  have hi : zrI i := zokh (zokt ho)
  have hn : zrI n := zokh ho
  have key : ∀ v : Value, (v = .null ∨ ∃ t, v = .ref t) → va_Z "jdk/internal/util/Preconditions" "SIOOBE_FORMATTER" "Ljava/util/function/BiFunction;" v (zA E zNC X.2.2.2.1.heap.size) X.2.2.2.1 X.2.2.2.1.heap →
      W X.1 X.2.1 X.2.2.1 rmJ0_checkIndex_df160 X.2.2.2.1 X.2.2.2.2.1 X.2.2.2.2.2.1 X.2.2.2.2.2.2.1 X.2.2.2.2.2.2.2.1 X.2.2.2.2.2.2.2.2 H locs 0 0 (vx_MQ X.2.2.2.2.2.2.1 (zQc (zg E) (zA E zNC X.2.2.2.1.heap.size) Qp) (zQX (zg E) (zA E zNC X.2.2.2.1.heap.size) Qp) X.2.2.2.2.2.1 X.2.2.2.1 0 0 (zA E zNC X.2.2.2.1.heap.size)) (F0 X.2.2.2.2.1 2 arr [.int (Int32.ofInt n), .int (Int32.ofInt i)]) := by
    intro v hv hZ
    refine va_gets (pc := 2) S.1.1 S.1.2.1 hZ hS S.1.2.2.2.1 (S.1.2.2.2.2 _ (List.mem_cons_of_mem _ (zWi_7 _ (List.mem_of_getElem? (i := 36) rfl)))) (fun _ h => h) dJ0_checkIndex_df160_2 ?_
    have hMet := m_J3_checkIndex_8e157 X.2.1 hv (show ¬ Int32.ofInt i < 0 from fun h => by rw [show (0 : Int32) = Int32.ofInt 0 from rfl, zI_lt hi zrI_0] at h; omega) ((zI_lt hi hn).mpr h1)
    have hrun := va_runS (H := H) (locs := locs) (cells := 0) (slots := 0) (e := X.2.2.1) (below := X.2.2.2.2.2.2.1) (meth := X.2.2.2.2.2.2.2.1) (As := [.int (Int32.ofInt i), .int (Int32.ofInt n), v]) (rest := []) (g := F0 X.2.2.2.2.1 5 arr [v, .int (Int32.ofInt n), .int (Int32.ofInt i)]) (R := rmJ0_checkIndex_df160) S.1 hMet (zcS (n := 3) (zWi_17 _ (List.mem_of_getElem? (i := 40) rfl)) (zWi_30 _ (List.mem_of_getElem? (i := 13) rfl)) (zWi_12 _ (List.mem_of_getElem? (i := 6) rfl)) (zWi_0 _ (List.mem_of_getElem? (i := 42) rfl)) (by decide +kernel) rfl rfl ⟨Nat.le_of_ble_eq_true rfl, Nat.le_of_ble_eq_true rfl⟩ _ _ S.1.2.2.2.2) ⟨fun a U g mk h => h, fun U hU hW => ⟨rfl, trivial⟩⟩ rfl rfl hh.1 rfl (Nat.zero_le _) dJ0_checkIndex_df160_5 ⟨Nat.le_of_ble_eq_true rfl, Nat.le_of_ble_eq_true rfl⟩
    intro T hT XX
    obtain ⟨v9, st₀, t, T', L, h0', X', hL, e1, e2, ⟨hv9, hth⟩, stp⟩ := hrun T hT XX
    cases hv9
    have eL : L = [] := by
      cases L with
      | nil => rfl
      | cons z r => exact absurd (hL z List.mem_cons_self) (fun h => h)
    subst eL
    rw [List.append_nil] at X'
    have hH : T'.heap = H := by rw [e1, hth, h0']
    obtain ⟨t2, a1, b1⟩ := lv_pop (pc := 8) (va := .int (Int32.ofInt i)) S.1.1 S.1.2.1 dJ0_checkIndex_df160_8 rfl (hlast (fun _ h => by cases h) hl hM H locs arr hP hS hh) T' hH X'
    exact ⟨t2, stp t2 a1, b1⟩
  rcases S.2.2.2.2.2.1.2.2.2.2.2.2.2.1 with h | ⟨t, h⟩
  · exact key _ (Or.inl rfl) h
  · exact key _ (Or.inr ⟨t, rfl⟩) h
def sp_J1_charAt_3b067 (as : List zV) (M : zM) (Q : Option zV → zM → Prop) : Prop := ∃ (k : Nat) (j : Int), as = [zR (1100 + k), zI j] ∧ k < 10 ∧ 0 ≤ j ∧ j < (zSl.getD k 0 : Nat) ∧ Q (some (zI (zch k j))) M
set_option maxRecDepth 20000 in
set_option maxHeartbeats 4000000 in
theorem m_J1_charAt_3b067 (l : Launch) : zC l yJ1_charAt_3b067 wzJ1_charAt_3b067 rmJ1_charAt_3b067 sp_J1_charAt_3b067 := by
  refine zMet.of RJ1 (by decide +kernel) rfl rfl ?_
  intro E X as M Qp hX S hsp
  obtain ⟨k, j, rfl, hk, h0, h1, hQ⟩ := hsp
  have hz := zSl_r k
  have hc := zch_r k j
  refine ⟨Nat.le_of_ble_eq_true rfl, ?_⟩
  dsimp only [zpad, zargs]
  refine zr_iload_n (pc := 0) S dJ1_charAt_3b067_0 rfl ?_
  refine zr_aload_n (pc := 1) S dJ1_charAt_3b067_1 rfl ?_
  refine zr_alenS (pc := 2) S hk dJ1_charAt_3b067_2 ?_ (by unfold zrI; omega)
  refine zr_invS (pc := 3) S [zI _, zI _] (m_J0_checkIndex_df160 _) (zcS (n := 2) (zWi_17 _ (List.mem_of_getElem? (i := 45) rfl)) (zWi_30 _ (List.mem_of_getElem? (i := 7) rfl)) (zWi_12 _ (List.mem_of_getElem? (i := 3) rfl)) (zWi_0 _ (List.mem_of_getElem? (i := 33) rfl)) (by decide +kernel) rfl rfl ⟨Nat.le_of_ble_eq_true rfl, Nat.le_of_ble_eq_true rfl⟩) dJ1_charAt_3b067_3 (Nat.le_of_ble_eq_true rfl) ⟨Nat.le_of_ble_eq_true rfl, Nat.le_of_ble_eq_true rfl⟩ ⟨_, _, rfl, h0, h1, ?_⟩
  dsimp only [zaft]
  refine zr_aload_n (pc := 6) S dJ1_charAt_3b067_6 rfl ?_
  refine zr_iload_n (pc := 7) S dJ1_charAt_3b067_7 rfl ?_
  refine zr_baloadS (pc := 8) S hk dJ1_charAt_3b067_8 h0 h1 ?_
  refine zr_sipush (pc := 9) S dJ1_charAt_3b067_9 ⟨by unfold zrI; omega, by decide⟩ ?_
  refine zr_iandm (pc := 12) S 8 dJ1_charAt_3b067_12 (by decide) rfl ?_
  rw [show zch k j % 2 ^ 8 = zch k j by omega]
  refine zr_i2c (pc := 13) S dJ1_charAt_3b067_13 (by omega) (by omega) ?_
  exact zr_nret (pc := 14) S dJ1_charAt_3b067_14 rfl (znch hc.1 hc.2) ⟨Nat.le_of_ble_eq_true rfl, Nat.le_of_ble_eq_true rfl⟩ hQ
def sp_J0_charAt_5068e (as : List zV) (M : zM) (Q : Option zV → zM → Prop) : Prop := ∃ (k : Nat) (j : Int), as = [zR (1000 + k), zI j] ∧ k < 10 ∧ 0 ≤ j ∧ j < (zSl.getD k 0 : Nat) ∧ Q (some (zI (zch k j))) M
set_option maxRecDepth 20000 in
set_option maxHeartbeats 4000000 in
theorem m_J0_charAt_5068e (l : Launch) : zC l yJ0_charAt_5068e wzJ0_charAt_5068e rmJ0_charAt_5068e sp_J0_charAt_5068e := by
  refine zMet.of RJ0 (by decide +kernel) rfl rfl ?_
  intro E X as M Qp hX S hsp
  obtain ⟨k, j, rfl, hk, h0, h1, hQ⟩ := hsp
  have hc := zch_r k j
  refine ⟨Nat.le_of_ble_eq_true rfl, ?_⟩
  dsimp only [zpad, zargs]
  refine zr_aload_n (pc := 0) S dJ0_charAt_5068e_0 rfl ?_
  refine zr_invStr (pc := 1) S [] hk (m_J0_isLatin1_aae02 _) (zcV (n := 0) (zWi_17 _ (List.mem_of_getElem? (i := 42) rfl)) (zWi_12 _ (List.mem_of_getElem? (i := 25) rfl)) (zWi_25 _ (List.mem_of_getElem? (i := 12) rfl)) (zWi_12 _ (List.mem_of_getElem? (i := 3) rfl)) (zWi_0 _ (List.mem_of_getElem? (i := 35) rfl)) (by decide +kernel) rfl rfl ⟨Nat.le_of_ble_eq_true rfl, Nat.le_of_ble_eq_true rfl⟩) dJ0_charAt_5068e_1 (Nat.le_of_ble_eq_true rfl) ⟨Nat.le_of_ble_eq_true rfl, Nat.le_of_ble_eq_true rfl⟩ ⟨k, rfl, hk, ?_⟩
  dsimp only [zaft]
  refine zr_if_eq (pc := 4) (tgt := 16) S dJ0_charAt_5068e_4 (by decide) (fun c => absurd c (by omega)) (fun c => ?_)
  refine zr_aload_n (pc := 7) S dJ0_charAt_5068e_7 rfl ?_
  refine zr_getSv (pc := 8) S hk (List.mem_cons_of_mem _ (zWi_7 _ (List.mem_of_getElem? (i := 39) rfl))) dJ0_charAt_5068e_8 ?_
  refine zr_iload_n (pc := 11) S dJ0_charAt_5068e_11 rfl ?_
  refine zr_invS (pc := 12) S [zR _, zI _] (m_J1_charAt_3b067 _) (zcS (n := 2) (zWi_17 _ (List.mem_of_getElem? (i := 43) rfl)) (zWi_30 _ (List.mem_of_getElem? (i := 8) rfl)) (zWi_12 _ (List.mem_of_getElem? (i := 4) rfl)) (zWi_0 _ (List.mem_of_getElem? (i := 37) rfl)) (by decide +kernel) rfl rfl ⟨Nat.le_of_ble_eq_true rfl, Nat.le_of_ble_eq_true rfl⟩) dJ0_charAt_5068e_12 (Nat.le_of_ble_eq_true rfl) ⟨Nat.le_of_ble_eq_true rfl, Nat.le_of_ble_eq_true rfl⟩ ⟨k, j, rfl, hk, h0, h1, ?_⟩
  dsimp only [zaft]
  exact zr_nret (pc := 15) S dJ0_charAt_5068e_15 rfl (znch hc.1 hc.2) ⟨Nat.le_of_ble_eq_true rfl, Nat.le_of_ble_eq_true rfl⟩ hQ
end
