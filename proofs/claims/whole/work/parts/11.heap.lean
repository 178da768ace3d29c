section
theorem znb {x : Int} (hx : -128 ≤ x ∧ x < 128) : vp_nar .byte (Int32.ofInt x) = Int32.ofInt x := by
  rw [vp_nar_byte]
  apply Int32.toInt_inj.mp
  have hr : zrI x := ⟨by have := hx.1; omega, by have := hx.2; omega⟩
  rw [Int8.toInt_toInt32, Int32.toInt_toInt8, zI_toInt hr]
  exact Int.bmod_eq_of_le (by have := hx.1; omega) (by have := hx.2; omega)
theorem znz {x : Int} (hx : x = 0 ∨ x = 1) : vp_nar .boolean (Int32.ofInt x) = Int32.ofInt x := by
  rcases hx with rfl | rfl <;> rfl
theorem znn {x : Int} (hx : x = 0 ∨ x = 1) : narrow .boolean (.int (Int32.ofInt x)) = .int (Int32.ofInt x) := by
  rcases hx with rfl | rfl <;> rfl
end
section
variable {G : zG} {R : Room} {nL : Nat} {q : zq} {X : zX} {b : Nat × Nat} {cc : ByteArray} {Ts : List Cond} {own : String} {ret : Option FieldType} {pc : Nat} {ls : List (Option zV)} {st : List zV} {M : zM}

/-- a field's link: class number ci, slot j -/
def zfl (Ts : List Cond) (own : String) (cl : List vw_C) (i ci j : Nat) : Prop := ∃ (C : String) (T : u_T) (N : Nat), cl[ci]? = some (C, T, N) ∧ (∀ w ∈ u_ws C T N, w ∈ Ts) ∧ j < N ∧ Cond.fieldLink own i (T j).1 (T j).2.1 (T j).2.2.1 ∈ Ts
/-- .. that may be written: an int, not final -/
def zfp (Ts : List Cond) (own : String) (cl : List vw_C) (i ci j : Nat) : Prop := ∃ (C : String) (T : u_T) (N : Nat) (ty : Nat → FieldType), cl[ci]? = some (C, T, N) ∧ (∀ w ∈ u_ws C T N, w ∈ Ts) ∧ j < N ∧ Cond.fieldLink own i (T j).1 (T j).2.1 (T j).2.2.1 ∈ Ts ∧ (∀ k, k < N → parseFieldDescriptor (T k).2.2.1 = some (ty k)) ∧ (∀ a, a < N → ∀ b, b < N → a ≠ b → (T a).2.1 ≠ (T b).2.1) ∧ (T j).2.2.2 = false ∧ parseFieldDescriptor (T j).2.2.1 = some .int
def zfpL (Ts : List Cond) (own : String) (cl : List vw_C) (i ci j : Nat) : Prop := ∃ (C : String) (T : u_T) (N : Nat) (ty : Nat → FieldType), cl[ci]? = some (C, T, N) ∧ (∀ w ∈ u_ws C T N, w ∈ Ts) ∧ j < N ∧ Cond.fieldLink own i (T j).1 (T j).2.1 (T j).2.2.1 ∈ Ts ∧ (∀ k, k < N → parseFieldDescriptor (T k).2.2.1 = some (ty k)) ∧ (∀ a, a < N → ∀ b, b < N → a ≠ b → (T a).2.1 ≠ (T b).2.1) ∧ (T j).2.2.2 = false ∧ parseFieldDescriptor (T j).2.2.1 = some .long
theorem zfld {E : zE} {sl : List Nat} {f : Nat → Int} {j t : Nat} (h : sl[j]? = some t) : (sl.mapIdx (fun j t => zsv E (f j) t))[j]? = some (zsv E (f j) t) := by
  rw [List.getElem?_mapIdx, h]
  rfl
theorem zrI_of {Y : zY} {M : zM} {k ci j : Nat} {sl : List Nat} (hM : zokM Y M) (hY : Y k = .inr (ci, sl)) (hs : sl[j]? = some 0) : zrI (M k j) := by
  have h1 := hM k j
  rw [hY] at h1
  have h2 : zrF (sl.getD j 0) (M k j) := h1
  rw [List.getD_eq_getElem?_getD, hs] at h2
  exact h2
theorem zrL_of {Y : zY} {M : zM} {k ci j : Nat} {sl : List Nat} (hM : zokM Y M) (hY : Y k = .inr (ci, sl)) (hs : sl[j]? = some 2) : zrL (M k j) := by
  have h1 := hM k j
  rw [hY] at h1
  have h2 : zrF (sl.getD j 0) (M k j) := h1
  rw [List.getD_eq_getElem?_getD, hs] at h2
  exact h2
theorem zokM.up {Y : zY} {M : zM} {k j : Nat} {x : Int} (hM : zokM Y M) (hx : zrT (Y k) j x) : zokM Y (zup M k j x) := by
  intro k' j'
  unfold zup
  by_cases h : k' = k
  · rw [if_pos h]
    by_cases h2 : j' = j
    · rw [if_pos h2, h, h2]; exact hx
    · rw [if_neg h2]; exact hM k' j'
  · rw [if_neg h]; exact hM k' j'
theorem zr_getI (S : zS G X cc nL Ts own ret) {k i ci j : Nat} {sl : List Nat} (hf : zfl Ts own G.2.2.2.1 i ci j) (hd : decode cc pc = .ok (.getfield i, 3)) (hY : G.1 k = .inr (ci, sl)) (hk : k < G.2.2.1) (hs : sl[j]? = some 0) (kk : zK G R nL q X b (pc + 3) ls (zI (M k j) :: st) M) : zK G R nL q X b pc ls (zR k :: st) M := by
  intro ho hl hM H locs arr hP hS hh
  obtain ⟨C, T, N, h1, h2, h3, h4⟩ := hf
  have he := zw_get (Y := G.1) (E := G.2.1) (M := M) hk
  rw [hY] at he
  exact va_get (D := G.2.1.1) S.1.1 S.1.2.1 S.1.2.2.2.2 h2 S.1.2.2.2.1 S.2.1 hP k he h1 j h3 (S.1.2.2.2.2 _ h4) (fun _ h9 => h9) (zfld hs) hd (kk (zokc (v := zI (M k j)) (zrI_of hM hY hs) (zokt ho)) hl hM H locs arr hP hS hh)
theorem zr_getR (S : zS G X cc nL Ts own ret) {k i ci j t : Nat} {sl : List Nat} (hf : zfl Ts own G.2.2.2.1 i ci j) (hd : decode cc pc = .ok (.getfield i, 3)) (hY : G.1 k = .inr (ci, sl)) (hk : k < G.2.2.1) (hs : sl[j]? = some (t + 3)) (kk : zK G R nL q X b (pc + 3) ls (zR t :: st) M) : zK G R nL q X b pc ls (zR k :: st) M := by
  intro ho hl hM H locs arr hP hS hh
  obtain ⟨C, T, N, h1, h2, h3, h4⟩ := hf
  have he := zw_get (Y := G.1) (E := G.2.1) (M := M) hk
  rw [hY] at he
  exact va_get (D := G.2.1.1) S.1.1 S.1.2.1 S.1.2.2.2.2 h2 S.1.2.2.2.1 S.2.1 hP k he h1 j h3 (S.1.2.2.2.2 _ h4) (fun _ h9 => h9) (zfld hs) hd (kk (zokc (v := zR t) trivial (zokt ho)) hl hM H locs arr hP hS hh)
theorem zr_getL (S : zS G X cc nL Ts own ret) {k i ci j : Nat} {sl : List Nat} (hf : zfl Ts own G.2.2.2.1 i ci j) (hd : decode cc pc = .ok (.getfield i, 3)) (hY : G.1 k = .inr (ci, sl)) (hk : k < G.2.2.1) (hs : sl[j]? = some 2) (kk : zK G R nL q X b (pc + 3) ls (zL (M k j) :: st) M) : zK G R nL q X b pc ls (zR k :: st) M := by
  intro ho hl hM H locs arr hP hS hh
  obtain ⟨C, T, N, h1, h2, h3, h4⟩ := hf
  have he := zw_get (Y := G.1) (E := G.2.1) (M := M) hk
  rw [hY] at he
  exact va_get (D := G.2.1.1) S.1.1 S.1.2.1 S.1.2.2.2.2 h2 S.1.2.2.2.1 S.2.1 hP k he h1 j h3 (S.1.2.2.2.2 _ h4) (fun _ h9 => h9) (zfld hs) hd (kk (zokc (v := zL (M k j)) (zrL_of hM hY hs) (zokt ho)) hl hM H locs arr hP hS hh)
theorem zr_putI (S : zS G X cc nL Ts own ret) {k i ci j : Nat} {x : Int} {sl : List Nat} (hf : zfp Ts own G.2.2.2.1 i ci j) (hd : decode cc pc = .ok (.putfield i, 3)) (hY : G.1 k = .inr (ci, sl)) (hk : k < G.2.2.1) (hs : sl[j]? = some 0) (kk : zK G R nL q X b (pc + 3) ls st (zup M k j x)) : zK G R nL q X b pc ls (zI x :: zR k :: st) M := by
  intro ho hl hM H locs arr hP hS hh
  have hx : zrI x := zokh ho
  obtain ⟨C, T, N, ty, h1, h2, h3, h4, h5, h6, h7, h8⟩ := hf
  have he := zw_get (Y := G.1) (E := G.2.1) (M := M) hk
  rw [hY] at he
  have hlen : j < (sl.mapIdx (fun j t => zsv G.2.1 (M k j) t)).length := by
    rw [List.length_mapIdx]
    exact (List.getElem?_eq_some_iff.mp hs).1
  have hM' : zokM G.1 (zup M k j x) := hM.up (by rw [hY]; show zrF (sl.getD j 0) x; rw [List.getD_eq_getElem?_getD, hs]; exact hx)
  refine va_put (D := G.2.1.1) (v := .int (Int32.ofInt x)) S.1.1 S.1.2.1 S.1.2.2.2.2 h2 ty h5 h6 S.1.2.2.2.1 S.2.1 hP (zw_D S.2.2.1) hS k he h1 j h3 (S.1.2.2.2.2 _ h4) (fun _ h9 => h9) h7 h8 rfl rfl hlen hd (fun H1 locs1 hP1 _ hS1 => ?_)
  refine kk (zokt (zokt ho)) hl hM' H1 locs1 arr ?_ hS1 hh
  rw [← zw_set (M := M) (e := .inr (ci, (sl.mapIdx (fun j t => zsv G.2.1 (M k j) t)).set j (.int (Int32.ofInt x)))) hk ?_ (fun i hi => zup_o i hi)]
  · exact hP1
  · rw [hY]
    show Sum.inr _ = Sum.inr _
    congr 2
    apply List.ext_getElem?
    intro i
    by_cases hi : i = j
    · subst hi
      rw [List.getElem?_set_self hlen, List.getElem?_mapIdx, hs]
      simp [zup, zsv]
    · rw [List.getElem?_set_ne (fun h => hi h.symm), List.getElem?_mapIdx, List.getElem?_mapIdx]
      cases sl[i]? with
      | none => rfl
      | some t => simp [zup, hi]
theorem zr_putL (S : zS G X cc nL Ts own ret) {k i ci j : Nat} {x : Int} {sl : List Nat} (hf : zfpL Ts own G.2.2.2.1 i ci j) (hd : decode cc pc = .ok (.putfield i, 3)) (hY : G.1 k = .inr (ci, sl)) (hk : k < G.2.2.1) (hs : sl[j]? = some 2) (kk : zK G R nL q X b (pc + 3) ls st (zup M k j x)) : zK G R nL q X b pc ls (zL x :: zR k :: st) M := by
  intro ho hl hM H locs arr hP hS hh
  have hx : zrL x := zokh ho
  obtain ⟨C, T, N, ty, h1, h2, h3, h4, h5, h6, h7, h8⟩ := hf
  have he := zw_get (Y := G.1) (E := G.2.1) (M := M) hk
  rw [hY] at he
  have hlen : j < (sl.mapIdx (fun j t => zsv G.2.1 (M k j) t)).length := by
    rw [List.length_mapIdx]
    exact (List.getElem?_eq_some_iff.mp hs).1
  have hM' : zokM G.1 (zup M k j x) := hM.up (by rw [hY]; show zrF (sl.getD j 0) x; rw [List.getD_eq_getElem?_getD, hs]; exact hx)
  refine va_put (D := G.2.1.1) (v := .long (Int64.ofInt x)) S.1.1 S.1.2.1 S.1.2.2.2.2 h2 ty h5 h6 S.1.2.2.2.1 S.2.1 hP (zw_D S.2.2.1) hS k he h1 j h3 (S.1.2.2.2.2 _ h4) (fun _ h9 => h9) h7 h8 rfl rfl hlen hd (fun H1 locs1 hP1 _ hS1 => ?_)
  refine kk (zokt (zokt ho)) hl hM' H1 locs1 arr ?_ hS1 hh
  rw [← zw_set (M := M) (e := .inr (ci, (sl.mapIdx (fun j t => zsv G.2.1 (M k j) t)).set j (.long (Int64.ofInt x)))) hk ?_ (fun i hi => zup_o i hi)]
  · exact hP1
  · rw [hY]
    show Sum.inr _ = Sum.inr _
    congr 2
    apply List.ext_getElem?
    intro i
    by_cases hi : i = j
    · subst hi
      rw [List.getElem?_set_self hlen, List.getElem?_mapIdx, hs]
      simp [zup, zsv]
    · rw [List.getElem?_set_ne (fun h => hi h.symm), List.getElem?_mapIdx, List.getElem?_mapIdx]
      cases sl[i]? with
      | none => rfl
      | some t => simp [zup, hi]

theorem zr_iaload (S : zS G X cc nL Ts own ret) {k n : Nat} {i : Int} (hd : decode cc pc = .ok (.iaload, 1)) (hY : G.1 k = .inl (0, n)) (hk : k < G.2.2.1) (h0 : 0 ≤ i) (h1 : i < (n : Int)) (kk : zK G R nL q X b (pc + 1) ls (zI (M k i.toNat) :: st) M) : zK G R nL q X b pc ls (zI i :: zR k :: st) M := by
  intro ho hl hM H locs arr hP hS hh
  have hi := zI_in h0 h1 (zokh ho)
  have he := zw_get (Y := G.1) (E := G.2.1) (M := M) hk
  rw [hY] at he
  have hv : zok (zI (M k i.toNat)) := by
    have := hM k i.toNat
    rw [hY] at this
    exact this
  refine va_iald (D := G.2.1.1) S.1.1 S.1.2.1 S.2.1 hP k 0 he rfl hi.1 hd ?_
  rw [hi.2]
  exact kk (zokc hv (zokt (zokt ho))) hl hM H locs arr hP hS hh
theorem zr_laload (S : zS G X cc nL Ts own ret) {k n : Nat} {i : Int} (hd : decode cc pc = .ok (.laload, 1)) (hY : G.1 k = .inl (1, n)) (hk : k < G.2.2.1) (h0 : 0 ≤ i) (h1 : i < (n : Int)) (kk : zK G R nL q X b (pc + 1) ls (zL (M k i.toNat) :: st) M) : zK G R nL q X b pc ls (zI i :: zR k :: st) M := by
  intro ho hl hM H locs arr hP hS hh
  have hi := zI_in h0 h1 (zokh ho)
  have he := zw_get (Y := G.1) (E := G.2.1) (M := M) hk
  rw [hY] at he
  have hv : zok (zL (M k i.toNat)) := by
    have := hM k i.toNat
    rw [hY] at this
    exact this
  refine va_lald (D := G.2.1.1) S.1.1 S.1.2.1 S.2.1 hP k 1 he rfl hi.1 hd ?_
  rw [hi.2]
  exact kk (zokc hv (zokt (zokt ho))) hl hM H locs arr hP hS hh
theorem zr_baload (S : zS G X cc nL Ts own ret) {k n : Nat} {i : Int} (hd : decode cc pc = .ok (.baload, 1)) (hY : G.1 k = .inl (2, n)) (hk : k < G.2.2.1) (h0 : 0 ≤ i) (h1 : i < (n : Int)) (kk : zK G R nL q X b (pc + 1) ls (zI (M k i.toNat) :: st) M) : zK G R nL q X b pc ls (zI i :: zR k :: st) M := by
  intro ho hl hM H locs arr hP hS hh
  have hi := zI_in h0 h1 (zokh ho)
  have he := zw_get (Y := G.1) (E := G.2.1) (M := M) hk
  rw [hY] at he
  have hv : zok (zI (M k i.toNat)) := by
    have := hM k i.toNat
    rw [hY] at this
    exact ⟨by have := this.1; omega, by have := this.2; omega⟩
  refine va_bald (D := G.2.1.1) S.1.1 S.1.2.1 S.2.1 hP k 2 he rfl hi.1 hd ?_
  rw [hi.2]
  exact kk (zokc hv (zokt (zokt ho))) hl hM H locs arr hP hS hh
theorem zr_zaload (S : zS G X cc nL Ts own ret) {k n : Nat} {i : Int} (hd : decode cc pc = .ok (.baload, 1)) (hY : G.1 k = .inl (3, n)) (hk : k < G.2.2.1) (h0 : 0 ≤ i) (h1 : i < (n : Int)) (kk : zK G R nL q X b (pc + 1) ls (zI (M k i.toNat) :: st) M) : zK G R nL q X b pc ls (zI i :: zR k :: st) M := by
  intro ho hl hM H locs arr hP hS hh
  have hi := zI_in h0 h1 (zokh ho)
  have he := zw_get (Y := G.1) (E := G.2.1) (M := M) hk
  rw [hY] at he
  have hv : zok (zI (M k i.toNat)) := by
    have := hM k i.toNat
    rw [hY] at this
    exact this.elim (fun e => by rw [e]; exact zrI_0) (fun e => by rw [e]; exact ⟨by omega, by omega⟩)
  refine va_zald (D := G.2.1.1) S.1.1 S.1.2.1 S.2.1 hP k 3 he rfl hi.1 hd ?_
  rw [hi.2]
  exact kk (zokc hv (zokt (zokt ho))) hl hM H locs arr hP hS hh
theorem zr_aaload (S : zS G X cc nL Ts own ret) {k n t : Nat} {C : String} {i : Int} (hd : decode cc pc = .ok (.aaload, 1)) (hY : G.1 k = .inl (t + 4, n)) (hk : k < G.2.2.1) (ht : (zt G.2.1)[t + 4]? = some (G.2.1.2.1 (t + 4), .object C)) (h0 : 0 ≤ i) (h1 : i < (n : Int)) (kk : zK G R nL q X b (pc + 1) ls (zR (M k i.toNat).toNat :: st) M) : zK G R nL q X b pc ls (zI i :: zR k :: st) M := by
  intro ho hl hM H locs arr hP hS hh
  have hi := zI_in h0 h1 (zokh ho)
  have he := zw_get (Y := G.1) (E := G.2.1) (M := M) hk
  rw [hY] at he
  refine va_aldq (D := G.2.1.1) S.1.1 S.1.2.1 S.2.1 hP k (t + 4) he ht hi.1 hd ?_
  rw [hi.2]
  exact kk (zokc (v := zR _) trivial (zokt (zokt ho))) hl hM H locs arr hP hS hh
theorem zr_iastore (S : zS G X cc nL Ts own ret) {k n : Nat} {i x : Int} (hd : decode cc pc = .ok (.iastore, 1)) (hY : G.1 k = .inl (0, n)) (hk : k < G.2.2.1) (h0 : 0 ≤ i) (h1 : i < (n : Int))  (kk : zK G R nL q X b (pc + 1) ls st (zup M k i.toNat x)) : zK G R nL q X b pc ls (zI x :: zI i :: zR k :: st) M := by
  intro ho hl hM H locs arr hP hS hh
  have hi := zI_in h0 h1 (zokh (zokt ho))
  have he := zw_get (Y := G.1) (E := G.2.1) (M := M) hk
  rw [hY] at he
  have hM' : zokM G.1 (zup M k i.toNat x) := hM.up (by rw [hY]; exact zokh ho)
  refine va_iast (D := G.2.1.1) S.1.1 S.1.2.1 S.2.1 hP (zw_D S.2.2.1) hS k 0 he rfl hi.1 hd (fun H1 locs1 hP1 _ hS1 => ?_)
  refine kk (zokt (zokt (zokt ho))) hl hM' H1 locs1 arr ?_ hS1 hh
  rw [hi.2] at hP1
  rw [← zw_set (M := M) hk ?_ (fun i hi => zup_o i hi)]
  · exact hP1
  · rw [hY]
    show Sum.inl _ = Sum.inl _
    congr 3
    show Sum.inl _ = Sum.inl _
    congr 1
    funext j
    by_cases hj : j = i.toNat
    · subst hj
      simp [zup, upd]
    · simp [zup, upd, hj]
theorem zr_lastore (S : zS G X cc nL Ts own ret) {k n : Nat} {i x : Int} (hd : decode cc pc = .ok (.lastore, 1)) (hY : G.1 k = .inl (1, n)) (hk : k < G.2.2.1) (h0 : 0 ≤ i) (h1 : i < (n : Int))  (kk : zK G R nL q X b (pc + 1) ls st (zup M k i.toNat x)) : zK G R nL q X b pc ls (zL x :: zI i :: zR k :: st) M := by
  intro ho hl hM H locs arr hP hS hh
  have hi := zI_in h0 h1 (zokh (zokt ho))
  have he := zw_get (Y := G.1) (E := G.2.1) (M := M) hk
  rw [hY] at he
  have hM' : zokM G.1 (zup M k i.toNat x) := hM.up (by rw [hY]; exact zokh ho)
  refine va_last (D := G.2.1.1) S.1.1 S.1.2.1 S.2.1 hP (zw_D S.2.2.1) hS k 1 he rfl hi.1 hd (fun H1 locs1 hP1 _ hS1 => ?_)
  refine kk (zokt (zokt (zokt ho))) hl hM' H1 locs1 arr ?_ hS1 hh
  rw [hi.2] at hP1
  rw [← zw_set (M := M) hk ?_ (fun i hi => zup_o i hi)]
  · exact hP1
  · rw [hY]
    show Sum.inl _ = Sum.inl _
    congr 3
    show Sum.inr (Sum.inl _ ) = Sum.inr (Sum.inl _ )
    congr 2
    funext j
    by_cases hj : j = i.toNat
    · subst hj
      simp [zup, vp_updL]
    · simp [zup, vp_updL, hj]
theorem zr_bastore (S : zS G X cc nL Ts own ret) {k n : Nat} {i x : Int} (hd : decode cc pc = .ok (.bastore, 1)) (hY : G.1 k = .inl (2, n)) (hk : k < G.2.2.1) (h0 : 0 ≤ i) (h1 : i < (n : Int)) (hx : -128 ≤ x ∧ x < 128) (kk : zK G R nL q X b (pc + 1) ls st (zup M k i.toNat x)) : zK G R nL q X b pc ls (zI x :: zI i :: zR k :: st) M := by
  intro ho hl hM H locs arr hP hS hh
  have hi := zI_in h0 h1 (zokh (zokt ho))
  have he := zw_get (Y := G.1) (E := G.2.1) (M := M) hk
  rw [hY] at he
  have hM' : zokM G.1 (zup M k i.toNat x) := hM.up (by rw [hY]; exact hx)
  refine va_bast (D := G.2.1.1) S.1.1 S.1.2.1 S.2.1 hP (zw_D S.2.2.1) hS k 2 he rfl hi.1 hd (fun H1 locs1 hP1 _ hS1 => ?_)
  refine kk (zokt (zokt (zokt ho))) hl hM' H1 locs1 arr ?_ hS1 hh
  rw [hi.2] at hP1
  rw [← zw_set (M := M) hk ?_ (fun i hi => zup_o i hi)]
  · exact hP1
  · rw [hY]
    show Sum.inl _ = Sum.inl _
    congr 3
    show Sum.inl _ = Sum.inl _
    congr 1
    funext j
    by_cases hj : j = i.toNat
    · subst hj
      simp [zup, upd, znb hx]
    · simp [zup, upd, hj]
theorem zr_zastore (S : zS G X cc nL Ts own ret) {k n : Nat} {i x : Int} (hd : decode cc pc = .ok (.bastore, 1)) (hY : G.1 k = .inl (3, n)) (hk : k < G.2.2.1) (h0 : 0 ≤ i) (h1 : i < (n : Int)) (hx : x = 0 ∨ x = 1) (kk : zK G R nL q X b (pc + 1) ls st (zup M k i.toNat x)) : zK G R nL q X b pc ls (zI x :: zI i :: zR k :: st) M := by
  intro ho hl hM H locs arr hP hS hh
  have hi := zI_in h0 h1 (zokh (zokt ho))
  have he := zw_get (Y := G.1) (E := G.2.1) (M := M) hk
  rw [hY] at he
  have hM' : zokM G.1 (zup M k i.toNat x) := hM.up (by rw [hY]; exact hx)
  refine va_zast (D := G.2.1.1) S.1.1 S.1.2.1 S.2.1 hP (zw_D S.2.2.1) hS k 3 he rfl hi.1 hd (fun H1 locs1 hP1 _ hS1 => ?_)
  refine kk (zokt (zokt (zokt ho))) hl hM' H1 locs1 arr ?_ hS1 hh
  rw [hi.2] at hP1
  rw [← zw_set (M := M) hk ?_ (fun i hi => zup_o i hi)]
  · exact hP1
  · rw [hY]
    show Sum.inl _ = Sum.inl _
    congr 3
    show Sum.inl _ = Sum.inl _
    congr 1
    funext j
    by_cases hj : j = i.toNat
    · subst hj
      simp [zup, upd, znz hx]
    · simp [zup, upd, hj]
theorem zr_alen (S : zS G X cc nL Ts own ret) {k t n : Nat} (hd : decode cc pc = .ok (.arraylength, 1)) (hY : G.1 k = .inl (t, n)) (hk : k < G.2.2.1) (ht : ∃ ty, (zt G.2.1)[t]? = some (G.2.1.2.1 t, ty)) (hn : zrI n) (kk : zK G R nL q X b (pc + 1) ls (zI n :: st) M) : zK G R nL q X b pc ls (zR k :: st) M := by
  intro ho hl hM H locs arr hP hS hh
  have he := zw_get (Y := G.1) (E := G.2.1) (M := M) hk
  rw [hY] at he
  obtain ⟨ty, ht⟩ := ht
  exact va_alen (D := G.2.1.1) S.1.1 S.1.2.1 S.2.1 hP k t he ht (show Int32.ofNat n = Int32.ofInt (n : Int) by first | rfl | exact Int32.ofInt_eq_ofNat.symm | simp) hd (kk (zokc (v := zI n) hn (zokt ho)) hl hM H locs arr hP hS hh)
theorem zr_iret (S : zS G X cc nL Ts own ret) {x : Int} (hd : decode cc pc = .ok (.ireturn, 1)) (hr : ret = some .int)  (hb : b.1 ≤ q.2.1 ∧ b.2 ≤ q.2.2) (hq : q.1 (some (zI x)) M) : zK G R nL q X b pc ls [zI x] M := by
  intro ho hl hM H locs arr hP hS hh
  refine W.widen hb.1 hb.2 (vx_ret ?_)
  exact W.iret S.1.1 S.1.2.1 (by rw [S.2.2.2.1, hr])  (fun t ht hW => ⟨⟨some (zI x), M, rfl, hq, fun v hv => by cases hv; exact zokh ho, fun k hk => (by cases hk), hM, by rw [ht]; exact hP⟩, hS.F ht⟩) hS.2.2 hd S.2.2.2.2.1
theorem zr_lret (S : zS G X cc nL Ts own ret) {x : Int} (hd : decode cc pc = .ok (.lreturn, 1)) (hr : ret = some .long)  (hb : b.1 ≤ q.2.1 ∧ b.2 ≤ q.2.2) (hq : q.1 (some (zL x)) M) : zK G R nL q X b pc ls [zL x] M := by
  intro ho hl hM H locs arr hP hS hh
  refine W.widen hb.1 hb.2 (vx_ret ?_)
  exact W.lret S.1.1 S.1.2.1 (by rw [S.2.2.2.1, hr])  (fun t ht hW => ⟨⟨some (zL x), M, rfl, hq, fun v hv => by cases hv; exact zokh ho, fun k hk => (by cases hk), hM, by rw [ht]; exact hP⟩, hS.F ht⟩) hS.2.2 hd S.2.2.2.2.1
theorem zr_zret (S : zS G X cc nL Ts own ret) {x : Int} (hd : decode cc pc = .ok (.ireturn, 1)) (hr : ret = some .boolean) (hx : x = 0 ∨ x = 1) (hb : b.1 ≤ q.2.1 ∧ b.2 ≤ q.2.2) (hq : q.1 (some (zI x)) M) : zK G R nL q X b pc ls [zI x] M := by
  intro ho hl hM H locs arr hP hS hh
  refine W.widen hb.1 hb.2 (vx_ret ?_)
  exact W.zret S.1.1 S.1.2.1 (by rw [S.2.2.2.1, hr]) (znn hx) (fun t ht hW => ⟨⟨some (zI x), M, rfl, hq, fun v hv => by cases hv; exact zokh ho, fun k hk => (by cases hk), hM, by rw [ht]; exact hP⟩, hS.F ht⟩) hS.2.2 hd S.2.2.2.2.1
theorem zr_vret (S : zS G X cc nL Ts own ret) (hd : decode cc pc = .ok (.return_, 1)) (hr : ret = none) (hb : b.1 ≤ q.2.1 ∧ b.2 ≤ q.2.2) (hq : q.1 none M) : zK G R nL q X b pc ls [] M := by
  intro ho hl hM H locs arr hP hS hh
  refine W.widen hb.1 hb.2 (vx_ret ?_)
  exact W.vret S.1.1 S.1.2.1 (by rw [S.2.2.2.1, hr]) (fun t ht hW => ⟨⟨none, M, rfl, hq, fun v hv => (by cases hv), fun k hk => (by cases hk), hM, by rw [ht]; exact hP⟩, hS.F ht⟩) hS.2.2 hd S.2.2.2.2.1
theorem zr_aret (S : zS G X cc nL Ts own ret) {k : Nat} {C : String} (hd : decode cc pc = .ok (.areturn, 1)) (hr : ret = some (.object C)) (hk : k < 3000) (hb : b.1 ≤ q.2.1 ∧ b.2 ≤ q.2.2) (hq : q.1 (some (zR k)) M) : zK G R nL q X b pc ls [zR k] M := by
  intro ho hl hM H locs arr hP hS hh
  refine W.widen hb.1 hb.2 (vx_ret ?_)
  exact W.aret (v := .ref (G.2.1.2.2 k)) S.1.1 S.1.2.1 (by rw [S.2.2.2.1, hr]) (Or.inl ⟨_, rfl⟩) (Or.inr ⟨_, rfl⟩) (fun t ht hW => ⟨⟨some (zR k), M, rfl, hq, fun v hv => by cases hv; exact zokh ho, fun k' hk' => (by cases hk'; exact hk), hM, by rw [ht]; exact hP⟩, hS.F ht⟩) hS.2.2 hd S.2.2.2.2.1
end
section
/-- a method's contract over the abstract state: sp arguments memory post -/
def zMet (l : Launch) (Y : zY) (N : Nat) (cl : List vw_C) (nw : zN) (y : MethodName) (ws : List Cond) (rm : Room) (mc ms : Nat) (sp : List zV → zM → (Option zV → zM → Prop) → Prop) : Prop :=
  l.stackTraces = false → ∀ (E : zE) (sz : Nat) (as : List zV) (M : zM) (Qp : Option zV → zM → Prop), (∀ v ∈ as, zok v) → zokM Y M → zinj E N → sp as M Qp →
    vx_Met l y ws rm (va_Pc (as.map (zc E)) (fun U => U.heap.size = sz ∧ va_P E.1 cl (zw Y E N M) U.heap ∧ va_K E.1 cl (zt E) U ∧ zEnv nw E.2.2 (zA E N sz) U U.heap)) (zQc (Y, E, N, cl, nw) (zA E N sz) Qp) (zQX (Y, E, N, cl, nw) (zA E N sz) Qp) mc ms (zA E N sz)
def zargs : List zV → List (Option zV)
  | [] => []
  | .inr (.inl x) :: r => some (zL x) :: none :: zargs r
  | v :: r => some v :: zargs r
def zpad : Nat → List (Option zV) → List (Option zV)
  | 0, l => l
  | n + 1, [] => none :: zpad n []
  | n + 1, a :: r => a :: zpad n r
theorem zpad_get : ∀ (n : Nat) (l : List (Option zV)) (i : Nat) (v : zV), zget (zpad n l) i = some v → zget l i = some v
  | 0, _, _, _, h => h
  | n + 1, [], 0, _, h => by cases h
  | n + 1, [], i + 1, v, h => by
    have := zpad_get n [] i v h
    cases this
  | n + 1, a :: r, 0, v, h => h
  | n + 1, a :: r, i + 1, v, h => zpad_get n r i v h
theorem zargs_get (E : zE) : ∀ (as : List zV) (o i : Nat) (v : zV), zget (zargs as) i = some v → (o + i, zc E v) ∈ lv_args o (as.map (zc E))
  | [], _, _, _, h => by cases h
  | .inl x :: r, o, 0, v, h => by
    cases h
    exact List.mem_cons_self
  | .inl x :: r, o, i + 1, v, h => by
    have := zargs_get E r (o + 1) i v h
    refine List.mem_cons_of_mem _ ?_
    rw [show o + (i + 1) = o + 1 + i by omega]
    exact this
  | .inr (.inr x) :: r, o, 0, v, h => by
    cases h
    exact List.mem_cons_self
  | .inr (.inr x) :: r, o, i + 1, v, h => by
    have := zargs_get E r (o + 1) i v h
    refine List.mem_cons_of_mem _ ?_
    rw [show o + (i + 1) = o + 1 + i by omega]
    exact this
  | .inr (.inl x) :: r, o, 0, v, h => by
    cases h
    exact List.mem_cons_self
  | .inr (.inl x) :: r, o, 1, v, h => by cases h
  | .inr (.inl x) :: r, o, i + 2, v, h => by
    have := zargs_get E r (o + 2) i v h
    refine List.mem_cons_of_mem _ ?_
    rw [show o + (i + 2) = o + 2 + i by omega]
    exact this
theorem zargs_len (E : zE) : ∀ (as : List zV), (lg_sl (as.map (zc E))).length = (zargs as).length
  | [] => rfl
  | .inl x :: r => by
    have := zargs_len E r
    simp only [List.map_cons, lg_sl, List.flatMap_cons, zargs, List.length_cons, List.length_append] at this ⊢
    rw [this]
    simp [zc, Value.category]
    omega
  | .inr (.inr x) :: r => by
    have := zargs_len E r
    simp only [List.map_cons, lg_sl, List.flatMap_cons, zargs, List.length_cons, List.length_append] at this ⊢
    rw [this]
    simp [zc, Value.category]
    omega
  | .inr (.inl x) :: r => by
    have := zargs_len E r
    simp only [List.map_cons, lg_sl, List.flatMap_cons, zargs, List.length_cons, List.length_append] at this ⊢
    rw [this]
    simp [zc, Value.category]
    omega
theorem zargs_ok : ∀ (as : List zV), (∀ v ∈ as, zok v) → zokL (zargs as)
  | [], _, _, _, h => by cases h
  | .inl x :: r, ha, 0, v, h => by cases h; exact ha _ List.mem_cons_self
  | .inl x :: r, ha, i + 1, v, h => zargs_ok r (zokt ha) i v h
  | .inr (.inr x) :: r, ha, 0, v, h => by cases h; exact ha _ List.mem_cons_self
  | .inr (.inr x) :: r, ha, i + 1, v, h => zargs_ok r (zokt ha) i v h
  | .inr (.inl x) :: r, ha, 0, v, h => by cases h; exact ha _ List.mem_cons_self
  | .inr (.inl x) :: r, ha, 1, v, h => by cases h
  | .inr (.inl x) :: r, ha, i + 2, v, h => zargs_ok r (zokt ha) i v h
theorem zMet.of {l : Launch} {Y : zY} {N : Nat} {cl : List vw_C} {nw : zN} {y : MethodName} {ws ws' : List Cond} {rm : Room} {mc ms : Nat} {sp : List zV → zM → (Option zV → zM → Prop) → Prop} {cc : ByteArray} {nL : Nat} {ret : Option FieldType} (own : String)
    (hy : plainName y.cls = true) (hw : ws = Cond.code y cc nL ret :: ws') (ho : y.cls = own)
    (body : ∀ (E : zE) (X : zX) (as : List zV) (M : zM) (Qp : Option zV → zM → Prop), X.2.1 = l → zS (Y, E, N, cl, nw) X cc nL ws own ret → sp as M Qp → (zargs as).length ≤ nL ∧ zK (Y, E, N, cl, nw) rm nL (Qp, mc, ms) X (0, 0) 0 (zpad nL (zargs as)) [] M) : zMet l Y N cl nw y ws rm mc ms sp := by
  intro hfl E sz as M Qp hok hM hinj hsp
  refine vx_ofW (cc := cc) (maxL := nL) (ret := ret) hy hw ?_
  intro p e s m args below meth c s₁ B hml htab hv
  have htab2 : c.exceptionTable.toList = tableOf (ztab ws) := by
    rw [hw]
    exact List.eq_nil_iff_forall_not_mem.mpr htab
  obtain ⟨rfl, hsz, hP, hK, hN⟩ := hv
  subst hsz
  have hown : s.vm.findClass own = some m.cls := by rw [← ho]; exact findClass_of_methodNamed B.named
  have hts := atoms_spec (ws := ws) B.pre
  have S : zS (Y, E, N, cl, nw) (p, l, e, s, m, (as.map (zc E)).toArray, below, meth, c) cc nL ws own ret := ⟨⟨B.exec, B.bytes, hml, hown, hts⟩, hK, hinj, B.returns, B.notSynchronized, hN, hfl, htab2⟩
  obtain ⟨hlen, k⟩ := body E (p, l, e, s, m, (as.map (zc E)).toArray, below, meth, c) as M Qp rfl S hsp
  rw [lg_entry_eq]
  have hl := lv_entry (as.map (zc E)) (n := nL) (by rw [zargs_len]; exact hlen)
  refine k (fun v hv => by cases hv) (fun i v hv => zargs_ok as hok i v (zpad_get _ _ _ _ hv)) hM s.heap [] _ hP va_S.rf ⟨hl.1, hl.2.1, fun i v hv => ?_⟩
  have := hl.2.2 _ (zargs_get E as 0 i v (zpad_get _ _ _ _ hv))
  rw [Nat.zero_add] at this
  exact this
end

section
variable {G : zG} {R : Room} {nL : Nat} {q : zq} {X : zX} {b : Nat × Nat} {cc : ByteArray} {Ts : List Cond} {own : String} {ret : Option FieldType} {pc : Nat} {ls : List (Option zV)} {st : List zV} {M : zM}

def zcat2 : zV → Nat
  | .inr (.inl _) => 2
  | _ => 1
def zdep : List zV → Nat
  | [] => 0
  | v :: r => zcat2 v + zdep r
theorem zdep_eq (E : zE) : ∀ (st : List zV), ((st.map (zc E)).map (fun v => v.category)).sum = zdep st
  | [] => rfl
  | .inl x :: r => by simp only [List.map_cons, List.sum_cons, zdep_eq E r]; rfl
  | .inr (.inl x) :: r => by simp only [List.map_cons, List.sum_cons, zdep_eq E r]; rfl
  | .inr (.inr x) :: r => by simp only [List.map_cons, List.sum_cons, zdep_eq E r]; rfl
theorem zPcBlind {E : zE} {as : List zV} {sz : Nat} {cl : List vw_C} {w : va_W} {tys : List (ClassId × FieldType)} {nw : zN} {A : Nat → Prop} : FrameBlind (va_Pc (as.map (zc E)) (fun U => U.heap.size = sz ∧ va_P E.1 cl w U.heap ∧ va_K E.1 cl tys U ∧ zEnv nw E.2.2 A U U.heap)) := by
  intro a U g mk h
  obtain ⟨h1, h2, h3, h4, h5⟩ := h
  exact ⟨h1, h2, h3, va_K.moved (u := U) (U := U.calling g mk a) (Vm.Alike.refl U.vm) h4, zEnv.same (u := U) (U := U.calling g mk a) rfl h5⟩
theorem zenvC (S : zS G X cc nL Ts own ret) {H : Heap} {locs : List Loc} (hS : va_S (zA G.2.1 G.2.2.1 X.2.2.2.1.heap.size) X.2.2.2.1.heap H locs) {U : State} (hU : U.heap = H) (hW : X.2.2.2.1.WarmedH U.vm) : zEnv G.2.2.2.2 G.2.1.2.2 (zA G.2.1 G.2.2.1 H.size) U U.heap := by
  rw [hU]
  exact zEnv.call hW hS.2.1 (fun q hq => hq.elim Or.inl (fun h => Or.inr (Nat.le_trans hS.1 h))) S.2.2.2.2.2.1
/-- how it goes on behind a call that gave r: thrown (3000 and on) it leaves this method too -/
def zaft (G : zG) (R : Room) (nL : Nat) (q : zq) (X : zX) (b : Nat × Nat) (pc : Nat) (ls : List (Option zV)) (st : List zV) : Option zV → zM → Prop
  | none, M => zK G R nL q X b pc ls st M
  | some (.inl x), M => zK G R nL q X b pc ls (zI x :: st) M
  | some (.inr (.inl x)), M => zK G R nL q X b pc ls (zL x :: st) M
  | some (.inr (.inr k)), M => (k < 3000 → zK G R nL q X b pc ls (zR k :: st) M) ∧ (3000 ≤ k → q.1 (some (zR k)) M ∧ b.1 ≤ q.2.1 ∧ b.2 ≤ q.2.2)
theorem zaft_ref {k : Nat} (hk : k < 3000) (h : zK G R nL q X b pc ls (zR k :: st) M) : zaft G R nL q X b pc ls st (some (zR k)) M := ⟨fun _ => h, fun h2 => absurd h2 (by omega)⟩
theorem zaft_thr {k : Nat} (hk : 3000 ≤ k) (hb : b.1 ≤ q.2.1 ∧ b.2 ≤ q.2.2) (h : q.1 (some (zR k)) M) : zaft G R nL q X b pc ls st (some (zR k)) M := ⟨fun h2 => absurd hk (by omega), fun _ => ⟨h, hb⟩⟩
theorem zaft_ret {r : Option zV} (h : zaft G R nL q X b pc ls st r M) (hr : ∀ k, r = some (zR k) → k < 3000) : zK G R nL q X b pc ls (r.toList ++ st) M := by
  rcases r with _ | x | x | k
  · exact h
  · exact h
  · exact h
  · exact h.1 (hr k rfl)
/-- behind a call -/
theorem zbehind (S : zS G X cc nL Ts own ret) {mc ms : Nat} {sz : List Value} {H : Heap} {locs : List Loc} {arr : Array Slot} {Qp : Option zV → zM → Prop} {a : Array Value} (ht : ztab Ts = [])
    (hr : vx_Run X.1 X.2.1 X.2.2.1 R X.2.2.2.1 X.2.2.2.2.1 X.2.2.2.2.2.1 X.2.2.2.2.2.2.1 X.2.2.2.2.2.2.2.1 X.2.2.2.2.2.2.2.2 H locs b.1 b.2 mc ms (F0 X.2.2.2.2.1 pc arr sz) (st.map (zc G.2.1)) (zQc G (zA G.2.1 G.2.2.1 H.size) Qp a) (zQX G (zA G.2.1 G.2.2.1 H.size) Qp) (zA G.2.1 G.2.2.1 H.size))
    (ho : ∀ v ∈ st, zok v) (hl : zokL ls) (hS : va_S (zA G.2.1 G.2.2.1 X.2.2.2.1.heap.size) X.2.2.2.1.heap H locs) (hh : zhas G.2.1 arr nL ls)
    (kk : ∀ r M', Qp r M' → zaft G R nL q X (b.1 + mc, b.2 + ms) (pc + 3) ls st r M') :
    W X.1 X.2.1 X.2.2.1 R X.2.2.2.1 X.2.2.2.2.1 X.2.2.2.2.2.1 X.2.2.2.2.2.2.1 X.2.2.2.2.2.2.2.1 X.2.2.2.2.2.2.2.2 H locs b.1 b.2 (vx_MQ X.2.2.2.2.2.2.1 (zQc G (zA G.2.1 G.2.2.1 X.2.2.2.1.heap.size) q.1) (zQX G (zA G.2.1 G.2.2.1 X.2.2.2.1.heap.size) q.1) X.2.2.2.2.2.1 X.2.2.2.1 q.2.1 q.2.2 (zA G.2.1 G.2.2.1 X.2.2.2.1.heap.size)) (F0 X.2.2.2.2.1 pc arr sz) := by
  have hA : ∀ z, zA G.2.1 G.2.2.1 H.size z → zA G.2.1 G.2.2.1 X.2.2.2.1.heap.size z := fun z hz => hz.elim Or.inl (fun h => Or.inr (Nat.le_trans hS.1 h))
  intro T hT XX
  rcases hr T hT XX with ⟨v, st₀, t, T', L, h0, X', hL, e1, e2, ⟨⟨r, M', hv, hp, hrk, hr3, hM', hP'⟩, hz, hk⟩, stp⟩ | ⟨z9, st₀, t, T', L, En, ce, h0, X', hL, e1, e2, ⟨⟨c9, M', hcn, hp, hM', hP'⟩, hz, hk⟩, hce, hcv, hcl, stp⟩
  all_goals rw [h0] at hz hk
  all_goals
    have hS' : va_S (zA G.2.1 G.2.2.1 X.2.2.2.1.heap.size) X.2.2.2.1.heap T'.heap (locs ++ L) :=
      ⟨Nat.le_trans hS.1 (by rw [e1]; exact hz), fun z h1 h2 => by rw [e1, hk z (Nat.lt_of_lt_of_le h1 hS.1) (fun y => h2 (hA z y))]; exact hS.2.1 z h1 h2, fun z hz => by
        rcases List.mem_append.mp hz with h | h
        · exact hS.2.2 z h
        · exact hA _ (hL z h)⟩
  · have hv : v = r.map (zc G.2.1) := by cases hv; rfl
    subst hv
    have hst : ∀ v ∈ r.toList ++ st, zok v := fun v hv => by
      rcases List.mem_append.mp hv with h | h
      · exact hrk v (Option.mem_toList.mp h)
      · exact ho v h
    obtain ⟨t2, a1, b1⟩ := zaft_ret (kk r M' hp) hr3 hst hl hM' T'.heap (locs ++ L) arr (by rw [e1]; exact hP') hS' hh T' rfl X'
    refine ⟨t2, stp t2 ?_, b1⟩
    have e : (r.map (zc G.2.1)).toList ++ st.map (zc G.2.1) = (r.toList ++ st).map (zc G.2.1) := by cases r <;> simp
    rw [e]
    exact a1
  · obtain ⟨hq9, hb1, hb2⟩ := (kk _ M' hp).2 (by omega)
    have hout : ∀ x ∈ X.2.2.2.2.2.2.2.2.exceptionTable.toList, covers x pc = false := by
      rw [S.2.2.2.2.2.2.2, ht]
      intro x hx
      cases hx
    have hxx : ∀ t9 : State, t9.heap = T'.heap → X.2.2.2.1.vm.Alike t9.vm → zQX G (zA G.2.1 G.2.2.1 X.2.2.2.1.heap.size) q.1 En X.2.2.2.1 t9 := fun t9 ht9 _ => ⟨⟨c9, M', hcn, hq9, hM', by rw [ht9, e1]; exact hP'⟩, hS'.F ht9⟩
    obtain ⟨t2, a1, b1⟩ := (vx_out (Qc := zQc G (zA G.2.1 G.2.2.1 X.2.2.2.1.heap.size) q.1) (ls := arr) (rest := st.map (zc G.2.1)) (cells := b.1 + mc) (slots := b.2 + ms) hout S.2.2.2.2.1 (by rw [e1]; exact hce) hcv hcl hxx hS'.2.2 hb1 hb2) T' rfl X'
    exact ⟨t2, stp.trans a1, b1⟩

theorem zr_invV (S : zS G X cc nL Ts own ret) {i k ci maxL mc ms : Nat} {y : MethodName} {wsy : List Cond} {rm9 : Room} {bytes : ByteArray} {ret9 : Option FieldType} {sp : List zV → zM → (Option zV → zM → Prop) → Prop} {C : String} {T : u_T} {Nf : Nat} {sl : List Nat} (as : List zV) (hM9 : zMet X.2.1 G.1 G.2.2.1 G.2.2.2.1 G.2.2.2.2 y wsy rm9 mc ms sp) (cw : ∀ (s9 : State) (a9 : Array Value), (∀ w ∈ Ts, w.before a9 s9 = true) → CallW R s9 a9 own C i y bytes maxL ret9 wsy rm9 mc ms as.length) (hd : decode cc pc = .ok (.invokevirtual i, 3)) (hY : G.1 k = .inr (ci, sl)) (hk : k < G.2.2.1) (hc : G.2.2.2.1[ci]? = some (C, T, Nf)) (hst : zdep st ≤ 8) (hb : b.1 + mc ≤ R.cells ∧ b.2 + ms ≤ R.slots) (hsp : sp (zR k :: as) M (fun r M' => zaft G R nL q X (b.1 + mc, b.2 + ms) (pc + 3) ls st r M')) (ht : ztab Ts = [] := by rfl) : zK G R nL q X b pc ls (as.reverse ++ zR k :: st) M := by
  intro ho hl hM H locs arr hP hS hh
  have hoa : ∀ v ∈ as, zok v := fun v hv => ho v (List.mem_append_left _ (List.mem_reverse.mpr hv))
  have hot : ∀ v ∈ st, zok v := fun v hv => ho v (List.mem_append_right _ (List.mem_cons_of_mem _ hv))
  have hMet := hM9 S.2.2.2.2.2.2.1 G.2.1 H.size (zR k :: as) M _ (zokc (v := zR k) trivial hoa) hM S.2.2.1 hsp
  have he : (as.reverse ++ zR k :: st).map (zc G.2.1) = (as.map (zc G.2.1)).reverse ++ .ref (G.2.1.2.2 k) :: st.map (zc G.2.1) := by simp [zc]
  have hg := zw_get (Y := G.1) (E := G.2.1) (M := M) hk
  rw [hY] at hg
  rw [he]
  refine zbehind S ht (vx_runV (As := as.map (zc G.2.1)) (rest := st.map (zc G.2.1)) S.1 hMet (cw _ _ S.1.2.2.2.2) ⟨zPcBlind, va_recv S.2.1 hP hc hg, fun U hU hW => ⟨rfl, by rw [hU], by rw [hU]; exact hP, va_K.moved hW.alike S.2.1, zenvC S hS hU hW⟩⟩ rfl (by rw [List.length_map]) hh.1 rfl (by rw [zdep_eq]; show 2 * 0 + _ ≤ 8; omega) hd hb) hot hl hS hh (fun r M' h => h)
theorem zr_invS (S : zS G X cc nL Ts own ret) {i maxL mc ms : Nat} {y : MethodName} {wsy : List Cond} {rm9 : Room} {bytes : ByteArray} {ret9 : Option FieldType} {sp : List zV → zM → (Option zV → zM → Prop) → Prop} (as : List zV) (hM9 : zMet X.2.1 G.1 G.2.2.1 G.2.2.2.1 G.2.2.2.2 y wsy rm9 mc ms sp) (cw : ∀ (s9 : State) (a9 : Array Value), (∀ w ∈ Ts, w.before a9 s9 = true) → CallB R s9 a9 own i y bytes maxL ret9 wsy rm9 mc ms as.length ∧ (Cond.static y).before a9 s9 = true) (hd : decode cc pc = .ok (.invokestatic i, 3)) (hst : zdep st ≤ 8) (hb : b.1 + mc ≤ R.cells ∧ b.2 + ms ≤ R.slots) (hsp : sp (as) M (fun r M' => zaft G R nL q X (b.1 + mc, b.2 + ms) (pc + 3) ls st r M')) (ht : ztab Ts = [] := by rfl) : zK G R nL q X b pc ls (as.reverse ++ st) M := by
  intro ho hl hM H locs arr hP hS hh
  have hoa : ∀ v ∈ as, zok v := fun v hv => ho v (List.mem_append_left _ (List.mem_reverse.mpr hv))
  have hot : ∀ v ∈ st, zok v := fun v hv => ho v (List.mem_append_right _ hv)
  have hMet := hM9 S.2.2.2.2.2.2.1 G.2.1 H.size (as) M _ hoa hM S.2.2.1 hsp
  have he : (as.reverse ++ st).map (zc G.2.1) = (as.map (zc G.2.1)).reverse ++ st.map (zc G.2.1) := by simp [zc]
  rw [he]
  refine zbehind S ht (vx_runS (As := as.map (zc G.2.1)) (rest := st.map (zc G.2.1)) S.1 hMet (cw _ _ S.1.2.2.2.2) ⟨zPcBlind, fun U hU hW => ⟨rfl, by rw [hU], by rw [hU]; exact hP, va_K.moved hW.alike S.2.1, zenvC S hS hU hW⟩⟩ rfl (by rw [List.length_map]) hh.1 rfl (by rw [zdep_eq]; show 2 * 0 + _ ≤ 8; omega) hd hb) hot hl hS hh (fun r M' h => h)
theorem zr_invN (S : zS G X cc nL Ts own ret) {i maxL mc ms : Nat} {y : MethodName} {host : String} {wsy : List Cond} {rm9 : Room} {bytes : ByteArray} {ret9 : Option FieldType} {sp : List zV → zM → (Option zV → zM → Prop) → Prop} (as : List zV) (hM9 : zMet X.2.1 G.1 G.2.2.1 G.2.2.2.1 G.2.2.2.2 y wsy rm9 mc ms sp) (hn : (own, i, y, host) ∈ G.2.2.2.2) (cw : ∀ (s9 : State) (a9 : Array Value), (∀ w ∈ Ts, w.before a9 s9 = true) → va_Nw (.methodLinkNest own i y host) s9 → va_CN R s9 a9 own i y host bytes maxL ret9 wsy rm9 mc ms as.length ∧ (Cond.static y).before a9 s9 = true ∧ True) (hd : decode cc pc = .ok (.invokestatic i, 3)) (hst : zdep st ≤ 8) (hb : b.1 + mc ≤ R.cells ∧ b.2 + ms ≤ R.slots) (hsp : sp as M (fun r M' => zaft G R nL q X (b.1 + mc, b.2 + ms) (pc + 3) ls st r M')) (ht : ztab Ts = [] := by rfl) : zK G R nL q X b pc ls (as.reverse ++ st) M := by
  intro ho hl hM H locs arr hP hS hh
  have hoa : ∀ v ∈ as, zok v := fun v hv => ho v (List.mem_append_left _ (List.mem_reverse.mpr hv))
  have hot : ∀ v ∈ st, zok v := fun v hv => ho v (List.mem_append_right _ hv)
  have hMet := hM9 S.2.2.2.2.2.2.1 G.2.1 H.size as M _ hoa hM S.2.2.1 hsp
  have he : (as.reverse ++ st).map (zc G.2.1) = (as.map (zc G.2.1)).reverse ++ st.map (zc G.2.1) := by simp
  rw [he]
  refine zbehind S ht (zrunSN (As := as.map (zc G.2.1)) (rest := st.map (zc G.2.1)) S.1 hMet (cw _ _ S.1.2.2.2.2 (S.2.2.2.2.2.1.1 _ hn)) ⟨zPcBlind, fun U hU hW => ⟨rfl, by rw [hU], by rw [hU]; exact hP, va_K.moved hW.alike S.2.1, zenvC S hS hU hW⟩⟩ rfl (by rw [List.length_map]) hh.1 rfl (by rw [zdep_eq]; show 2 * 0 + _ ≤ 8; omega) hd hb) hot hl hS hh (fun r M' h => h)
end
