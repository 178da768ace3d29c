section
variable {G : zG} {R : Room} {nL : Nat} {q : zq} {X : zX} {b : Nat × Nat} {cc : ByteArray} {Ts : List Cond} {own : String} {ret : Option FieldType} {pc : Nat} {ls : List (Option zV)} {st : List zV} {M : zM}
def zml_mmaxL (Ts : List Cond) (own : String) (i : Nat) : Prop := Cond.methodLink own i Lib.MathLoose.max_long.x ∈ Ts ∧ Cond.static Lib.MathLoose.max_long.x ∈ Ts ∧ Cond.initialized "java/lang/Math" ∈ Ts ∧ Cond.code Lib.MathLoose.max_long.x Lib.MathLoose.max_long.code 4 (some .long) ∈ Ts
def zml_mminL (Ts : List Cond) (own : String) (i : Nat) : Prop := Cond.methodLink own i Lib.MathLoose.min_long.x ∈ Ts ∧ Cond.static Lib.MathLoose.min_long.x ∈ Ts ∧ Cond.initialized "java/lang/Math" ∈ Ts ∧ Cond.code Lib.MathLoose.min_long.x Lib.MathLoose.min_long.code 4 (some .long) ∈ Ts
theorem zr_mmaxL (S : zS G X cc nL Ts own ret) {i : Nat} {x y : Int} (hw : zml_mmaxL Ts own i) (hd : decode cc pc = .ok (.invokestatic i, 3)) (h1 : 1 ≤ R.frames) (h2 : zdep st + 15 ≤ R.locals) (hb : b.1 ≤ R.cells ∧ b.2 ≤ R.slots) (k : zK G R nL q X b (pc + 3) ls (zL (max x y) :: st) M) : zK G R nL q X b pc ls (zL y :: zL x :: st) M := by
  intro ho hl hM H locs arr hP hS hh
  have hy : zrL y := zokh ho
  have hx : zrL x := zokh (zokt ho)
  refine va_mmax_long S.1.1 S.1.2.1 (by rw [S.1.2.2.1, hh.1]) S.1.2.2.2.1 (S.1.2.2.2.2 _ hw.1) (S.1.2.2.2.2 _ hw.2.1) (S.1.2.2.2.2 _ hw.2.2.1) (S.1.2.2.2.2 _ hw.2.2.2) h1 (by rw [zdep_eq]; exact h2) hb.1 hb.2 hd ?_
  have e : (if Int64.ofInt y < Int64.ofInt x then Int64.ofInt x else Int64.ofInt y) = Int64.ofInt (max x y) := by
    by_cases h : y < x
    · rw [if_pos ((zL_lt hy hx).mpr h), show max x y = x by omega]
    · rw [if_neg (fun z => h ((zL_lt hy hx).mp z)), show max x y = y by omega]
  rw [e]
  exact k (zokc (v := zL (max x y)) (by unfold zok zrL at *; omega) (zokt (zokt ho))) hl hM H locs arr hP hS hh
theorem zr_mminL (S : zS G X cc nL Ts own ret) {i : Nat} {x y : Int} (hw : zml_mminL Ts own i) (hd : decode cc pc = .ok (.invokestatic i, 3)) (h1 : 1 ≤ R.frames) (h2 : zdep st + 15 ≤ R.locals) (hb : b.1 ≤ R.cells ∧ b.2 ≤ R.slots) (k : zK G R nL q X b (pc + 3) ls (zL (min x y) :: st) M) : zK G R nL q X b pc ls (zL y :: zL x :: st) M := by
  intro ho hl hM H locs arr hP hS hh
  have hy : zrL y := zokh ho
  have hx : zrL x := zokh (zokt ho)
  refine va_mmin_long S.1.1 S.1.2.1 (by rw [S.1.2.2.1, hh.1]) S.1.2.2.2.1 (S.1.2.2.2.2 _ hw.1) (S.1.2.2.2.2 _ hw.2.1) (S.1.2.2.2.2 _ hw.2.2.1) (S.1.2.2.2.2 _ hw.2.2.2) h1 (by rw [zdep_eq]; exact h2) hb.1 hb.2 hd ?_
  have e : (if Int64.ofInt y < Int64.ofInt x then Int64.ofInt y else Int64.ofInt x) = Int64.ofInt (min x y) := by
    by_cases h : y < x
    · rw [if_pos ((zL_lt hy hx).mpr h), show min x y = y by omega]
    · rw [if_neg (fun z => h ((zL_lt hy hx).mp z)), show min x y = x by omega]
  rw [e]
  exact k (zokc (v := zL (min x y)) (by unfold zok zrL at *; omega) (zokt (zokt ho))) hl hM H locs arr hP hS hh
end
