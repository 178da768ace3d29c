section
def zLY : List zT := [.inr (11, [4, 39, 40, 41, 42, 50, 56, 59, 62, 68]), .inr (8, [5, 14, 20, 0, 32, 0, 33, 34, 35, 36, 0, 37, 38]), .inr (7, [0, 6, 7, 8, 9, 10, 11, 12, 13]), .inl (0, 4), .inl (0, 8), .inl (0, 8), .inl (0, 8), .inl (0, 24), .inl (0, 24), .inl (0, 8), .inl (0, 8), .inr (2, [0, 15, 16, 17, 18, 19]), .inl (0, 8), .inl (0, 8), .inl (0, 8), .inl (0, 8), .inl (0, 8), .inr (9, [21, 22, 23, 24, 25, 26, 0, 27, 28, 29, 30, 0, 31]), .inl (0, 160), .inl (0, 8), .inl (0, 8), .inl (0, 8), .inl (0, 8), .inl (0, 4), .inl (0, 12), .inl (0, 12), .inl (0, 12), .inl (0, 12), .inl (0, 160), .inl (0, 6), .inl (0, 5), .inl (0, 20), .inl (0, 5), .inl (0, 5), .inl (0, 4), .inl (0, 4), .inl (4, 3), .inl (3, 3), .inl (5, 4), .inr (4, [43, 0, 0, 0, 44, 0, 0, 0, 0, 0]), .inl (2, 400), .inr (2, [0, 45, 46, 47, 48, 49]), .inl (0, 8), .inl (0, 8), .inl (0, 8), .inl (0, 8), .inl (0, 8), .inr (6, [5, 14, 51, 52, 53, 54, 55, 0, 0, 2]), .inl (1, 9), .inl (0, 256), .inl (0, 3), .inl (0, 51), .inl (0, 51), .inr (0, [5, 57, 58]), .inl (1, 4801), .inl (3, 1001), .inr (3, [4, 50, 60, 61, 0, 0, 0]), .inl (0, 8), .inl (0, 8), .inr (5, [4, 5, 56, 63, 64, 65, 66, 67]), .inl (0, 32), .inl (0, 5), .inl (1, 15), .inl (1, 16), .inl (1, 45), .inr (1, [4, 69]), .inl (1, 1296), .inr (8, [71, 80, 86, 0, 98, 0, 99, 100, 101, 102, 0, 103, 104]), .inr (7, [0, 72, 73, 74, 75, 76, 77, 78, 79]), .inl (0, 4), .inl (0, 8), .inl (0, 8), .inl (0, 8), .inl (0, 24), .inl (0, 24), .inl (0, 8), .inl (0, 8), .inr (2, [0, 81, 82, 83, 84, 85]), .inl (0, 8), .inl (0, 8), .inl (0, 8), .inl (0, 8), .inl (0, 8), .inr (9, [87, 88, 89, 90, 91, 92, 0, 93, 94, 95, 96, 0, 97]), .inl (0, 160), .inl (0, 8), .inl (0, 8), .inl (0, 8), .inl (0, 8), .inl (0, 4), .inl (0, 12), .inl (0, 12), .inl (0, 12), .inl (0, 12), .inl (0, 160), .inl (0, 6), .inl (0, 5), .inl (0, 20), .inl (0, 5), .inl (0, 5), .inl (0, 4), .inl (0, 4), .inr (8, [106, 115, 121, 0, 133, 0, 134, 135, 136, 137, 0, 138, 139]), .inr (7, [0, 107, 108, 109, 110, 111, 112, 113, 114]), .inl (0, 4), .inl (0, 8), .inl (0, 8), .inl (0, 8), .inl (0, 24), .inl (0, 24), .inl (0, 8), .inl (0, 8), .inr (2, [0, 116, 117, 118, 119, 120]), .inl (0, 8), .inl (0, 8), .inl (0, 8), .inl (0, 8), .inl (0, 8), .inr (9, [122, 123, 124, 125, 126, 127, 0, 128, 129, 130, 131, 0, 132]), .inl (0, 160), .inl (0, 8), .inl (0, 8), .inl (0, 8), .inl (0, 8), .inl (0, 4), .inl (0, 12), .inl (0, 12), .inl (0, 12), .inl (0, 12), .inl (0, 160), .inl (0, 6), .inl (0, 5), .inl (0, 20), .inl (0, 5), .inl (0, 5), .inl (0, 4), .inl (0, 4), .inr (8, [141, 150, 156, 0, 168, 0, 169, 170, 171, 172, 0, 173, 174]), .inr (7, [0, 142, 143, 144, 145, 146, 147, 148, 149]), .inl (0, 4), .inl (0, 8), .inl (0, 8), .inl (0, 8), .inl (0, 24), .inl (0, 24), .inl (0, 8), .inl (0, 8), .inr (2, [0, 151, 152, 153, 154, 155]), .inl (0, 8), .inl (0, 8), .inl (0, 8), .inl (0, 8), .inl (0, 8), .inr (9, [157, 158, 159, 160, 161, 162, 0, 163, 164, 165, 166, 0, 167]), .inl (0, 160), .inl (0, 8), .inl (0, 8), .inl (0, 8), .inl (0, 8), .inl (0, 4), .inl (0, 12), .inl (0, 12), .inl (0, 12), .inl (0, 12), .inl (0, 160), .inl (0, 6), .inl (0, 5), .inl (0, 20), .inl (0, 5), .inl (0, 5), .inl (0, 4), .inl (0, 4), .inr (10, [0, 0, 176]), .inl (1, 20), .inr (10, [0, 0, 178]), .inl (1, 20), .inr (10, [0, 0, 180]), .inl (1, 20), .inr (10, [0, 0, 182]), .inl (1, 20), .inr (12, [184, 185, 186, 0, 187, 188, 0, 0, 0, 0, 0, 0, 0, 0, 0, 0, 0, 0, 0, 189, 190, 191, 192, 193, 194, 195, 196, 197, 198, 199, 200, 0, 201, 202, 203]), .inl (0, 615), .inl (0, 1845), .inl (3, 3), .inl (0, 400), .inl (0, 56), .inl (0, 101), .inl (1, 9), .inl (0, 43209), .inl (0, 8), .inl (0, 8), .inl (3, 1001), .inl (0, 8), .inl (0, 8), .inl (0, 32), .inl (0, 8), .inl (0, 8), .inl (0, 36), .inl (0, 4), .inl (0, 4), .inl (1, 80), .inl (1, 1)]
def zly : zY := fun k => zLY.getD k (.inl (0, 0))
abbrev zNC : Nat := 202
def zNest : zN := [(RX2, 40, yX11_copyRow, RX11), (RX4, 21, yX2_init, RX11), (RX7, 44, yX11_within, RX11), (RX7, 44, yX11_within, RX11), (RX7, 67, yX11_copyRow, RX11), (RX8, 11, yX7_init, RX11), (RX8, 20, yX2_init, RX11), (RX8, 27, yX9_init, RX11), (RX8, 74, yX11_copyRow, RX11), (RX9, 74, yX11_copyRow, RX11), (RX10, 28, yX11_within, RX11), (RX11, 9, yX8_init, RX11), (RX11, 32, yX4_init, RX11), (RX11, 90, yX10_init, RX11)]
abbrev zg (E : zE) : zG := (zly, E, zNC, vwCl, zNest)
/-- a contract over this layout, no new cells -/
abbrev zC (l : Launch) (y : MethodName) (ws : List Cond) (rm : Room) (sp : List zV → zM → (Option zV → zM → Prop) → Prop) : Prop := zMet l zly zNC vwCl zNest y ws rm 0 0 sp
/-- .. with n exceptions at most -/
abbrev zCx (l : Launch) (y : MethodName) (ws : List Cond) (rm : Room) (n : Nat) (sp : List zV → zM → (Option zV → zM → Prop) → Prop) : Prop := zMet l zly zNC vwCl zNest y ws rm n (6 * n) sp
def b01 (c : Prop) [Decidable c] : Int := if c then 1 else 0
theorem b01_t {c : Prop} [Decidable c] (h : c) : b01 c = 1 := if_pos h
theorem b01_f {c : Prop} [Decidable c] (h : ¬ c) : b01 c = 0 := if_neg h
theorem b01_r {c : Prop} [Decidable c] : b01 c = 0 ∨ b01 c = 1 := by
  by_cases h : c
  · exact Or.inr (b01_t h)
  · exact Or.inl (b01_f h)
theorem b01_1 {c : Prop} [Decidable c] : b01 c = 1 ↔ c := by
  by_cases h : c
  · simp [b01, h]
  · simp [b01, h]
theorem b01_0 {c : Prop} [Decidable c] : b01 c = 0 ↔ ¬ c := by
  by_cases h : c
  · simp [b01, h]
  · simp [b01, h]
theorem zqi {Q : Option zV → zM → Prop} {a b : Int} {M : zM} (h : Q (some (zI a)) M) (e : b = a) : Q (some (zI b)) M := by rw [e]; exact h
theorem zql {Q : Option zV → zM → Prop} {a b : Int} {M : zM} (h : Q (some (zL a)) M) (e : b = a) : Q (some (zL b)) M := by rw [e]; exact h
theorem zqm {Q : Option zV → zM → Prop} {r : Option zV} {M M' : zM} (h : Q r M) (e : M' = M) : Q r M' := by rw [e]; exact h
end
section
variable {G : zG} {R : Room} {nL : Nat} {q : zq} {X : zX} {b : Nat × Nat} {cc : ByteArray} {Ts : List Cond} {own : String} {ret : Option FieldType} {pc : Nat} {ls : List (Option zV)} {st : List zV} {M : zM}
def zml_mmax (Ts : List Cond) (own : String) (i : Nat) : Prop := Cond.methodLink own i Lib.Math.max.name ∈ Ts ∧ Cond.static Lib.Math.max.name ∈ Ts ∧ Cond.initialized "java/lang/Math" ∈ Ts ∧ Cond.code Lib.Math.max.name Lib.Math.max.code 2 (some .int) ∈ Ts
def zml_mmin (Ts : List Cond) (own : String) (i : Nat) : Prop := Cond.methodLink own i Lib.Math.min.name ∈ Ts ∧ Cond.static Lib.Math.min.name ∈ Ts ∧ Cond.initialized "java/lang/Math" ∈ Ts ∧ Cond.code Lib.Math.min.name Lib.Math.min.code 2 (some .int) ∈ Ts
def zml_mabs (Ts : List Cond) (own : String) (i : Nat) : Prop := Cond.methodLink own i Lib.Math.abs.name ∈ Ts ∧ Cond.static Lib.Math.abs.name ∈ Ts ∧ Cond.initialized "java/lang/Math" ∈ Ts ∧ Cond.code Lib.Math.abs.name Lib.Math.abs.code 1 (some .int) ∈ Ts
theorem zr_mmax (S : zS G X cc nL Ts own ret) {i : Nat} {x y : Int} (hw : zml_mmax Ts own i) (hd : decode cc pc = .ok (.invokestatic i, 3)) (h1 : 1 ≤ R.frames) (h2 : zdep st + 13 ≤ R.locals) (hb : b.1 ≤ R.cells ∧ b.2 ≤ R.slots) (k : zK G R nL q X b (pc + 3) ls (zI (max x y) :: st) M) : zK G R nL q X b pc ls (zI y :: zI x :: st) M := by
  intro ho hl hM H locs arr hP hS hh
  have hy : zrI y := zokh ho
  have hx : zrI x := zokh (zokt ho)
  refine va_mmax S.1.1 S.1.2.1 (by rw [S.1.2.2.1, hh.1]) S.1.2.2.2.1 (S.1.2.2.2.2 _ hw.1) (S.1.2.2.2.2 _ hw.2.1) (S.1.2.2.2.2 _ hw.2.2.1) (S.1.2.2.2.2 _ hw.2.2.2) h1 (by rw [zdep_eq]; exact h2) hb.1 hb.2 hd ?_
  have e : (if Int32.ofInt x < Int32.ofInt y then Int32.ofInt y else Int32.ofInt x) = Int32.ofInt (max x y) := by
    by_cases h : x < y
    · rw [if_pos ((zI_lt hx hy).mpr h), show max x y = y by omega]
    · rw [if_neg (fun z => h ((zI_lt hx hy).mp z)), show max x y = x by omega]
  rw [e]
  exact k (zokc (v := zI (max x y)) (by unfold zok zrI at *; omega) (zokt (zokt ho))) hl hM H locs arr hP hS hh
theorem zr_mmin (S : zS G X cc nL Ts own ret) {i : Nat} {x y : Int} (hw : zml_mmin Ts own i) (hd : decode cc pc = .ok (.invokestatic i, 3)) (h1 : 1 ≤ R.frames) (h2 : zdep st + 13 ≤ R.locals) (hb : b.1 ≤ R.cells ∧ b.2 ≤ R.slots) (k : zK G R nL q X b (pc + 3) ls (zI (min x y) :: st) M) : zK G R nL q X b pc ls (zI y :: zI x :: st) M := by
  intro ho hl hM H locs arr hP hS hh
  have hy : zrI y := zokh ho
  have hx : zrI x := zokh (zokt ho)
  refine va_mmin S.1.1 S.1.2.1 (by rw [S.1.2.2.1, hh.1]) S.1.2.2.2.1 (S.1.2.2.2.2 _ hw.1) (S.1.2.2.2.2 _ hw.2.1) (S.1.2.2.2.2 _ hw.2.2.1) (S.1.2.2.2.2 _ hw.2.2.2) h1 (by rw [zdep_eq]; exact h2) hb.1 hb.2 hd ?_
  have e : (if Int32.ofInt y < Int32.ofInt x then Int32.ofInt y else Int32.ofInt x) = Int32.ofInt (min x y) := by
    by_cases h : y < x
    · rw [if_pos ((zI_lt hy hx).mpr h), show min x y = y by omega]
    · rw [if_neg (fun z => h ((zI_lt hy hx).mp z)), show min x y = x by omega]
  rw [e]
  exact k (zokc (v := zI (min x y)) (by unfold zok zrI at *; omega) (zokt (zokt ho))) hl hM H locs arr hP hS hh
theorem zr_mabs (S : zS G X cc nL Ts own ret) {i : Nat} {x : Int} (hw : zml_mabs Ts own i) (hd : decode cc pc = .ok (.invokestatic i, 3)) (h1 : 1 ≤ R.frames) (h2 : zdep st + 13 ≤ R.locals) (hb : b.1 ≤ R.cells ∧ b.2 ≤ R.slots) (hn : zrI (-x)) (k : zK G R nL q X b (pc + 3) ls (zI (x.natAbs : Int) :: st) M) : zK G R nL q X b pc ls (zI x :: st) M := by
  intro ho hl hM H locs arr hP hS hh
  have hx : zrI x := zokh ho
  refine va_mabs S.1.1 S.1.2.1 (by rw [S.1.2.2.1, hh.1]) S.1.2.2.2.1 (S.1.2.2.2.2 _ hw.1) (S.1.2.2.2.2 _ hw.2.1) (S.1.2.2.2.2 _ hw.2.2.1) (S.1.2.2.2.2 _ hw.2.2.2) h1 (by rw [zdep_eq]; exact h2) hb.1 hb.2 hd ?_
  have e : (if 0 ≤ Int32.ofInt x then Int32.ofInt x else 0 - Int32.ofInt x) = Int32.ofInt (x.natAbs : Int) := by
    by_cases h : 0 ≤ x
    · rw [if_pos (show (0 : Int32) ≤ Int32.ofInt x from (zI_le zrI_0 hx).mpr h), show (x.natAbs : Int) = x by omega]
    · rw [if_neg (show ¬ (0 : Int32) ≤ Int32.ofInt x from fun z => h ((zI_le zrI_0 hx).mp z)), show (x.natAbs : Int) = 0 - x by omega, Int32.ofInt_sub]
      rfl
  rw [e]
  exact k (zokc (v := zI (x.natAbs : Int)) (by unfold zok zrI at *; omega) (zokt ho)) hl hM H locs arr hP hS hh
/-- division and rest of what isn't below 0 -/
theorem zr_idiv (S : zS G X cc nL Ts own ret) {x y : Int} (hd : decode cc pc = .ok (.idiv, 1)) (h0 : 0 ≤ x) (h1 : 0 < y) (k : zK G R nL q X b (pc + 1) ls (zI (x / y) :: st) M) : zK G R nL q X b pc ls (zI y :: zI x :: st) M := by
  intro ho hl hM H locs arr hP hS hh
  have hy : zrI y := zokh ho
  have hx : zrI x := zokh (zokt ho)
  have hle : x / y ≤ x := Int.ediv_le_self y h0
  have hge : 0 ≤ x / y := Int.ediv_nonneg h0 (by omega)
  have hr : zrI (x / y) := by unfold zrI at *; omega
  refine lv_idiv S.1.1 S.1.2.1 hd (fun z => ?_) ?_
  · have := (zI_eq hy zrI_0).mp z
    omega
  · have e : Int32.ofInt x / Int32.ofInt y = Int32.ofInt (x / y) := by
      apply Int32.toInt_inj.mp
      rw [Int32.toInt_div, zI_toInt hx, zI_toInt hy, zI_toInt hr, Int.tdiv_eq_ediv_of_nonneg h0]
      exact Int.bmod_eq_of_le (by unfold zrI at hr; omega) (by unfold zrI at hr; omega)
    rw [e]
    exact k (zokc (v := zI (x / y)) hr (zokt (zokt ho))) hl hM H locs arr hP hS hh
end
