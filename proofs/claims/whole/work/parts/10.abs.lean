/-! The abstract machine. Values: ints and longs as integers, references as numbers of cells. A memory gives every place of every cell an integer. Every rule turns the goal at an instruction into the goal at the next. -/
section
abbrev zV : Type := Int ⊕ Int ⊕ Nat
abbrev zI (x : Int) : zV := .inl x
abbrev zL (x : Int) : zV := .inr (.inl x)
abbrev zR (k : Nat) : zV := .inr (.inr k)
abbrev zM : Type := Nat → Nat → Int
abbrev zT : Type := (Nat × Nat) ⊕ (Nat × List Nat)
abbrev zY : Type := Nat → zT
abbrev zE : Type := va_G × (Nat → ClassId) × (Nat → Nat)
abbrev zG : Type := zY × zE × Nat × List vw_C × zN
abbrev zX : Type := Program × Launch × Env × State × MethodId × Array Value × List Frame × Method × Code
abbrev zq : Type := (Option zV → zM → Prop) × Nat × Nat
def zc (E : zE) : zV → Value
  | .inl x => .int (Int32.ofInt x)
  | .inr (.inl x) => .long (Int64.ofInt x)
  | .inr (.inr k) => .ref (E.2.2 k)
def zrI (x : Int) : Prop := -2147483648 ≤ x ∧ x < 2147483648
def zrL (x : Int) : Prop := -9223372036854775808 ≤ x ∧ x < 9223372036854775808
def zok : zV → Prop
  | .inl x => zrI x
  | .inr (.inl x) => zrL x
  | .inr (.inr _) => True
def zrF (t : Nat) (x : Int) : Prop := match t with
  | 2 => zrL x
  | _ => zrI x
def zrT (t : zT) (j : Nat) (x : Int) : Prop := match t with
  | .inl (0, _) => zrI x
  | .inl (1, _) => zrL x
  | .inl (2, _) => -128 ≤ x ∧ x < 128
  | .inl (3, _) => x = 0 ∨ x = 1
  | .inl (_ + 4, _) => True
  | .inr (_, sl) => zrF (sl.getD j 0) x
def zokM (Y : zY) (M : zM) : Prop := ∀ k j, zrT (Y k) j (M k j)
/-- a field: 0 an int, 1 null, 2 a long, t + 3 the cell t -/
def zsv (E : zE) (x : Int) : Nat → Value
  | 0 => .int (Int32.ofInt x)
  | 1 => .null
  | 2 => .long (Int64.ofInt x)
  | t + 3 => .ref (E.2.2 t)
/-- an array's contents: 0 int, 1 long, 2 byte, 3 boolean, 4 and on references -/
def zcont (E : zE) (t : Nat) (f : Nat → Int) : (Nat → Int32) ⊕ (Nat → Int64) ⊕ (Nat → UInt32) ⊕ (Nat → UInt64) ⊕ (Nat → Option Nat) := match t with
  | 0 => .inl (fun j => Int32.ofInt (f j))
  | 1 => .inr (.inl (fun j => Int64.ofInt (f j)))
  | 2 => .inl (fun j => Int32.ofInt (f j))
  | 3 => .inl (fun j => Int32.ofInt (f j))
  | _ + 4 => .inr (.inr (.inr (.inr (fun j => some (E.2.2 (f j).toNat)))))
def zce (E : zE) (t : zT) (f : Nat → Int) : va_E := match t with
  | .inl (t, n) => .inl (E.2.1 t, n, zcont E t f)
  | .inr (ci, sl) => .inr (ci, sl.mapIdx (fun j t => zsv E (f j) t))
def zw (Y : zY) (E : zE) (N : Nat) (M : zM) : va_W := (List.range N).map (fun k => (E.2.2 k, zce E (Y k) (M k)))
def zt (E : zE) : List (ClassId × FieldType) := [(E.2.1 0, .int), (E.2.1 1, .long), (E.2.1 2, .byte), (E.2.1 3, .boolean), (E.2.1 4, .object "SlotCoins$State"), (E.2.1 5, .object "SlotCoins$Tray")]
def zA (E : zE) (N sz : Nat) : Nat → Prop := fun q => (∃ k, k < N ∧ q = E.2.2 k) ∨ sz ≤ q
def zinj (E : zE) (N : Nat) : Prop := ∀ i j, i < N → j < N → E.2.2 i = E.2.2 j → i = j
def zup (M : zM) (k j : Nat) (x : Int) : zM := fun k' j' => if k' = k then (if j' = j then x else M k' j') else M k' j'
theorem zw_get {Y : zY} {E : zE} {N k : Nat} {M : zM} (h : k < N) : (zw Y E N M)[k]? = some (E.2.2 k, zce E (Y k) (M k)) := by
  unfold zw
  rw [List.getElem?_map, List.getElem?_range h]
  rfl
theorem zw_len {Y : zY} {E : zE} {N : Nat} {M : zM} : (zw Y E N M).length = N := by
  unfold zw
  rw [List.length_map, List.length_range]
theorem zw_at {Y : zY} {E : zE} {N k : Nat} {M : zM} {q : Nat × va_E} (h : (zw Y E N M)[k]? = some q) : k < N ∧ q = (E.2.2 k, zce E (Y k) (M k)) := by
  have hk : k < N := by
    have h1 := (List.getElem?_eq_some_iff.mp h).1
    rw [zw_len] at h1
    exact h1
  rw [zw_get hk] at h
  exact ⟨hk, (Option.some.inj h).symm⟩
theorem zw_set {Y : zY} {E : zE} {N k : Nat} {M M' : zM} {e : va_E} (hk : k < N) (he : e = zce E (Y k) (M' k)) (ho : ∀ i, i ≠ k → M' i = M i) : (zw Y E N M).set k (E.2.2 k, e) = zw Y E N M' := by
  apply List.ext_getElem?
  intro i
  by_cases hi : i = k
  · subst hi
    rw [List.getElem?_set_self (by rw [zw_len]; exact hk), zw_get hk, he]
  · rw [List.getElem?_set_ne (fun h => hi h.symm)]
    by_cases hN : i < N
    · rw [zw_get hN, zw_get hN, ho i hi]
    · rw [List.getElem?_eq_none (by rw [zw_len]; omega), List.getElem?_eq_none (by rw [zw_len]; omega)]
theorem zw_D {Y : zY} {E : zE} {N sz : Nat} {M : zM} (h : zinj E N) : va_D (zA E N sz) (zw Y E N M) := by
  refine ⟨fun i j p q hp hq e => ?_, fun k q hq => ?_⟩
  · obtain ⟨h1, rfl⟩ := zw_at hp
    obtain ⟨h2, rfl⟩ := zw_at hq
    exact h i j h1 h2 e
  · obtain ⟨h1, rfl⟩ := zw_at hq
    exact Or.inl ⟨k, h1, rfl⟩
theorem zup_o {M : zM} {k j : Nat} {x : Int} (i : Nat) (h : i ≠ k) : zup M k j x i = M i := by
  funext j'
  simp [zup, h]
theorem zup_s {M : zM} {k j : Nat} {x : Int} : zup M k j x k = fun j' => if j' = j then x else M k j' := by
  funext j'
  simp [zup]
theorem zI_toInt {x : Int} (h : zrI x) : (Int32.ofInt x).toInt = x := by
  rw [Int32.toInt_ofInt]
  exact Int.bmod_eq_of_le (by have := h.1; simp [Int32.size]; omega) (by have := h.2; simp [Int32.size]; omega)
theorem zL_toInt {x : Int} (h : zrL x) : (Int64.ofInt x).toInt = x := by
  rw [Int64.toInt_ofInt]
  exact Int.bmod_eq_of_le (by have := h.1; simp [Int64.size]; omega) (by have := h.2; simp [Int64.size]; omega)
theorem zI_lt {a b : Int} (ha : zrI a) (hb : zrI b) : Int32.ofInt a < Int32.ofInt b ↔ a < b := by
  rw [Int32.lt_iff_toInt_lt, zI_toInt ha, zI_toInt hb]
theorem zI_le {a b : Int} (ha : zrI a) (hb : zrI b) : Int32.ofInt a ≤ Int32.ofInt b ↔ a ≤ b := by
  rw [Int32.le_iff_toInt_le, zI_toInt ha, zI_toInt hb]
theorem zI_eq {a b : Int} (ha : zrI a) (hb : zrI b) : Int32.ofInt a = Int32.ofInt b ↔ a = b := by
  rw [← Int32.toInt_inj, zI_toInt ha, zI_toInt hb]
theorem zL_lt {a b : Int} (ha : zrL a) (hb : zrL b) : Int64.ofInt a < Int64.ofInt b ↔ a < b := by
  rw [Int64.lt_iff_toInt_lt, zL_toInt ha, zL_toInt hb]
theorem zL_eq {a b : Int} (ha : zrL a) (hb : zrL b) : Int64.ofInt a = Int64.ofInt b ↔ a = b := by
  rw [← Int64.toInt_inj, zL_toInt ha, zL_toInt hb]
theorem zrI_0 : zrI 0 := ⟨by omega, by omega⟩
theorem zI_in {i : Int} {n : Nat} (h0 : 0 ≤ i) (h1 : i < n) (hr : zrI i) : vp_in (Int32.ofInt i) n ∧ (Int32.ofInt i).toNatClampNeg = i.toNat := by
  have e : (Int32.ofInt i).toNatClampNeg = i.toNat := by
    show (Int32.ofInt i).toInt.toNat = i.toNat
    rw [zI_toInt hr]
  refine ⟨fun h => ?_, e⟩
  rcases h with h | h
  · rw [show (0 : Int32) = Int32.ofInt 0 from rfl, zI_lt hr zrI_0] at h
    omega
  · rw [e] at h
    omega
/-- the locals -/
def zget : List (Option zV) → Nat → Option zV
  | [], _ => none
  | v :: _, 0 => v
  | _ :: r, i + 1 => zget r i
def zset : List (Option zV) → Nat → Option zV → List (Option zV)
  | [], _, _ => []
  | _ :: r, 0, v => v :: r
  | a :: r, i + 1, v => a :: zset r i v
def zlong : Option zV → Bool
  | some (.inr (.inl _)) => true
  | _ => false
/-- a word is stored at i; a long whose second word lay there is gone -/
def zst1 (ls : List (Option zV)) (i : Nat) (v : zV) : List (Option zV) := match zlong (zget ls (i - 1)) with
  | true => zset (zset ls (i - 1) none) i (some v)
  | false => zset ls i (some v)
def zst2 (ls : List (Option zV)) (i : Nat) (v : zV) : List (Option zV) := match zlong (zget ls (i - 1)) with
  | true => zset (zset (zset ls (i - 1) none) (i + 1) none) i (some v)
  | false => zset (zset ls (i + 1) none) i (some v)
theorem zget_set : ∀ (ls : List (Option zV)) (i j : Nat) (v : Option zV) (x : zV), zget (zset ls i v) j = some x → (j = i ∧ v = some x) ∨ (j ≠ i ∧ zget ls j = some x)
  | [], _, _, _, _, h => by cases h
  | a :: r, 0, 0, v, x, h => Or.inl ⟨rfl, h⟩
  | a :: r, 0, j + 1, v, x, h => Or.inr ⟨by omega, h⟩
  | a :: r, i + 1, 0, v, x, h => Or.inr ⟨by omega, h⟩
  | a :: r, i + 1, j + 1, v, x, h => by
    rcases zget_set r i j v x h with ⟨h1, h2⟩ | ⟨h1, h2⟩
    · exact Or.inl ⟨by omega, h2⟩
    · exact Or.inr ⟨by omega, h2⟩
def zhas (E : zE) (arr : Array Slot) (nL : Nat) (ls : List (Option zV)) : Prop := arr.size = nL ∧ lv_wf arr ∧ ∀ i v, zget ls i = some v → arr[i]? = some (.val (zc E v))
def zokL (ls : List (Option zV)) : Prop := ∀ i v, zget ls i = some v → zok v
theorem zget_st1 {ls : List (Option zV)} {i j : Nat} {v x : zV} (h : zget (zst1 ls i v) j = some x) : (j = i ∧ v = x) ∨ (j ≠ i ∧ zget ls j = some x ∧ ¬ (j + 1 = i ∧ zlong (some x) = true)) := by
  unfold zst1 at h
  cases hz : zlong (zget ls (i - 1)) with
  | true =>
    rw [hz] at h
    rcases zget_set _ _ _ _ _ h with ⟨h1, h2⟩ | ⟨h1, h2⟩
    · exact Or.inl ⟨h1, Option.some.inj h2⟩
    · rcases zget_set _ _ _ _ _ h2 with ⟨h3, h4⟩ | ⟨h3, h4⟩
      · cases h4
      · exact Or.inr ⟨h1, h4, fun q => h3 (by omega)⟩
  | false =>
    rw [hz] at h
    rcases zget_set _ _ _ _ _ h with ⟨h1, h2⟩ | ⟨h1, h2⟩
    · exact Or.inl ⟨h1, Option.some.inj h2⟩
    · refine Or.inr ⟨h1, h2, fun q => ?_⟩
      have e : i - 1 = j := by omega
      rw [e, h2, q.2] at hz
      cases hz
theorem zget_st2 {ls : List (Option zV)} {i j : Nat} {v x : zV} (h : zget (zst2 ls i v) j = some x) : (j = i ∧ v = x) ∨ (j ≠ i ∧ j ≠ i + 1 ∧ zget ls j = some x ∧ ¬ (j + 1 = i ∧ zlong (some x) = true)) := by
  unfold zst2 at h
  cases hz : zlong (zget ls (i - 1)) with
  | true =>
    rw [hz] at h
    rcases zget_set _ _ _ _ _ h with ⟨h1, h2⟩ | ⟨h1, h2⟩
    · exact Or.inl ⟨h1, Option.some.inj h2⟩
    · rcases zget_set _ _ _ _ _ h2 with ⟨h3, h4⟩ | ⟨h3, h4⟩
      · cases h4
      · rcases zget_set _ _ _ _ _ h4 with ⟨h5, h6⟩ | ⟨h5, h6⟩
        · cases h6
        · exact Or.inr ⟨h1, h3, h6, fun q => h5 (by omega)⟩
  | false =>
    rw [hz] at h
    rcases zget_set _ _ _ _ _ h with ⟨h1, h2⟩ | ⟨h1, h2⟩
    · exact Or.inl ⟨h1, Option.some.inj h2⟩
    · rcases zget_set _ _ _ _ _ h2 with ⟨h3, h4⟩ | ⟨h3, h4⟩
      · cases h4
      · refine Or.inr ⟨h1, h3, h4, fun q => ?_⟩
        have e : i - 1 = j := by omega
        rw [e, h4, q.2] at hz
        cases hz
theorem zcat {E : zE} {v : zV} : (zc E v).category = 2 → zlong (some v) = true := by
  rcases v with x | x | x
  · intro h; cases h
  · intro _; rfl
  · intro h; cases h
/-- the list of the kit's rows -/
def zll (E : zE) (ls : List (Option zV)) : List (Nat × Value) := (List.range ls.length).filterMap (fun i => (zget ls i).map (fun v => (i, zc E v)))
theorem zget_lt : ∀ {ls : List (Option zV)} {i : Nat} {v : zV}, zget ls i = some v → i < ls.length
  | [], _, _, h => by cases h
  | _ :: _, 0, _, _ => by simp
  | _ :: r, i + 1, _, h => by
    have := zget_lt (ls := r) h
    simp
    omega
theorem zll_mem {E : zE} {ls : List (Option zV)} {i : Nat} {v : zV} (h : zget ls i = some v) : (i, zc E v) ∈ zll E ls := by
  refine List.mem_filterMap.mpr ⟨i, List.mem_range.mpr (zget_lt h), ?_⟩
  rw [h]
  rfl
theorem zhas.lv {E : zE} {arr : Array Slot} {nL : Nat} {ls : List (Option zV)} (h : zhas E arr nL ls) : lv_has arr nL (zll E ls) := by
  refine ⟨h.1, h.2.1, fun q hq => ?_⟩
  obtain ⟨i, -, hi⟩ := List.mem_filterMap.mp hq
  cases hg : zget ls i with
  | none => rw [hg] at hi; cases hi
  | some v =>
    rw [hg] at hi
    cases hi
    exact h.2.2 i v hg
theorem zhas.st1 {E : zE} {arr : Array Slot} {nL i : Nat} {ls : List (Option zV)} {v : zV} (h : lv_has arr nL ((i, zc E v) :: (zll E ls).filter (fun q => !(q.1 == i) && !(q.1 + 1 == i && q.2.category == 2)))) : zhas E arr nL (zst1 ls i v) := by
  refine ⟨h.1, h.2.1, fun j x hx => ?_⟩
  rcases zget_st1 hx with ⟨rfl, rfl⟩ | ⟨h1, h2, h3⟩
  · exact h.2.2 _ List.mem_cons_self
  · refine h.2.2 (j, zc E x) (List.mem_cons_of_mem _ (List.mem_filter.mpr ⟨zll_mem h2, ?_⟩))
    have : ¬ (j + 1 = i ∧ (zc E x).category = 2) := fun q => h3 ⟨q.1, zcat q.2⟩
    simp only [Bool.and_eq_true, Bool.not_eq_true', beq_eq_false_iff_ne, ne_eq]
    refine ⟨h1, ?_⟩
    by_cases h5 : j + 1 = i
    · have h6 : ¬ (zc E x).category = 2 := fun q => this ⟨h5, q⟩
      simp [h6]
    · simp [h5]
theorem zhas.st2 {E : zE} {arr : Array Slot} {nL i : Nat} {ls : List (Option zV)} {v : zV} (h : lv_has arr nL ((i, zc E v) :: (zll E ls).filter (fun q => !(q.1 == i) && (!(q.1 == i + 1) && !(q.1 + 1 == i && q.2.category == 2))))) : zhas E arr nL (zst2 ls i v) := by
  refine ⟨h.1, h.2.1, fun j x hx => ?_⟩
  rcases zget_st2 hx with ⟨rfl, rfl⟩ | ⟨h1, h2, h4, h3⟩
  · exact h.2.2 _ List.mem_cons_self
  · refine h.2.2 (j, zc E x) (List.mem_cons_of_mem _ (List.mem_filter.mpr ⟨zll_mem h4, ?_⟩))
    have : ¬ (j + 1 = i ∧ (zc E x).category = 2) := fun q => h3 ⟨q.1, zcat q.2⟩
    simp only [Bool.and_eq_true, Bool.not_eq_true', beq_eq_false_iff_ne, ne_eq]
    refine ⟨h1, h2, ?_⟩
    by_cases h5 : j + 1 = i
    · have h6 : ¬ (zc E x).category = 2 := fun q => this ⟨h5, q⟩
      simp [h6]
    · simp [h5]
theorem zokL.st1 {ls : List (Option zV)} {i : Nat} {v : zV} (h : zokL ls) (hv : zok v) : zokL (zst1 ls i v) := fun j x hx => by
  rcases zget_st1 hx with ⟨rfl, rfl⟩ | ⟨h1, h2, h3⟩
  · exact hv
  · exact h j x h2
theorem zokL.st2 {ls : List (Option zV)} {i : Nat} {v : zV} (h : zokL ls) (hv : zok v) : zokL (zst2 ls i v) := fun j x hx => by
  rcases zget_st2 hx with ⟨rfl, rfl⟩ | ⟨h1, h2, h4, h3⟩
  · exact hv
  · exact h j x h4
/-- a method's end: its answer and its memory -/
def zQc (G : zG) (A : Nat → Prop) (Qp : Option zV → zM → Prop) : Array Value → State → Outcome → State → Prop := fun _ st o t =>
  (∃ (r : Option zV) (M : zM), o = .returned (r.map (zc G.2.1)) ∧ Qp r M ∧ (∀ v, r = some v → zok v) ∧ (∀ k, r = some (zR k) → k < 3000) ∧ zokM G.1 M ∧ va_P G.2.1.1 G.2.2.2.1 (zw G.1 G.2.1 G.2.2.1 M) t.heap) ∧ va_F A st t
/-- .. by an exception of the class zXn c: the answer 3000 + c -/
def zQX (G : zG) (A : Nat → Prop) (Qp : Option zV → zM → Prop) : String → State → State → Prop := fun En st t =>
  (∃ (c : Nat) (M : zM), zXn c = En ∧ Qp (some (zR (3000 + c))) M ∧ zokM G.1 M ∧ va_P G.2.1.1 G.2.2.2.1 (zw G.1 G.2.1 G.2.2.1 M) t.heap) ∧ va_F A st t
/-- the machine, at an abstract state, comes to the method's end -/
def zK (G : zG) (R : Room) (nL : Nat) (q : zq) (X : zX) (b : Nat × Nat) (pc : Nat) (ls : List (Option zV)) (st : List zV) (M : zM) : Prop :=
  (∀ v ∈ st, zok v) → zokL ls → zokM G.1 M → ∀ (H : Heap) (locs : List Loc) (arr : Array Slot),
    va_P G.2.1.1 G.2.2.2.1 (zw G.1 G.2.1 G.2.2.1 M) H → va_S (zA G.2.1 G.2.2.1 X.2.2.2.1.heap.size) X.2.2.2.1.heap H locs → zhas G.2.1 arr nL ls →
    W X.1 X.2.1 X.2.2.1 R X.2.2.2.1 X.2.2.2.2.1 X.2.2.2.2.2.1 X.2.2.2.2.2.2.1 X.2.2.2.2.2.2.2.1 X.2.2.2.2.2.2.2.2 H locs b.1 b.2
      (vx_MQ X.2.2.2.2.2.2.1 (zQc G (zA G.2.1 G.2.2.1 X.2.2.2.1.heap.size) q.1) (zQX G (zA G.2.1 G.2.2.1 X.2.2.2.1.heap.size) q.1) X.2.2.2.2.2.1 X.2.2.2.1 q.2.1 q.2.2 (zA G.2.1 G.2.2.1 X.2.2.2.1.heap.size)) (F0 X.2.2.2.2.1 pc arr (st.map (zc G.2.1)))
/-- the table of the method's handlers, by its list's head -/
def ztab : List Cond → List (Nat × Nat × Nat × Nat)
  | .codeWith _ _ _ _ hh :: _ => hh
  | _ => []
/-- what holds throughout a method: the machine and its tables, the kinds of the cells, the method's own -/
def zS (G : zG) (X : zX) (cc : ByteArray) (nL : Nat) (Ts : List Cond) (own : String) (ret : Option FieldType) : Prop :=
  CallFix X.1 X.2.2.2.2.1 X.2.2.2.2.2.2.2.2 cc nL X.2.2.2.1 X.2.2.2.2.2.1 Ts own ∧ va_K G.2.1.1 G.2.2.2.1 (zt G.2.1) X.2.2.2.1 ∧ zinj G.2.1 G.2.2.1 ∧ X.2.2.2.2.2.2.2.1.sig.returnType = ret ∧ X.2.2.2.2.2.2.2.1.locks = false ∧ zEnv G.2.2.2.2 G.2.1.2.2 (zA G.2.1 G.2.2.1 X.2.2.2.1.heap.size) X.2.2.2.1 X.2.2.2.1.heap ∧ X.2.1.stackTraces = false ∧ X.2.2.2.2.2.2.2.2.exceptionTable.toList = tableOf (ztab Ts)
theorem zokc {v : zV} {st : List zV} (hv : zok v) (h : ∀ x ∈ st, zok x) : ∀ x ∈ v :: st, zok x := fun x hx => (List.mem_cons.mp hx).elim (fun e => by rw [e]; exact hv) (h x)
theorem zokt {v : zV} {st : List zV} (h : ∀ x ∈ v :: st, zok x) : ∀ x ∈ st, zok x := fun x hx => h x (List.mem_cons_of_mem _ hx)
theorem zokh {v : zV} {st : List zV} (h : ∀ x ∈ v :: st, zok x) : zok v := h v List.mem_cons_self
end

section
variable {G : zG} {R : Room} {nL : Nat} {q : zq} {X : zX} {b : Nat × Nat} {cc : ByteArray} {Ts : List Cond} {own : String} {ret : Option FieldType} {pc : Nat} {ls : List (Option zV)} {st : List zV} {M : zM}
theorem zr_iconst (S : zS G X cc nL Ts own ret) {n : Int} (hd : decode cc pc = .ok (.iconst n, 1)) (hn : zrI n := by decide) (k : zK G R nL q X b (pc + 1) ls (zI n :: st) M) : zK G R nL q X b pc ls (st) M := by
  intro ho hl hM H locs arr hP hS hh
  exact lv_iconst S.1.1 S.1.2.1 hd rfl (k (zokc hn ho) hl hM H locs arr hP hS hh)
theorem zr_bipush (S : zS G X cc nL Ts own ret) {n : Int} (hd : decode cc pc = .ok (.bipush n, 2)) (hn : zrI n ∧ (Int8.ofInt n).toInt32 = Int32.ofInt n := by decide) (k : zK G R nL q X b (pc + 2) ls (zI n :: st) M) : zK G R nL q X b pc ls (st) M := by
  intro ho hl hM H locs arr hP hS hh
  exact lv_bipush S.1.1 S.1.2.1 hd hn.2 (k (zokc hn.1 ho) hl hM H locs arr hP hS hh)
theorem zr_sipush (S : zS G X cc nL Ts own ret) {n : Int} (hd : decode cc pc = .ok (.sipush n, 3)) (hn : zrI n ∧ (Int16.ofInt n).toInt32 = Int32.ofInt n := by decide) (k : zK G R nL q X b (pc + 3) ls (zI n :: st) M) : zK G R nL q X b pc ls (st) M := by
  intro ho hl hM H locs arr hP hS hh
  exact lv_sipush S.1.1 S.1.2.1 hd hn.2 (k (zokc hn.1 ho) hl hM H locs arr hP hS hh)
theorem zr_lconst0 (S : zS G X cc nL Ts own ret) (hd : decode cc pc = .ok (.lconst 0, 1)) (k : zK G R nL q X b (pc + 1) ls (zL 0 :: st) M) : zK G R nL q X b pc ls (st) M := by
  intro ho hl hM H locs arr hP hS hh
  exact lv_lconst S.1.1 S.1.2.1 hd rfl (k (zokc (v := zL 0) ⟨by omega, by omega⟩ ho) hl hM H locs arr hP hS hh)
theorem zr_lconst1 (S : zS G X cc nL Ts own ret) (hd : decode cc pc = .ok (.lconst 1, 1)) (k : zK G R nL q X b (pc + 1) ls (zL 1 :: st) M) : zK G R nL q X b pc ls (st) M := by
  intro ho hl hM H locs arr hP hS hh
  exact lv_lconst S.1.1 S.1.2.1 hd rfl (k (zokc (v := zL 1) ⟨by omega, by omega⟩ ho) hl hM H locs arr hP hS hh)
theorem zr_ldc (S : zS G X cc nL Ts own ret) {i : Nat} (n : Int) (hd : decode cc pc = .ok (.ldc i, 2)) (hw : Cond.constant own i (Int32.ofInt n) ∈ Ts) (hn : zrI n := by decide) (k : zK G R nL q X b (pc + 2) ls (zI n :: st) M) : zK G R nL q X b pc ls (st) M := by
  intro ho hl hM H locs arr hP hS hh
  exact lv_ldc S.1.1 S.1.2.1 S.1.2.2.2.1 (S.1.2.2.2.2 _ hw) hd (k (zokc hn ho) hl hM H locs arr hP hS hh)
theorem zr_ldc2 (S : zS G X cc nL Ts own ret) {i : Nat} (n : Int) (hd : decode cc pc = .ok (.ldc2_w i, 3)) (hw : Cond.constantLong own i (Int64.ofInt n) ∈ Ts) (hn : zrL n := by decide) (k : zK G R nL q X b (pc + 3) ls (zL n :: st) M) : zK G R nL q X b pc ls (st) M := by
  intro ho hl hM H locs arr hP hS hh
  exact lv_ldc2 S.1.1 S.1.2.1 S.1.2.2.2.1 (S.1.2.2.2.2 _ hw) hd (k (zokc (v := zL n) hn ho) hl hM H locs arr hP hS hh)
theorem zr_iload_n (S : zS G X cc nL Ts own ret) {k9 : Fin 4} {x : Int} (hd : decode cc pc = .ok (.iload_n k9, 1)) (hg : zget ls k9 = some (zI x)) (k : zK G R nL q X b (pc + 1) ls (zI x :: st) M) : zK G R nL q X b pc ls (st) M := by
  intro ho hl hM H locs arr hP hS hh
  exact lv_iload_n S.1.1 S.1.2.1 hd rfl (hh.2.2 _ _ hg) (k (zokc (hl _ _ hg) ho) hl hM H locs arr hP hS hh)
theorem zr_iload (S : zS G X cc nL Ts own ret) {i : Nat} {x : Int} (hd : decode cc pc = .ok (.iload i, 2)) (hg : zget ls i = some (zI x)) (k : zK G R nL q X b (pc + 2) ls (zI x :: st) M) : zK G R nL q X b pc ls (st) M := by
  intro ho hl hM H locs arr hP hS hh
  exact lv_iload S.1.1 S.1.2.1 hd (hh.2.2 _ _ hg) (k (zokc (hl _ _ hg) ho) hl hM H locs arr hP hS hh)
theorem zr_lload_n (S : zS G X cc nL Ts own ret) {k9 : Fin 4} {x : Int} (hd : decode cc pc = .ok (.lload_n k9, 1)) (hg : zget ls k9 = some (zL x)) (k : zK G R nL q X b (pc + 1) ls (zL x :: st) M) : zK G R nL q X b pc ls (st) M := by
  intro ho hl hM H locs arr hP hS hh
  exact lv_lload_n S.1.1 S.1.2.1 hd rfl (hh.2.2 _ _ hg) (k (zokc (hl _ _ hg) ho) hl hM H locs arr hP hS hh)
theorem zr_lload (S : zS G X cc nL Ts own ret) {i : Nat} {x : Int} (hd : decode cc pc = .ok (.lload i, 2)) (hg : zget ls i = some (zL x)) (k : zK G R nL q X b (pc + 2) ls (zL x :: st) M) : zK G R nL q X b pc ls (st) M := by
  intro ho hl hM H locs arr hP hS hh
  exact lv_lload S.1.1 S.1.2.1 hd (hh.2.2 _ _ hg) (k (zokc (hl _ _ hg) ho) hl hM H locs arr hP hS hh)
theorem zr_aload_n (S : zS G X cc nL Ts own ret) {k9 : Fin 4} {x : Nat} (hd : decode cc pc = .ok (.aload_n k9, 1)) (hg : zget ls k9 = some (zR x)) (k : zK G R nL q X b (pc + 1) ls (zR x :: st) M) : zK G R nL q X b pc ls (st) M := by
  intro ho hl hM H locs arr hP hS hh
  exact lv_aload_n S.1.1 S.1.2.1 hd rfl (hh.2.2 _ _ hg) (k (zokc (hl _ _ hg) ho) hl hM H locs arr hP hS hh)
theorem zr_aload (S : zS G X cc nL Ts own ret) {i : Nat} {x : Nat} (hd : decode cc pc = .ok (.aload i, 2)) (hg : zget ls i = some (zR x)) (k : zK G R nL q X b (pc + 2) ls (zR x :: st) M) : zK G R nL q X b pc ls (st) M := by
  intro ho hl hM H locs arr hP hS hh
  exact lv_aload S.1.1 S.1.2.1 hd (hh.2.2 _ _ hg) (k (zokc (hl _ _ hg) ho) hl hM H locs arr hP hS hh)
theorem zr_istore_n (S : zS G X cc nL Ts own ret) {k9 : Fin 4} (i : Nat) {x : Int} (hd : decode cc pc = .ok (.istore_n k9, 1)) (hk9 : (k9 : Nat) = i) (hi : i < nL := by decide) (k : zK G R nL q X b (pc + 1) (zst1 ls i (zI x)) (st) M) : zK G R nL q X b pc ls (zI x :: st) M := by
  intro ho hl hM H locs arr hP hS hh
  exact lv_istore_n S.1.1 S.1.2.1 hd hk9 hh.lv hi rfl (fun arr1 hh1 => k (zokt ho) (hl.st1 (zokh ho)) hM H locs arr1 hP hS (zhas.st1 (v := zI x) hh1))
theorem zr_istore (S : zS G X cc nL Ts own ret) {i : Nat} {x : Int} (hd : decode cc pc = .ok (.istore i, 2)) (hi : i < nL := by decide) (k : zK G R nL q X b (pc + 2) (zst1 ls i (zI x)) (st) M) : zK G R nL q X b pc ls (zI x :: st) M := by
  intro ho hl hM H locs arr hP hS hh
  exact lv_istore S.1.1 S.1.2.1 hd hh.lv hi rfl (fun arr1 hh1 => k (zokt ho) (hl.st1 (zokh ho)) hM H locs arr1 hP hS (zhas.st1 (v := zI x) hh1))
theorem zr_lstore_n (S : zS G X cc nL Ts own ret) {k9 : Fin 4} (i : Nat) {x : Int} (hd : decode cc pc = .ok (.lstore_n k9, 1)) (hk9 : (k9 : Nat) = i) (hi : i + 1 < nL := by decide) (k : zK G R nL q X b (pc + 1) (zst2 ls i (zL x)) (st) M) : zK G R nL q X b pc ls (zL x :: st) M := by
  intro ho hl hM H locs arr hP hS hh
  exact lv_lstore_n S.1.1 S.1.2.1 hd hk9 hh.lv hi rfl (fun arr1 hh1 => k (zokt ho) (hl.st2 (zokh ho)) hM H locs arr1 hP hS (zhas.st2 (v := zL x) hh1))
theorem zr_lstore (S : zS G X cc nL Ts own ret) {i : Nat} {x : Int} (hd : decode cc pc = .ok (.lstore i, 2)) (hi : i + 1 < nL := by decide) (k : zK G R nL q X b (pc + 2) (zst2 ls i (zL x)) (st) M) : zK G R nL q X b pc ls (zL x :: st) M := by
  intro ho hl hM H locs arr hP hS hh
  exact lv_lstore S.1.1 S.1.2.1 hd hh.lv hi rfl (fun arr1 hh1 => k (zokt ho) (hl.st2 (zokh ho)) hM H locs arr1 hP hS (zhas.st2 (v := zL x) hh1))
theorem zr_astore_n (S : zS G X cc nL Ts own ret) {k9 : Fin 4} (i : Nat) {x : Nat} (hd : decode cc pc = .ok (.astore_n k9, 1)) (hk9 : (k9 : Nat) = i) (hi : i < nL := by decide) (k : zK G R nL q X b (pc + 1) (zst1 ls i (zR x)) (st) M) : zK G R nL q X b pc ls (zR x :: st) M := by
  intro ho hl hM H locs arr hP hS hh
  exact lv_astore_n S.1.1 S.1.2.1 hd hk9 hh.lv hi rfl (fun arr1 hh1 => k (zokt ho) (hl.st1 (zokh ho)) hM H locs arr1 hP hS (zhas.st1 (v := zR x) hh1))
theorem zr_astore (S : zS G X cc nL Ts own ret) {i : Nat} {x : Nat} (hd : decode cc pc = .ok (.astore i, 2)) (hi : i < nL := by decide) (k : zK G R nL q X b (pc + 2) (zst1 ls i (zR x)) (st) M) : zK G R nL q X b pc ls (zR x :: st) M := by
  intro ho hl hM H locs arr hP hS hh
  exact lv_astore S.1.1 S.1.2.1 hd hh.lv hi rfl (fun arr1 hh1 => k (zokt ho) (hl.st1 (zokh ho)) hM H locs arr1 hP hS (zhas.st1 (v := zR x) hh1))
theorem zr_iinc (S : zS G X cc nL Ts own ret) {i : Nat} {n x : Int} (hd : decode cc pc = .ok (.iinc i n, 3)) (hg : zget ls i = some (zI x)) (hr : zrI (x + n)) (hi : i < nL := by decide) (k : zK G R nL q X b (pc + 3) (zst1 ls i (zI (x + n))) (st) M) : zK G R nL q X b pc ls (st) M := by
  intro ho hl hM H locs arr hP hS hh
  obtain ⟨k9, hk9⟩ := List.getElem?_of_mem (zll_mem (E := G.2.1) hg)
  exact lv_iinc (v := Int32.ofInt (x + n)) S.1.1 S.1.2.1 hd hh.lv hk9 (Int32.ofInt_add x n).symm hi rfl (fun arr1 hh1 => k ho (hl.st1 (v := zI (x + n)) hr) hM H locs arr1 hP hS (zhas.st1 (v := zI (x + n)) hh1))
theorem zr_dup (S : zS G X cc nL Ts own ret) {v : zV} (hd : decode cc pc = .ok (.dup, 1)) (hv : zlong (some v) = false) (k : zK G R nL q X b (pc + 1) ls (v :: v :: st) M) : zK G R nL q X b pc ls (v :: st) M := by
  intro ho hl hM H locs arr hP hS hh
  exact lv_dup S.1.1 S.1.2.1 hd (by rcases v with x | x | x; · rfl
                                    · cases hv
                                    · rfl) (k (zokc (zokh ho) ho) hl hM H locs arr hP hS hh)
theorem zr_dup2 (S : zS G X cc nL Ts own ret) {v u : zV} (hd : decode cc pc = .ok (.dup2, 1)) (hv : zlong (some v) = false) (hu : zlong (some u) = false) (k : zK G R nL q X b (pc + 1) ls (v :: u :: v :: u :: st) M) : zK G R nL q X b pc ls (v :: u :: st) M := by
  intro ho hl hM H locs arr hP hS hh
  have e1 : ∀ {z : zV}, zlong (some z) = false → (zc G.2.1 z).category = 1 := fun {z} h => by
    rcases z with x | x | x
    · rfl
    · cases h
    · rfl
  exact lv_dup2_11 S.1.1 S.1.2.1 hd (e1 hv) (e1 hu) (k (zokc (zokh ho) (zokc (zokh (zokt ho)) ho)) hl hM H locs arr hP hS hh)
theorem zr_dup2L (S : zS G X cc nL Ts own ret) {x : Int} (hd : decode cc pc = .ok (.dup2, 1)) (k : zK G R nL q X b (pc + 1) ls (zL x :: zL x :: st) M) : zK G R nL q X b pc ls (zL x :: st) M := by
  intro ho hl hM H locs arr hP hS hh
  exact lv_dup2_2 S.1.1 S.1.2.1 hd rfl (k (zokc (zokh ho) ho) hl hM H locs arr hP hS hh)
theorem zr_iadd (S : zS G X cc nL Ts own ret) {x y : Int} (hd : decode cc pc = .ok (.iadd, 1)) (hr : zrI (x + y)) (k : zK G R nL q X b (pc + 1) ls (zI (x + y) :: st) M) : zK G R nL q X b pc ls (zI y :: zI x :: st) M := by
  intro ho hl hM H locs arr hP hS hh
  refine lv_iadd S.1.1 S.1.2.1 hd ?_
  rw [← Int32.ofInt_add]
  exact k (zokc (v := zI _) hr (zokt (zokt ho))) hl hM H locs arr hP hS hh
theorem zr_isub (S : zS G X cc nL Ts own ret) {x y : Int} (hd : decode cc pc = .ok (.isub, 1)) (hr : zrI (x - y)) (k : zK G R nL q X b (pc + 1) ls (zI (x - y) :: st) M) : zK G R nL q X b pc ls (zI y :: zI x :: st) M := by
  intro ho hl hM H locs arr hP hS hh
  refine lv_isub S.1.1 S.1.2.1 hd ?_
  rw [← Int32.ofInt_sub]
  exact k (zokc (v := zI _) hr (zokt (zokt ho))) hl hM H locs arr hP hS hh
theorem zr_imul (S : zS G X cc nL Ts own ret) {x y : Int} (hd : decode cc pc = .ok (.imul, 1)) (hr : zrI (x * y)) (k : zK G R nL q X b (pc + 1) ls (zI (x * y) :: st) M) : zK G R nL q X b pc ls (zI y :: zI x :: st) M := by
  intro ho hl hM H locs arr hP hS hh
  refine lv_imul S.1.1 S.1.2.1 hd ?_
  rw [← Int32.ofInt_mul]
  exact k (zokc (v := zI _) hr (zokt (zokt ho))) hl hM H locs arr hP hS hh
theorem zr_ladd (S : zS G X cc nL Ts own ret) {x y : Int} (hd : decode cc pc = .ok (.ladd, 1)) (hr : zrL (x + y)) (k : zK G R nL q X b (pc + 1) ls (zL (x + y) :: st) M) : zK G R nL q X b pc ls (zL y :: zL x :: st) M := by
  intro ho hl hM H locs arr hP hS hh
  refine lv_ladd S.1.1 S.1.2.1 hd ?_
  rw [← Int64.ofInt_add]
  exact k (zokc (v := zL _) hr (zokt (zokt ho))) hl hM H locs arr hP hS hh
theorem zr_lsub (S : zS G X cc nL Ts own ret) {x y : Int} (hd : decode cc pc = .ok (.lsub, 1)) (hr : zrL (x - y)) (k : zK G R nL q X b (pc + 1) ls (zL (x - y) :: st) M) : zK G R nL q X b pc ls (zL y :: zL x :: st) M := by
  intro ho hl hM H locs arr hP hS hh
  refine lv_lsub S.1.1 S.1.2.1 hd ?_
  rw [← Int64.ofInt_sub]
  exact k (zokc (v := zL _) hr (zokt (zokt ho))) hl hM H locs arr hP hS hh
theorem zr_lmul (S : zS G X cc nL Ts own ret) {x y : Int} (hd : decode cc pc = .ok (.lmul, 1)) (hr : zrL (x * y)) (k : zK G R nL q X b (pc + 1) ls (zL (x * y) :: st) M) : zK G R nL q X b pc ls (zL y :: zL x :: st) M := by
  intro ho hl hM H locs arr hP hS hh
  refine lv_lmul S.1.1 S.1.2.1 hd ?_
  rw [← Int64.ofInt_mul]
  exact k (zokc (v := zL _) hr (zokt (zokt ho))) hl hM H locs arr hP hS hh
theorem zr_ineg (S : zS G X cc nL Ts own ret) {x : Int} (hd : decode cc pc = .ok (.ineg, 1)) (hr : zrI (-x)) (k : zK G R nL q X b (pc + 1) ls (zI (-x) :: st) M) : zK G R nL q X b pc ls (zI x :: st) M := by
  intro ho hl hM H locs arr hP hS hh
  refine lv_ineg S.1.1 S.1.2.1 hd ?_
  rw [← Int32.ofInt_neg]
  exact k (zokc (v := zI _) hr (zokt ho)) hl hM H locs arr hP hS hh
theorem zr_lneg (S : zS G X cc nL Ts own ret) {x : Int} (hd : decode cc pc = .ok (.lneg, 1)) (hr : zrL (-x)) (k : zK G R nL q X b (pc + 1) ls (zL (-x) :: st) M) : zK G R nL q X b pc ls (zL x :: st) M := by
  intro ho hl hM H locs arr hP hS hh
  refine lv_lneg S.1.1 S.1.2.1 hd ?_
  rw [← Int64.ofInt_neg]
  exact k (zokc (v := zL _) hr (zokt ho)) hl hM H locs arr hP hS hh
theorem zr_i2l (S : zS G X cc nL Ts own ret) {x : Int} (hd : decode cc pc = .ok (.i2l, 1)) (k : zK G R nL q X b (pc + 1) ls (zL x :: st) M) : zK G R nL q X b pc ls (zI x :: st) M := by
  intro ho hl hM H locs arr hP hS hh
  have hx : zrI x := zokh ho
  refine lv_i2l S.1.1 S.1.2.1 hd (v := Int64.ofInt x) ?_ (k (zokc (v := zL x) ⟨by have := hx.1; omega, by have := hx.2; omega⟩ (zokt ho)) hl hM H locs arr hP hS hh)
  apply Int64.toInt_inj.mp
  rw [Int32.toInt_toInt64, zI_toInt hx, zL_toInt ⟨by have := hx.1; omega, by have := hx.2; omega⟩]
theorem zr_l2i (S : zS G X cc nL Ts own ret) {x : Int} (hd : decode cc pc = .ok (.l2i, 1)) (hr : zrI x) (k : zK G R nL q X b (pc + 1) ls (zI x :: st) M) : zK G R nL q X b pc ls (zL x :: st) M := by
  intro ho hl hM H locs arr hP hS hh
  refine lv_l2i S.1.1 S.1.2.1 hd (v := Int32.ofInt x) ?_ (k (zokc (v := zI x) hr (zokt ho)) hl hM H locs arr hP hS hh)
  exact Int64.toInt32_ofInt
theorem zr_icmp_eq (S : zS G X cc nL Ts own ret) {x y off : Int} {tgt : Nat} (hd : decode cc pc = .ok (.if_icmp .eq off, 3)) (ht : (pc : Int) + off = (tgt : Int)) (kt : x = y → zK G R nL q X b tgt ls st M) (kf : ¬ x = y → zK G R nL q X b (pc + 3) ls st M) : zK G R nL q X b pc ls (zI y :: zI x :: st) M := by
  intro ho hl hM H locs arr hP hS hh
  have hx : zrI x := zokh (zokt ho)
  have hy : zrI y := zokh ho
  refine lv_icmp_eq S.1.1 S.1.2.1 hd ht (fun h => ?_) (fun h => ?_)
  · exact kt ((zI_eq hx hy).mp h) (zokt (zokt ho)) hl hM H locs arr hP hS hh
  · exact kf (fun q => h ((zI_eq hx hy).mpr q)) (zokt (zokt ho)) hl hM H locs arr hP hS hh
theorem zr_if_eq (S : zS G X cc nL Ts own ret) {x off : Int} {tgt : Nat} (hd : decode cc pc = .ok (.ifCond .eq off, 3)) (ht : (pc : Int) + off = (tgt : Int)) (kt : x = 0 → zK G R nL q X b tgt ls st M) (kf : ¬ x = 0 → zK G R nL q X b (pc + 3) ls st M) : zK G R nL q X b pc ls (zI x :: st) M := by
  intro ho hl hM H locs arr hP hS hh
  have hx : zrI x := zokh ho
  have hy : zrI 0 := zrI_0
  refine lv_if_eq S.1.1 S.1.2.1 hd ht (fun h => ?_) (fun h => ?_)
  · exact kt ((zI_eq hx hy).mp h) (zokt ho) hl hM H locs arr hP hS hh
  · exact kf (fun q => h ((zI_eq hx hy).mpr q)) (zokt ho) hl hM H locs arr hP hS hh
theorem zr_icmp_ne (S : zS G X cc nL Ts own ret) {x y off : Int} {tgt : Nat} (hd : decode cc pc = .ok (.if_icmp .ne off, 3)) (ht : (pc : Int) + off = (tgt : Int)) (kt : ¬ x = y → zK G R nL q X b tgt ls st M) (kf : x = y → zK G R nL q X b (pc + 3) ls st M) : zK G R nL q X b pc ls (zI y :: zI x :: st) M := by
  intro ho hl hM H locs arr hP hS hh
  have hx : zrI x := zokh (zokt ho)
  have hy : zrI y := zokh ho
  refine lv_icmp_ne S.1.1 S.1.2.1 hd ht (fun h => ?_) (fun h => ?_)
  · exact kt (fun q => h ((zI_eq hx hy).mpr q)) (zokt (zokt ho)) hl hM H locs arr hP hS hh
  · exact kf ((zI_eq hx hy).mp h) (zokt (zokt ho)) hl hM H locs arr hP hS hh
theorem zr_if_ne (S : zS G X cc nL Ts own ret) {x off : Int} {tgt : Nat} (hd : decode cc pc = .ok (.ifCond .ne off, 3)) (ht : (pc : Int) + off = (tgt : Int)) (kt : ¬ x = 0 → zK G R nL q X b tgt ls st M) (kf : x = 0 → zK G R nL q X b (pc + 3) ls st M) : zK G R nL q X b pc ls (zI x :: st) M := by
  intro ho hl hM H locs arr hP hS hh
  have hx : zrI x := zokh ho
  have hy : zrI 0 := zrI_0
  refine lv_if_ne S.1.1 S.1.2.1 hd ht (fun h => ?_) (fun h => ?_)
  · exact kt (fun q => h ((zI_eq hx hy).mpr q)) (zokt ho) hl hM H locs arr hP hS hh
  · exact kf ((zI_eq hx hy).mp h) (zokt ho) hl hM H locs arr hP hS hh
theorem zr_icmp_lt (S : zS G X cc nL Ts own ret) {x y off : Int} {tgt : Nat} (hd : decode cc pc = .ok (.if_icmp .lt off, 3)) (ht : (pc : Int) + off = (tgt : Int)) (kt : x < y → zK G R nL q X b tgt ls st M) (kf : y ≤ x → zK G R nL q X b (pc + 3) ls st M) : zK G R nL q X b pc ls (zI y :: zI x :: st) M := by
  intro ho hl hM H locs arr hP hS hh
  have hx : zrI x := zokh (zokt ho)
  have hy : zrI y := zokh ho
  refine lv_icmp_lt S.1.1 S.1.2.1 hd ht (fun h => ?_) (fun h => ?_)
  · exact kt ((zI_lt hx hy).mp h) (zokt (zokt ho)) hl hM H locs arr hP hS hh
  · exact kf (Int.not_lt.mp (fun q => h ((zI_lt hx hy).mpr q))) (zokt (zokt ho)) hl hM H locs arr hP hS hh
theorem zr_if_lt (S : zS G X cc nL Ts own ret) {x off : Int} {tgt : Nat} (hd : decode cc pc = .ok (.ifCond .lt off, 3)) (ht : (pc : Int) + off = (tgt : Int)) (kt : x < 0 → zK G R nL q X b tgt ls st M) (kf : 0 ≤ x → zK G R nL q X b (pc + 3) ls st M) : zK G R nL q X b pc ls (zI x :: st) M := by
  intro ho hl hM H locs arr hP hS hh
  have hx : zrI x := zokh ho
  have hy : zrI 0 := zrI_0
  refine lv_if_lt S.1.1 S.1.2.1 hd ht (fun h => ?_) (fun h => ?_)
  · exact kt ((zI_lt hx hy).mp h) (zokt ho) hl hM H locs arr hP hS hh
  · exact kf (Int.not_lt.mp (fun q => h ((zI_lt hx hy).mpr q))) (zokt ho) hl hM H locs arr hP hS hh
theorem zr_icmp_ge (S : zS G X cc nL Ts own ret) {x y off : Int} {tgt : Nat} (hd : decode cc pc = .ok (.if_icmp .ge off, 3)) (ht : (pc : Int) + off = (tgt : Int)) (kt : y ≤ x → zK G R nL q X b tgt ls st M) (kf : x < y → zK G R nL q X b (pc + 3) ls st M) : zK G R nL q X b pc ls (zI y :: zI x :: st) M := by
  intro ho hl hM H locs arr hP hS hh
  have hx : zrI x := zokh (zokt ho)
  have hy : zrI y := zokh ho
  refine lv_icmp_ge S.1.1 S.1.2.1 hd ht (fun h => ?_) (fun h => ?_)
  · exact kt ((zI_le hy hx).mp h) (zokt (zokt ho)) hl hM H locs arr hP hS hh
  · exact kf (Int.not_le.mp (fun q => h ((zI_le hy hx).mpr q))) (zokt (zokt ho)) hl hM H locs arr hP hS hh
theorem zr_if_ge (S : zS G X cc nL Ts own ret) {x off : Int} {tgt : Nat} (hd : decode cc pc = .ok (.ifCond .ge off, 3)) (ht : (pc : Int) + off = (tgt : Int)) (kt : 0 ≤ x → zK G R nL q X b tgt ls st M) (kf : x < 0 → zK G R nL q X b (pc + 3) ls st M) : zK G R nL q X b pc ls (zI x :: st) M := by
  intro ho hl hM H locs arr hP hS hh
  have hx : zrI x := zokh ho
  have hy : zrI 0 := zrI_0
  refine lv_if_ge S.1.1 S.1.2.1 hd ht (fun h => ?_) (fun h => ?_)
  · exact kt ((zI_le hy hx).mp h) (zokt ho) hl hM H locs arr hP hS hh
  · exact kf (Int.not_le.mp (fun q => h ((zI_le hy hx).mpr q))) (zokt ho) hl hM H locs arr hP hS hh
theorem zr_icmp_gt (S : zS G X cc nL Ts own ret) {x y off : Int} {tgt : Nat} (hd : decode cc pc = .ok (.if_icmp .gt off, 3)) (ht : (pc : Int) + off = (tgt : Int)) (kt : y < x → zK G R nL q X b tgt ls st M) (kf : x ≤ y → zK G R nL q X b (pc + 3) ls st M) : zK G R nL q X b pc ls (zI y :: zI x :: st) M := by
  intro ho hl hM H locs arr hP hS hh
  have hx : zrI x := zokh (zokt ho)
  have hy : zrI y := zokh ho
  refine lv_icmp_gt S.1.1 S.1.2.1 hd ht (fun h => ?_) (fun h => ?_)
  · exact kt ((zI_lt hy hx).mp h) (zokt (zokt ho)) hl hM H locs arr hP hS hh
  · exact kf (Int.not_lt.mp (fun q => h ((zI_lt hy hx).mpr q))) (zokt (zokt ho)) hl hM H locs arr hP hS hh
theorem zr_if_gt (S : zS G X cc nL Ts own ret) {x off : Int} {tgt : Nat} (hd : decode cc pc = .ok (.ifCond .gt off, 3)) (ht : (pc : Int) + off = (tgt : Int)) (kt : 0 < x → zK G R nL q X b tgt ls st M) (kf : x ≤ 0 → zK G R nL q X b (pc + 3) ls st M) : zK G R nL q X b pc ls (zI x :: st) M := by
  intro ho hl hM H locs arr hP hS hh
  have hx : zrI x := zokh ho
  have hy : zrI 0 := zrI_0
  refine lv_if_gt S.1.1 S.1.2.1 hd ht (fun h => ?_) (fun h => ?_)
  · exact kt ((zI_lt hy hx).mp h) (zokt ho) hl hM H locs arr hP hS hh
  · exact kf (Int.not_lt.mp (fun q => h ((zI_lt hy hx).mpr q))) (zokt ho) hl hM H locs arr hP hS hh
theorem zr_icmp_le (S : zS G X cc nL Ts own ret) {x y off : Int} {tgt : Nat} (hd : decode cc pc = .ok (.if_icmp .le off, 3)) (ht : (pc : Int) + off = (tgt : Int)) (kt : x ≤ y → zK G R nL q X b tgt ls st M) (kf : y < x → zK G R nL q X b (pc + 3) ls st M) : zK G R nL q X b pc ls (zI y :: zI x :: st) M := by
  intro ho hl hM H locs arr hP hS hh
  have hx : zrI x := zokh (zokt ho)
  have hy : zrI y := zokh ho
  refine lv_icmp_le S.1.1 S.1.2.1 hd ht (fun h => ?_) (fun h => ?_)
  · exact kt ((zI_le hx hy).mp h) (zokt (zokt ho)) hl hM H locs arr hP hS hh
  · exact kf (Int.not_le.mp (fun q => h ((zI_le hx hy).mpr q))) (zokt (zokt ho)) hl hM H locs arr hP hS hh
theorem zr_if_le (S : zS G X cc nL Ts own ret) {x off : Int} {tgt : Nat} (hd : decode cc pc = .ok (.ifCond .le off, 3)) (ht : (pc : Int) + off = (tgt : Int)) (kt : x ≤ 0 → zK G R nL q X b tgt ls st M) (kf : 0 < x → zK G R nL q X b (pc + 3) ls st M) : zK G R nL q X b pc ls (zI x :: st) M := by
  intro ho hl hM H locs arr hP hS hh
  have hx : zrI x := zokh ho
  have hy : zrI 0 := zrI_0
  refine lv_if_le S.1.1 S.1.2.1 hd ht (fun h => ?_) (fun h => ?_)
  · exact kt ((zI_le hx hy).mp h) (zokt ho) hl hM H locs arr hP hS hh
  · exact kf (Int.not_le.mp (fun q => h ((zI_le hx hy).mpr q))) (zokt ho) hl hM H locs arr hP hS hh
theorem zr_goto (S : zS G X cc nL Ts own ret) {off : Int} {tgt : Nat} (hd : decode cc pc = .ok (.goto off, 3)) (ht : (pc : Int) + off = (tgt : Int)) (k : zK G R nL q X b tgt ls st M) : zK G R nL q X b pc ls st M := by
  intro ho hl hM H locs arr hP hS hh
  exact lv_goto S.1.1 S.1.2.1 hd ht (k ho hl hM H locs arr hP hS hh)
theorem zr_lcmp (S : zS G X cc nL Ts own ret) {x y : Int} (hd : decode cc pc = .ok (.lcmp, 1)) (k : zK G R nL q X b (pc + 1) ls (zI (if y < x then 1 else if x = y then 0 else -1) :: st) M) : zK G R nL q X b pc ls (zL y :: zL x :: st) M := by
  intro ho hl hM H locs arr hP hS hh
  have hy : zrL y := zokh ho
  have hx : zrL x := zokh (zokt ho)
  refine W.lcmp S.1.1 S.1.2.1 hd ?_
  have e : lg_cmp (Int64.ofInt x) (Int64.ofInt y) = Int32.ofInt (if y < x then 1 else if x = y then 0 else -1) := by
    unfold lg_cmp
    by_cases h : y < x
    · rw [if_pos h, if_pos (show Int64.ofInt x > Int64.ofInt y from (zL_lt hy hx).mpr h)]; rfl
    · rw [if_neg h, if_neg (show ¬ Int64.ofInt x > Int64.ofInt y from fun z => h ((zL_lt hy hx).mp z))]
      by_cases h2 : x = y
      · rw [if_pos h2, if_pos ((zL_eq hx hy).mpr h2)]; rfl
      · rw [if_neg h2, if_neg (fun z => h2 ((zL_eq hx hy).mp z))]; rfl
  rw [e]
  refine k (zokc (v := zI _) ?_ (zokt (zokt ho))) hl hM H locs arr hP hS hh
  show zrI _
  by_cases h : y < x
  · rw [if_pos h]; exact ⟨by omega, by omega⟩
  · rw [if_neg h]
    by_cases h2 : x = y
    · rw [if_pos h2]; exact zrI_0
    · rw [if_neg h2]; exact ⟨by omega, by omega⟩
theorem zr_lcmp_eq (S : zS G X cc nL Ts own ret) {x y off : Int} {tgt : Nat} (hd : decode cc pc = .ok (.lcmp, 1)) (hd2 : decode cc (pc + 1) = .ok (.ifCond .eq off, 3)) (ht : ((pc + 1 : Nat) : Int) + off = (tgt : Int)) (kt : x = y → zK G R nL q X b tgt ls st M) (kf : ¬ x = y → zK G R nL q X b (pc + 1 + 3) ls st M) : zK G R nL q X b pc ls (zL y :: zL x :: st) M := by
  refine zr_lcmp S hd (zr_if_eq S hd2 ht (fun h => kt ?_) (fun h => kf ?_))
  all_goals (by_cases h1 : y < x)
  all_goals (first | rw [if_pos h1] at h | (rw [if_neg h1] at h; by_cases h2 : x = y; all_goals (first | rw [if_pos h2] at h | rw [if_neg h2] at h)))
  all_goals omega
theorem zr_lcmp_ne (S : zS G X cc nL Ts own ret) {x y off : Int} {tgt : Nat} (hd : decode cc pc = .ok (.lcmp, 1)) (hd2 : decode cc (pc + 1) = .ok (.ifCond .ne off, 3)) (ht : ((pc + 1 : Nat) : Int) + off = (tgt : Int)) (kt : ¬ x = y → zK G R nL q X b tgt ls st M) (kf : x = y → zK G R nL q X b (pc + 1 + 3) ls st M) : zK G R nL q X b pc ls (zL y :: zL x :: st) M := by
  refine zr_lcmp S hd (zr_if_ne S hd2 ht (fun h => kt ?_) (fun h => kf ?_))
  all_goals (by_cases h1 : y < x)
  all_goals (first | rw [if_pos h1] at h | (rw [if_neg h1] at h; by_cases h2 : x = y; all_goals (first | rw [if_pos h2] at h | rw [if_neg h2] at h)))
  all_goals omega
theorem zr_lcmp_lt (S : zS G X cc nL Ts own ret) {x y off : Int} {tgt : Nat} (hd : decode cc pc = .ok (.lcmp, 1)) (hd2 : decode cc (pc + 1) = .ok (.ifCond .lt off, 3)) (ht : ((pc + 1 : Nat) : Int) + off = (tgt : Int)) (kt : x < y → zK G R nL q X b tgt ls st M) (kf : y ≤ x → zK G R nL q X b (pc + 1 + 3) ls st M) : zK G R nL q X b pc ls (zL y :: zL x :: st) M := by
  refine zr_lcmp S hd (zr_if_lt S hd2 ht (fun h => kt ?_) (fun h => kf ?_))
  all_goals (by_cases h1 : y < x)
  all_goals (first | rw [if_pos h1] at h | (rw [if_neg h1] at h; by_cases h2 : x = y; all_goals (first | rw [if_pos h2] at h | rw [if_neg h2] at h)))
  all_goals omega
theorem zr_lcmp_ge (S : zS G X cc nL Ts own ret) {x y off : Int} {tgt : Nat} (hd : decode cc pc = .ok (.lcmp, 1)) (hd2 : decode cc (pc + 1) = .ok (.ifCond .ge off, 3)) (ht : ((pc + 1 : Nat) : Int) + off = (tgt : Int)) (kt : y ≤ x → zK G R nL q X b tgt ls st M) (kf : x < y → zK G R nL q X b (pc + 1 + 3) ls st M) : zK G R nL q X b pc ls (zL y :: zL x :: st) M := by
  refine zr_lcmp S hd (zr_if_ge S hd2 ht (fun h => kt ?_) (fun h => kf ?_))
  all_goals (by_cases h1 : y < x)
  all_goals (first | rw [if_pos h1] at h | (rw [if_neg h1] at h; by_cases h2 : x = y; all_goals (first | rw [if_pos h2] at h | rw [if_neg h2] at h)))
  all_goals omega
theorem zr_lcmp_gt (S : zS G X cc nL Ts own ret) {x y off : Int} {tgt : Nat} (hd : decode cc pc = .ok (.lcmp, 1)) (hd2 : decode cc (pc + 1) = .ok (.ifCond .gt off, 3)) (ht : ((pc + 1 : Nat) : Int) + off = (tgt : Int)) (kt : y < x → zK G R nL q X b tgt ls st M) (kf : x ≤ y → zK G R nL q X b (pc + 1 + 3) ls st M) : zK G R nL q X b pc ls (zL y :: zL x :: st) M := by
  refine zr_lcmp S hd (zr_if_gt S hd2 ht (fun h => kt ?_) (fun h => kf ?_))
  all_goals (by_cases h1 : y < x)
  all_goals (first | rw [if_pos h1] at h | (rw [if_neg h1] at h; by_cases h2 : x = y; all_goals (first | rw [if_pos h2] at h | rw [if_neg h2] at h)))
  all_goals omega
theorem zr_lcmp_le (S : zS G X cc nL Ts own ret) {x y off : Int} {tgt : Nat} (hd : decode cc pc = .ok (.lcmp, 1)) (hd2 : decode cc (pc + 1) = .ok (.ifCond .le off, 3)) (ht : ((pc + 1 : Nat) : Int) + off = (tgt : Int)) (kt : x ≤ y → zK G R nL q X b tgt ls st M) (kf : y < x → zK G R nL q X b (pc + 1 + 3) ls st M) : zK G R nL q X b pc ls (zL y :: zL x :: st) M := by
  refine zr_lcmp S hd (zr_if_le S hd2 ht (fun h => kt ?_) (fun h => kf ?_))
  all_goals (by_cases h1 : y < x)
  all_goals (first | rw [if_pos h1] at h | (rw [if_neg h1] at h; by_cases h2 : x = y; all_goals (first | rw [if_pos h2] at h | rw [if_neg h2] at h)))
  all_goals omega
end
