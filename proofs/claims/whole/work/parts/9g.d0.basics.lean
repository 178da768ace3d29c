section
def bX0 : List Value := [.null, .null, .null]
theorem dfX0 : ∀ j, j < 3 → defaultValue (tyX0 j) = vp_V bX0 j := by
  intro j hj
  match j, hj with
  | 0, _ => rfl
  | 1, _ => rfl
  | 2, _ => rfl
  | k + 3, h => exact absurd h (by omega)
def bX1 : List Value := [.null, .null]
theorem dfX1 : ∀ j, j < 2 → defaultValue (tyX1 j) = vp_V bX1 j := by
  intro j hj
  match j, hj with
  | 0, _ => rfl
  | 1, _ => rfl
  | k + 2, h => exact absurd h (by omega)
def bX2 : List Value := [.int (Int32.ofInt 0), .null, .null, .null, .null, .null]
theorem dfX2 : ∀ j, j < 6 → defaultValue (tyX2 j) = vp_V bX2 j := by
  intro j hj
  match j, hj with
  | 0, _ => rfl
  | 1, _ => rfl
  | 2, _ => rfl
  | 3, _ => rfl
  | 4, _ => rfl
  | 5, _ => rfl
  | k + 6, h => exact absurd h (by omega)
def bX3 : List Value := [.null, .null, .null, .null, .int (Int32.ofInt 0), .int (Int32.ofInt 0), .int (Int32.ofInt 0)]
theorem dfX3 : ∀ j, j < 7 → defaultValue (tyX3 j) = vp_V bX3 j := by
  intro j hj
  match j, hj with
  | 0, _ => rfl
  | 1, _ => rfl
  | 2, _ => rfl
  | 3, _ => rfl
  | 4, _ => rfl
  | 5, _ => rfl
  | 6, _ => rfl
  | k + 7, h => exact absurd h (by omega)
def bX4 : List Value := [.null, .int (Int32.ofInt 0), .int (Int32.ofInt 0), .int (Int32.ofInt 0), .null, .int (Int32.ofInt 0), .int (Int32.ofInt 0), .int (Int32.ofInt 0), .int (Int32.ofInt 0), .int (Int32.ofInt 0)]
theorem dfX4 : ∀ j, j < 10 → defaultValue (tyX4 j) = vp_V bX4 j := by
  intro j hj
  match j, hj with
  | 0, _ => rfl
  | 1, _ => rfl
  | 2, _ => rfl
  | 3, _ => rfl
  | 4, _ => rfl
  | 5, _ => rfl
  | 6, _ => rfl
  | 7, _ => rfl
  | 8, _ => rfl
  | 9, _ => rfl
  | k + 10, h => exact absurd h (by omega)
def bX5 : List Value := [.null, .null, .null, .null, .null, .null, .null, .null]
theorem dfX5 : ∀ j, j < 8 → defaultValue (tyX5 j) = vp_V bX5 j := by
  intro j hj
  match j, hj with
  | 0, _ => rfl
  | 1, _ => rfl
  | 2, _ => rfl
  | 3, _ => rfl
  | 4, _ => rfl
  | 5, _ => rfl
  | 6, _ => rfl
  | 7, _ => rfl
  | k + 8, h => exact absurd h (by omega)
def bX6 : List Value := [.null, .null, .null, .null, .null, .null, .null, .int (Int32.ofInt 0), .int (Int32.ofInt 0), .long (Int64.ofInt 0)]
theorem dfX6 : ∀ j, j < 10 → defaultValue (tyX6 j) = vp_V bX6 j := by
  intro j hj
  match j, hj with
  | 0, _ => rfl
  | 1, _ => rfl
  | 2, _ => rfl
  | 3, _ => rfl
  | 4, _ => rfl
  | 5, _ => rfl
  | 6, _ => rfl
  | 7, _ => rfl
  | 8, _ => rfl
  | 9, _ => rfl
  | k + 10, h => exact absurd h (by omega)
def bX7 : List Value := [.int (Int32.ofInt 0), .null, .null, .null, .null, .null, .null, .null, .null]
theorem dfX7 : ∀ j, j < 9 → defaultValue (tyX7 j) = vp_V bX7 j := by
  intro j hj
  match j, hj with
  | 0, _ => rfl
  | 1, _ => rfl
  | 2, _ => rfl
  | 3, _ => rfl
  | 4, _ => rfl
  | 5, _ => rfl
  | 6, _ => rfl
  | 7, _ => rfl
  | 8, _ => rfl
  | k + 9, h => exact absurd h (by omega)
def bX8 : List Value := [.null, .null, .null, .int (Int32.ofInt 0), .null, .int (Int32.ofInt 0), .null, .null, .null, .null, .int (Int32.ofInt 0), .null, .null]
theorem dfX8 : ∀ j, j < 13 → defaultValue (tyX8 j) = vp_V bX8 j := by
  intro j hj
  match j, hj with
  | 0, _ => rfl
  | 1, _ => rfl
  | 2, _ => rfl
  | 3, _ => rfl
  | 4, _ => rfl
  | 5, _ => rfl
  | 6, _ => rfl
  | 7, _ => rfl
  | 8, _ => rfl
  | 9, _ => rfl
  | 10, _ => rfl
  | 11, _ => rfl
  | 12, _ => rfl
  | k + 13, h => exact absurd h (by omega)
def bX9 : List Value := [.null, .null, .null, .null, .null, .null, .int (Int32.ofInt 0), .null, .null, .null, .null, .int (Int32.ofInt 0), .null]
theorem dfX9 : ∀ j, j < 13 → defaultValue (tyX9 j) = vp_V bX9 j := by
  intro j hj
  match j, hj with
  | 0, _ => rfl
  | 1, _ => rfl
  | 2, _ => rfl
  | 3, _ => rfl
  | 4, _ => rfl
  | 5, _ => rfl
  | 6, _ => rfl
  | 7, _ => rfl
  | 8, _ => rfl
  | 9, _ => rfl
  | 10, _ => rfl
  | 11, _ => rfl
  | 12, _ => rfl
  | k + 13, h => exact absurd h (by omega)
def bX10 : List Value := [.int (Int32.ofInt 0), .int (Int32.ofInt 0), .null]
theorem dfX10 : ∀ j, j < 3 → defaultValue (tyX10 j) = vp_V bX10 j := by
  intro j hj
  match j, hj with
  | 0, _ => rfl
  | 1, _ => rfl
  | 2, _ => rfl
  | k + 3, h => exact absurd h (by omega)
def bX11 : List Value := [.null, .null, .null, .null, .null, .null, .null, .null, .null, .null]
theorem dfX11 : ∀ j, j < 10 → defaultValue (tyX11 j) = vp_V bX11 j := by
  intro j hj
  match j, hj with
  | 0, _ => rfl
  | 1, _ => rfl
  | 2, _ => rfl
  | 3, _ => rfl
  | 4, _ => rfl
  | 5, _ => rfl
  | 6, _ => rfl
  | 7, _ => rfl
  | 8, _ => rfl
  | 9, _ => rfl
  | k + 10, h => exact absurd h (by omega)
def bX12 : List Value := [.null, .null, .null, .int (Int32.ofInt 0), .null, .null, .int (Int32.ofInt 0), .int (Int32.ofInt 0), .int (Int32.ofInt 0), .int (Int32.ofInt 0), .int (Int32.ofInt 0), .int (Int32.ofInt 0), .int (Int32.ofInt 0), .int (Int32.ofInt 0), .int (Int32.ofInt 0), .int (Int32.ofInt 0), .int (Int32.ofInt 0), .int (Int32.ofInt 0), .int (Int32.ofInt 0), .null, .null, .null, .null, .null, .null, .null, .null, .null, .null, .null, .null, .int (Int32.ofInt 0), .null, .null, .null]
theorem dfX12 : ∀ j, j < 35 → defaultValue (tyX12 j) = vp_V bX12 j := by
  intro j hj
  match j, hj with
  | 0, _ => rfl
  | 1, _ => rfl
  | 2, _ => rfl
  | 3, _ => rfl
  | 4, _ => rfl
  | 5, _ => rfl
  | 6, _ => rfl
  | 7, _ => rfl
  | 8, _ => rfl
  | 9, _ => rfl
  | 10, _ => rfl
  | 11, _ => rfl
  | 12, _ => rfl
  | 13, _ => rfl
  | 14, _ => rfl
  | 15, _ => rfl
  | 16, _ => rfl
  | 17, _ => rfl
  | 18, _ => rfl
  | 19, _ => rfl
  | 20, _ => rfl
  | 21, _ => rfl
  | 22, _ => rfl
  | 23, _ => rfl
  | 24, _ => rfl
  | 25, _ => rfl
  | 26, _ => rfl
  | 27, _ => rfl
  | 28, _ => rfl
  | 29, _ => rfl
  | 30, _ => rfl
  | 31, _ => rfl
  | 32, _ => rfl
  | 33, _ => rfl
  | 34, _ => rfl
  | k + 35, h => exact absurd h (by omega)
variable {E : zE} {a : Nat} {R : Room} {nL : Nat} {X : zX} {Q : State → Prop} {b : Nat × Nat} {cc : ByteArray} {Ts : List Cond} {own : String} {pc : Nat} {ls : List (Nat × Value)} {st : List Value} {n : Nat} {u : List (Nat × va_E)}
theorem zj_newI (S : zB E X cc nL Ts own) (b' : Nat × Nat) {x : Int} {N n' : Nat} (hd : decode cc pc = .ok (.newarray .int, 2)) (hw : Cond.arrayClass .int ∈ Ts) (h0 : ¬ Int32.ofInt x < 0) (hN : (Int32.ofInt x).toNatClampNeg = N) (hbt : N ≤ 60000) (hb : b.1 + 1 = b'.1 ∧ b.2 + N = b'.2 ∧ b'.1 ≤ R.cells ∧ b'.2 ≤ R.slots) (hn : n + 1 = n') (k : zJ E a R nL X Q b' (pc + 2) ls (.ref (a + n) :: st) n' ((n, zce E (.inl (0, N)) (fun _ => 0)) :: u)) : zJ E a R nL X Q b pc ls (.int (Int32.ofInt x) :: st) n u :=
  zj_newa S b' 0 hd hw rfl (fun _ _ h => h) (fun _ => rfl) h0 hN (by show N * 4 ≤ _; omega) hb hn k
theorem zj_newL (S : zB E X cc nL Ts own) (b' : Nat × Nat) {x : Int} {N n' : Nat} (hd : decode cc pc = .ok (.newarray .long, 2)) (hw : Cond.arrayClass .long ∈ Ts) (h0 : ¬ Int32.ofInt x < 0) (hN : (Int32.ofInt x).toNatClampNeg = N) (hbt : N ≤ 60000) (hb : b.1 + 1 = b'.1 ∧ b.2 + N = b'.2 ∧ b'.1 ≤ R.cells ∧ b'.2 ≤ R.slots) (hn : n + 1 = n') (k : zJ E a R nL X Q b' (pc + 2) ls (.ref (a + n) :: st) n' ((n, zce E (.inl (1, N)) (fun _ => 0)) :: u)) : zJ E a R nL X Q b pc ls (.int (Int32.ofInt x) :: st) n u :=
  zj_newa S b' 1 hd hw rfl (fun _ _ h => h) (fun _ => rfl) h0 hN (by show N * 8 ≤ _; omega) hb hn k
theorem zj_newBy (S : zB E X cc nL Ts own) (b' : Nat × Nat) {x : Int} {N n' : Nat} (hd : decode cc pc = .ok (.newarray .byte, 2)) (hw : Cond.arrayClass .byte ∈ Ts) (h0 : ¬ Int32.ofInt x < 0) (hN : (Int32.ofInt x).toNatClampNeg = N) (hbt : N ≤ 60000) (hb : b.1 + 1 = b'.1 ∧ b.2 + N = b'.2 ∧ b'.1 ≤ R.cells ∧ b'.2 ≤ R.slots) (hn : n + 1 = n') (k : zJ E a R nL X Q b' (pc + 2) ls (.ref (a + n) :: st) n' ((n, zce E (.inl (2, N)) (fun _ => 0)) :: u)) : zJ E a R nL X Q b pc ls (.int (Int32.ofInt x) :: st) n u :=
  zj_newa S b' 2 hd hw rfl (fun _ _ h => h) (fun _ => rfl) h0 hN (by show N * 1 ≤ _; omega) hb hn k
theorem zj_newZ (S : zB E X cc nL Ts own) (b' : Nat × Nat) {x : Int} {N n' : Nat} (hd : decode cc pc = .ok (.newarray .boolean, 2)) (hw : Cond.arrayClass .boolean ∈ Ts) (h0 : ¬ Int32.ofInt x < 0) (hN : (Int32.ofInt x).toNatClampNeg = N) (hbt : N ≤ 60000) (hb : b.1 + 1 = b'.1 ∧ b.2 + N = b'.2 ∧ b'.1 ≤ R.cells ∧ b'.2 ≤ R.slots) (hn : n + 1 = n') (k : zJ E a R nL X Q b' (pc + 2) ls (.ref (a + n) :: st) n' ((n, zce E (.inl (3, N)) (fun _ => 0)) :: u)) : zJ E a R nL X Q b pc ls (.int (Int32.ofInt x) :: st) n u :=
  zj_newa S b' 3 hd hw rfl (fun _ _ h => h) (fun _ => rfl) h0 hN (by show N * 1 ≤ _; omega) hb hn k
theorem zclean {u out : List (Nat × va_E)} {n : Nat} (h : (List.range n).map (zlk u) = (List.range n).map (zlk out)) (j : Nat) (hj : j < n) : zlk u j = zlk out j := by
  have h1 := congrArg (fun l => l[j]?) h
  simp only [List.getElem?_map, List.getElem?_range hj, Option.map_some] at h1
  exact Option.some.inj h1
theorem zj_retc (S : zB E X cc nL Ts own) (hi : zBi X) {mc ms : Nat} {out : List (Nat × va_E)} (hd : decode cc pc = .ok (.return_, 1)) (hb : b.1 ≤ mc ∧ b.2 ≤ ms) (hc : (List.range n).map (zlk u) = (List.range n).map (zlk out)) : zJ E a R nL X (MQ X.2.2.2.2.2.2.1 (zcQ E a n out) X.2.2.2.2.2.1 X.2.2.2.1 mc ms (fun q => a ≤ q)) b pc ls [] n u :=
  zj_ret S hi hd hb (fun j e H hj he hH => hH.2 j e hj (by rw [zclean hc j hj]; exact he))
end
