section
/-- six bits of a known number -/
def fld (x : Int) (s : Nat) : Int := x / 2 ^ s % 64
theorem fld_n {x a : Int} {s : Nat} (h0 : 0 ≤ a) (h1 : a ≤ 63) (hx : fld x s = 63) : fld (x - a * 2 ^ s) s = 63 - a := by
  have hp : (2 : Int) ^ s ≠ 0 := by have := Int.pow_pos (n := 2) (m := s) (by omega); omega
  have e : (x - a * 2 ^ s) / 2 ^ s = x / 2 ^ s - a := by
    rw [show x - a * 2 ^ s = x + (-a) * 2 ^ s by rw [Int.neg_mul]; omega, Int.add_mul_ediv_right _ _ hp]
    omega
  unfold fld at *
  rw [e]
  omega
theorem fld_h {x a : Int} {s t : Nat} (h0 : 0 ≤ a) (h1 : a ≤ 63) (hx : fld x s = 63) (ht : s + 6 ≤ t) : fld (x - a * 2 ^ s) t = fld x t := by
  have hp : (2 : Int) ^ s ≠ 0 := by have := Int.pow_pos (n := 2) (m := s) (by omega); omega
  have hp0 : (0 : Int) ≤ 2 ^ s := by have := Int.pow_pos (n := 2) (m := s) (by omega); omega
  have e : (x - a * 2 ^ s) / 2 ^ s = x / 2 ^ s - a := by
    rw [show x - a * 2 ^ s = x + (-a) * 2 ^ s by rw [Int.neg_mul]; omega, Int.add_mul_ediv_right _ _ hp]
    omega
  have k : ∀ y : Int, y / 2 ^ t = y / 2 ^ s / 64 / 2 ^ (t - s - 6) := fun y => by
    rw [Int.ediv_ediv_of_nonneg hp0, Int.ediv_ediv_of_nonneg (Int.mul_nonneg hp0 (by decide))]
    congr 1
    rw [show (64 : Int) = 2 ^ 6 by decide, ← Int.pow_add, ← Int.pow_add]
    congr 1
    omega
  unfold fld at *
  rw [k, k x, e, show (x / 2 ^ s - a) / 64 = x / 2 ^ s / 64 by omega]
theorem fld_l {x a : Int} {s t : Nat} (ht : t + 6 ≤ s) : fld (x - a * 2 ^ s) t = fld x t := by
  have hp : (2 : Int) ^ t ≠ 0 := by have := Int.pow_pos (n := 2) (m := t) (by omega); omega
  have e2 : a * (2 : Int) ^ s = (a * 2 ^ (s - t - 6) * 64) * 2 ^ t := by
    rw [show (64 : Int) = 2 ^ 6 by decide, Int.mul_assoc, Int.mul_assoc, ← Int.pow_add, ← Int.pow_add]
    congr 2
    omega
  have e : (x - a * 2 ^ s) / 2 ^ t = x / 2 ^ t - a * 2 ^ (s - t - 6) * 64 := by
    rw [e2, show x - a * 2 ^ (s - t - 6) * 64 * 2 ^ t = x + (-(a * 2 ^ (s - t - 6) * 64)) * 2 ^ t by rw [Int.neg_mul]; omega, Int.add_mul_ediv_right _ _ hp]
    omega
  unfold fld
  rw [e]
  generalize a * 2 ^ (s - t - 6) = b
  omega
theorem bv_xor_sub {w : Nat} (x y : BitVec w) (h : x &&& y = y) : x ^^^ y = x - y := by
  have h0 : (x ^^^ y) &&& y = 0#w := by
    ext i hi
    have := congrArg (fun z => z[i]) h
    simp only [BitVec.getElem_and, BitVec.getElem_xor, BitVec.getElem_zero] at this ⊢
    revert this
    cases x[i] <;> cases y[i] <;> simp
  have h1 : (x ^^^ y) + y = x := by
    rw [BitVec.add_eq_or_of_and_eq_zero _ _ h0]
    ext i hi
    have := congrArg (fun z => z[i]) h
    simp only [BitVec.getElem_and, BitVec.getElem_or, BitVec.getElem_xor] at this ⊢
    revert this
    cases x[i] <;> cases y[i] <;> simp
  have h2 : (x ^^^ y) + y - y = x - y := by rw [h1]
  rwa [BitVec.add_sub_cancel] at h2
theorem zb_xorL {x a : Int} {s : Nat} (h0 : 0 ≤ a) (h1 : a ≤ 63) (hs : s + 6 ≤ 64) (hx : fld x s = 63) : Int64.ofInt x ^^^ Int64.ofInt (a * 2 ^ s) = Int64.ofInt (x - a * 2 ^ s) := by
  have hb : (Int64.ofInt x).toBitVec &&& (Int64.ofInt (a * 2 ^ s)).toBitVec = (Int64.ofInt (a * 2 ^ s)).toBitVec := by
    apply BitVec.eq_of_getLsbD_eq
    intro i hi
    rw [BitVec.getLsbD_and]
    unfold BitVec.getLsbD
    rw [zb_tnL, zb_tnL]
    obtain ⟨n, rfl⟩ : ∃ n : Nat, a = n := ⟨a.toNat, by omega⟩
    have ea : (((n : Int) * 2 ^ s) % 18446744073709551616).toNat = n * 2 ^ s := by
      have e1 : ((n : Int) * 2 ^ s) = ((n * 2 ^ s : Nat) : Int) := by simp
      have hlt : n * 2 ^ s < 2 ^ 64 := by
        have u1 : n * 2 ^ s < 2 ^ 6 * 2 ^ s := Nat.mul_lt_mul_of_pos_right (by omega) (Nat.two_pow_pos s)
        rw [← Nat.pow_add] at u1
        exact Nat.lt_of_lt_of_le u1 (Nat.pow_le_pow_right (by omega) (by omega))
      rw [e1]
      omega
    rw [ea, Nat.testBit_mul_two_pow]
    by_cases c : s ≤ i
    · by_cases c6 : i - s < 6
      · have hX : (x % 18446744073709551616).toNat.testBit i = true := by
          have e2 : (x % 18446744073709551616).toNat / 2 ^ s % 64 = 63 := by
            have g1 : (x % 18446744073709551616) / 2 ^ s % 64 = 63 := by
              have := hx
              unfold fld at this
              rw [show x % 18446744073709551616 = x + (-(x / 18446744073709551616)) * 18446744073709551616 by omega]
              rw [show (18446744073709551616 : Int) = 2 ^ (64 - s - 6) * 64 * 2 ^ s by rw [show (64 : Int) = 2 ^ 6 by decide, ← Int.pow_add, ← Int.pow_add, show 64 - s - 6 + 6 + s = 64 by omega]; decide]
              rw [← Int.mul_assoc, Int.add_mul_ediv_right _ _ (by have := Int.pow_pos (n := 2) (m := s) (by omega); omega), ← Int.mul_assoc]
              generalize -(x / (2 ^ (64 - s - 6) * 64 * 2 ^ s)) * 2 ^ (64 - s - 6) = w
              omega
            have e3 : (((x % 18446744073709551616).toNat : Nat) : Int) = x % 18446744073709551616 := by omega
            have e4 : (((x % 18446744073709551616).toNat / 2 ^ s % 64 : Nat) : Int) = (x % 18446744073709551616) / 2 ^ s % 64 := by rw [← e3]; simp
            omega
          have e5 : ((x % 18446744073709551616).toNat / 2 ^ s % 2 ^ 6).testBit (i - s) = true := by
            rw [show (2 : Nat) ^ 6 = 64 by decide, e2]
            have : ∀ j, j < 6 → (63 : Nat).testBit j = true := by decide
            exact this _ c6
          rw [Nat.testBit_mod_two_pow, Nat.testBit_div_two_pow] at e5
          rw [show i - s + s = i by omega] at e5
          simp at e5
          exact e5.2
        rw [hX]
        simp
      · have : n.testBit (i - s) = false := Nat.testBit_lt_two_pow (Nat.lt_of_lt_of_le (show n < 2 ^ 6 by omega) (Nat.pow_le_pow_right (by omega) (by omega)))
        rw [this]
        simp
    · simp [c]
  apply Int64.toBitVec_inj.mp
  rw [Int64.toBitVec_xor, bv_xor_sub _ _ hb, Int64.ofInt_sub, Int64.toBitVec_sub]
end
section
variable {G : zG} {R : Room} {nL : Nat} {q : zq} {X : zX} {b : Nat × Nat} {cc : ByteArray} {Ts : List Cond} {own : String} {ret : Option FieldType} {pc : Nat} {ls : List (Option zV)} {st : List zV} {M : zM}
theorem zr_lxorm (S : zS G X cc nL Ts own ret) {x a : Int} {s : Nat} (hd : decode cc pc = .ok (.lxor, 1)) (h0 : 0 ≤ a) (h1 : a ≤ 63) (hs : s + 6 ≤ 63) (hx : fld x s = 63) (k : zrL (x - a * 2 ^ s) → zK G R nL q X b (pc + 1) ls (zL (x - a * 2 ^ s) :: st) M) : zK G R nL q X b pc ls (zL (a * 2 ^ s) :: zL x :: st) M := by
  intro ho hl hM H locs arr hP hS hh
  have hxr : zrL x := zokh (zokt ho)
  have hr : zrL (x - a * 2 ^ s) := by
    have p : 0 ≤ a * (2 : Int) ^ s := Int.mul_nonneg h0 (Int.le_of_lt (Int.pow_pos (by omega)))
    have hp : (0 : Int) < 2 ^ s := Int.pow_pos (by omega)
    have e1 : 2 ^ s * (x / 2 ^ s) ≤ x := Int.mul_ediv_self_le (by omega)
    have hq : x / 2 ^ s % 64 = 63 := hx
    -- the number keeps its sign: what is taken is below its own field
    have e2 : x / 2 ^ s - a = (x / 2 ^ s / 64) * 64 + (63 - a) := by omega
    have e3 : (x / 2 ^ s / 64) * 64 ≤ x / 2 ^ s - a := by omega
    have e4 : 2 ^ s * ((x / 2 ^ s / 64) * 64) ≤ 2 ^ s * (x / 2 ^ s - a) := Int.mul_le_mul_of_nonneg_left e3 (by omega)
    have e5 : 2 ^ s * (x / 2 ^ s - a) ≤ x - a * 2 ^ s := by rw [Int.mul_sub, Int.mul_comm a]; omega
    have e6 : -9223372036854775808 ≤ 2 ^ s * ((x / 2 ^ s / 64) * 64) := by
      have g1 : -((2 : Int) ^ (63 - s - 6)) ≤ x / 2 ^ s / 64 := by
        rw [Int.ediv_ediv_of_nonneg (by omega)]
        apply (Int.le_ediv_iff_mul_le (Int.mul_pos hp (by decide))).mpr
        rw [Int.neg_mul, show (2 : Int) ^ s * 64 = 2 ^ (s + 6) by rw [Int.pow_add]; rfl, ← Int.pow_add, show 63 - s - 6 + (s + 6) = 63 by omega]
        unfold zrL at hxr
        have : (2 : Int) ^ 63 = 9223372036854775808 := by decide
        omega
      have g2 : 2 ^ s * (-((2 : Int) ^ (63 - s - 6)) * 64) ≤ 2 ^ s * ((x / 2 ^ s / 64) * 64) := Int.mul_le_mul_of_nonneg_left (by omega) (by omega)
      have g3 : (2 : Int) ^ s * (-((2 : Int) ^ (63 - s - 6)) * 64) = -9223372036854775808 := by
        rw [Int.neg_mul, Int.mul_neg, show (2 : Int) ^ s * (2 ^ (63 - s - 6) * 64) = 2 ^ (s + (63 - s - 6 + 6)) by rw [Int.pow_add 2 s, Int.pow_add 2 (63 - s - 6)]; rfl, show s + (63 - s - 6 + 6) = 63 by omega]
        decide
      omega
    unfold zrL at *
    omega
  refine lv_lxor S.1.1 S.1.2.1 hd ?_
  rw [zb_xorL h0 h1 (by omega) hx]
  exact k hr (zokc (v := zL (x - a * 2 ^ s)) hr (zokt (zokt ho))) hl hM H locs arr hP hS hh
end
