section
theorem zb_dvd {a b : Nat} (h : a ≤ b) : (2 : Int) ^ a ∣ 2 ^ b := ⟨2 ^ (b - a), by rw [← Int.pow_add]; congr 1; omega⟩
theorem zb_n (n : Nat) : Int32.ofInt (n : Int) = nI n := by
  show Int32.ofInt (n : Int) = Int32.ofNat n
  first | rfl | exact Int32.ofInt_eq_ofNat | simp
theorem zb_and (a b : Nat) : nI a &&& nI b = nI (a &&& b) := by
  apply Int32.toBitVec_inj.1
  show BitVec.ofNat 32 a &&& BitVec.ofNat 32 b = BitVec.ofNat 32 (a &&& b)
  apply BitVec.eq_of_getLsbD_eq
  intro i hi
  simp [hi]
theorem zb_or (a b : Nat) : nI a ||| nI b = nI (a ||| b) := by
  apply Int32.toBitVec_inj.1
  show BitVec.ofNat 32 a ||| BitVec.ofNat 32 b = BitVec.ofNat 32 (a ||| b)
  apply BitVec.eq_of_getLsbD_eq
  intro i hi
  simp [hi]
theorem zb_xor (a b : Nat) : nI a ^^^ nI b = nI (a ^^^ b) := by
  apply Int32.toBitVec_inj.1
  show BitVec.ofNat 32 a ^^^ BitVec.ofNat 32 b = BitVec.ofNat 32 (a ^^^ b)
  apply BitVec.eq_of_getLsbD_eq
  intro i hi
  simp [hi]
theorem zb_tn (x : Int) : (Int32.ofInt x).toBitVec.toNat = (x % 4294967296).toNat := by
  rw [Int32.toBitVec_ofInt, BitVec.toNat_ofInt]
  rfl
theorem zb_tnL (x : Int) : (Int64.ofInt x).toBitVec.toNat = (x % 18446744073709551616).toNat := by
  rw [Int64.toBitVec_ofInt, BitVec.toNat_ofInt]
  rfl
theorem zb_sl : ∀ n, n < 32 → ((nI n &&& 31).toBitVec.smod 32).toNat = n := by decide +kernel
theorem zb_su : ∀ n, n < 32 → (((nI n).toUInt32 &&& Int32.toUInt32 31).toBitVec % 32).toNat = n := by decide +kernel
theorem zb_slL : ∀ n, n < 64 → (((nI n).toInt64 &&& 63).toBitVec.smod 64).toNat = n := by decide +kernel
/-- a mask of k bits -/
theorem zb_mask (x : Int) (k : Nat) (hk : k ≤ 31) : Int32.ofInt x &&& Int32.ofInt (2 ^ k - 1) = Int32.ofInt (x % 2 ^ k) := by
  have hp : (2 : Int) ^ k - 1 = ((2 ^ k - 1 : Nat) : Int) := by
    have : 0 < 2 ^ k := Nat.two_pow_pos k
    rw [Int.natCast_sub (by omega)]
    simp
  have hm : (Int32.ofInt ((2 : Int) ^ k - 1)).toBitVec.toNat = 2 ^ k - 1 := by
    rw [hp, zb_n, pk_tn]
    have h1 : 2 ^ k ≤ 2 ^ 31 := Nat.pow_le_pow_right (by omega) hk
    have : 0 < 2 ^ k := Nat.two_pow_pos k
    omega
  rw [pk_and (Int32.ofInt x) k hm, zb_tn, ← zb_n]
  congr 1
  have h0 : 0 ≤ x % 4294967296 := Int.emod_nonneg _ (by decide)
  have e2 : ((2 ^ k : Nat) : Int) = (2 : Int) ^ k := by simp
  rw [Int.natCast_emod, Int.toNat_of_nonneg h0, e2]
  refine Int.emod_emod_of_dvd x ?_
  have : (4294967296 : Int) = 2 ^ 32 := by decide
  rw [this]
  exact zb_dvd (by omega)
theorem zb_maskL (x : Int) (k : Nat) (hk : k ≤ 63) : Int64.ofInt x &&& Int64.ofInt (2 ^ k - 1) = Int64.ofInt (x % 2 ^ k) := by
  have hp : (2 : Int) ^ k - 1 = ((2 ^ k - 1 : Nat) : Int) := by
    have : 0 < 2 ^ k := Nat.two_pow_pos k
    rw [Int.natCast_sub (by omega)]
    simp
  have h1 : 2 ^ k ≤ 2 ^ 63 := Nat.pow_le_pow_right (by omega) hk
  have h2 : 0 < 2 ^ k := Nat.two_pow_pos k
  apply Int64.toBitVec_inj.1
  apply BitVec.eq_of_toNat_eq
  rw [Int64.toBitVec_and, BitVec.toNat_and, zb_tnL, zb_tnL, zb_tnL, hp]
  have e1 : (((2 ^ k - 1 : Nat) : Int) % 18446744073709551616).toNat = 2 ^ k - 1 := by
    rw [Int.emod_eq_of_lt (by omega) (by omega)]
    simp
  rw [e1, Nat.and_two_pow_sub_one_eq_mod]
  have h0 : 0 ≤ x % 18446744073709551616 := Int.emod_nonneg _ (by decide)
  have e2 : ((2 ^ k : Nat) : Int) = (2 : Int) ^ k := by simp
  have e3 : (x % 18446744073709551616) % (2 : Int) ^ k = x % 2 ^ k := by
    refine Int.emod_emod_of_dvd x ?_
    have : (18446744073709551616 : Int) = 2 ^ 64 := by decide
    rw [this]
    exact zb_dvd (by omega)
  have h5 : 0 ≤ x % (2 : Int) ^ k := Int.emod_nonneg _ (by omega)
  have h6 : x % (2 : Int) ^ k < 2 ^ k := Int.emod_lt_of_pos _ (by omega)
  rw [Int.emod_eq_of_lt (a := x % 2 ^ k) h5 (by omega)]
  have : ((x % 18446744073709551616).toNat % 2 ^ k : Nat) = (x % (2 : Int) ^ k).toNat := by
    have e4 : (((x % 18446744073709551616).toNat % 2 ^ k : Nat) : Int) = x % (2 : Int) ^ k := by
      rw [Int.natCast_emod, Int.toNat_of_nonneg h0, e2, e3]
    omega
  exact this
end
section
variable {G : zG} {R : Room} {nL : Nat} {q : zq} {X : zX} {b : Nat × Nat} {cc : ByteArray} {Ts : List Cond} {own : String} {ret : Option FieldType} {pc : Nat} {ls : List (Option zV)} {st : List zV} {M : zM}
theorem zr_iandm (S : zS G X cc nL Ts own ret) {x y : Int} (k : Nat) (hd : decode cc pc = .ok (.iand, 1)) (hk : k ≤ 31) (hy : y = 2 ^ k - 1) (kk : zK G R nL q X b (pc + 1) ls (zI (x % 2 ^ k) :: st) M) : zK G R nL q X b pc ls (zI y :: zI x :: st) M := by
  intro ho hl hM H locs arr hP hS hh
  subst hy
  refine lv_iand S.1.1 S.1.2.1 hd ?_
  rw [zb_mask x k hk]
  have h1 : (2 : Int) ^ k ≤ 2 ^ 31 := by
    have := Nat.pow_le_pow_right (n := 2) (by omega) hk
    have e : ((2 ^ k : Nat) : Int) = (2 : Int) ^ k := by simp
    omega
  have h2 : (0 : Int) < 2 ^ k := Int.pow_pos (by omega)
  have h5 : 0 ≤ x % (2 : Int) ^ k := Int.emod_nonneg _ (by omega)
  have h6 : x % (2 : Int) ^ k < 2 ^ k := Int.emod_lt_of_pos _ h2
  exact kk (zokc (v := zI (x % 2 ^ k)) ⟨by omega, by omega⟩ (zokt (zokt ho))) hl hM H locs arr hP hS hh
theorem zr_landm (S : zS G X cc nL Ts own ret) {x y : Int} (k : Nat) (hd : decode cc pc = .ok (.land, 1)) (hk : k ≤ 62) (hy : y = 2 ^ k - 1) (kk : zK G R nL q X b (pc + 1) ls (zL (x % 2 ^ k) :: st) M) : zK G R nL q X b pc ls (zL y :: zL x :: st) M := by
  intro ho hl hM H locs arr hP hS hh
  subst hy
  refine lv_land S.1.1 S.1.2.1 hd ?_
  rw [zb_maskL x k (by omega)]
  have h1 : (2 : Int) ^ k ≤ 2 ^ 62 := by
    have := Nat.pow_le_pow_right (n := 2) (by omega) hk
    have e : ((2 ^ k : Nat) : Int) = (2 : Int) ^ k := by simp
    omega
  have h2 : (0 : Int) < 2 ^ k := Int.pow_pos (by omega)
  have h5 : 0 ≤ x % (2 : Int) ^ k := Int.emod_nonneg _ (by omega)
  have h6 : x % (2 : Int) ^ k < 2 ^ k := Int.emod_lt_of_pos _ h2
  exact kk (zokc (v := zL (x % 2 ^ k)) ⟨by omega, by omega⟩ (zokt (zokt ho))) hl hM H locs arr hP hS hh
theorem zr_ior (S : zS G X cc nL Ts own ret) {x y : Int} (hd : decode cc pc = .ok (.ior, 1)) (hx : 0 ≤ x) (hy : 0 ≤ y) (kk : zK G R nL q X b (pc + 1) ls (zI ((x.toNat ||| y.toNat : Nat) : Int) :: st) M) : zK G R nL q X b pc ls (zI y :: zI x :: st) M := by
  intro ho hl hM H locs arr hP hS hh
  have hy9 : zrI y := zokh ho
  have hx9 : zrI x := zokh (zokt ho)
  refine lv_ior S.1.1 S.1.2.1 hd ?_
  have e : Int32.ofInt x ||| Int32.ofInt y = Int32.ofInt ((x.toNat ||| y.toNat : Nat) : Int) := by
    rw [zb_n, ← zb_or, ← zb_n, ← zb_n, Int.toNat_of_nonneg hx, Int.toNat_of_nonneg hy]
  rw [e]
  have h1 : x.toNat ||| y.toNat < 2 ^ 31 := Nat.or_lt_two_pow (by have := hx9.2; omega) (by have := hy9.2; omega)
  exact kk (zokc (v := zI _) ⟨by omega, by omega⟩ (zokt (zokt ho))) hl hM H locs arr hP hS hh
theorem zr_ixor (S : zS G X cc nL Ts own ret) {x y : Int} (hd : decode cc pc = .ok (.ixor, 1)) (hx : 0 ≤ x) (hy : 0 ≤ y) (kk : zK G R nL q X b (pc + 1) ls (zI ((x.toNat ^^^ y.toNat : Nat) : Int) :: st) M) : zK G R nL q X b pc ls (zI y :: zI x :: st) M := by
  intro ho hl hM H locs arr hP hS hh
  have hy9 : zrI y := zokh ho
  have hx9 : zrI x := zokh (zokt ho)
  refine lv_ixor S.1.1 S.1.2.1 hd ?_
  have e : Int32.ofInt x ^^^ Int32.ofInt y = Int32.ofInt ((x.toNat ^^^ y.toNat : Nat) : Int) := by
    rw [zb_n, ← zb_xor, ← zb_n, ← zb_n, Int.toNat_of_nonneg hx, Int.toNat_of_nonneg hy]
  rw [e]
  have h1 : x.toNat ^^^ y.toNat < 2 ^ 31 := Nat.xor_lt_two_pow (by have := hx9.2; omega) (by have := hy9.2; omega)
  exact kk (zokc (v := zI _) ⟨by omega, by omega⟩ (zokt (zokt ho))) hl hM H locs arr hP hS hh
theorem zr_ishl (S : zS G X cc nL Ts own ret) {x y : Int} (hd : decode cc pc = .ok (.ishl, 1)) (hx : 0 ≤ x) (h0 : 0 ≤ y) (h1 : y < 32) (h2 : x * 2 ^ y.toNat < 2147483648) (kk : zK G R nL q X b (pc + 1) ls (zI (x * 2 ^ y.toNat) :: st) M) : zK G R nL q X b pc ls (zI y :: zI x :: st) M := by
  intro ho hl hM H locs arr hP hS hh
  refine lv_ishl S.1.1 S.1.2.1 hd ?_
  have hp : (0 : Int) ≤ x * 2 ^ y.toNat := Int.mul_nonneg hx (Int.pow_nonneg (by omega))
  have e : Int32.ofInt x <<< (Int32.ofInt y &&& 31) = Int32.ofInt (x * 2 ^ y.toNat) := by
    have e1 : x = (x.toNat : Int) := (Int.toNat_of_nonneg hx).symm
    have e2 : y = (y.toNat : Int) := (Int.toNat_of_nonneg h0).symm
    have e3 : x * 2 ^ y.toNat = ((x.toNat * 2 ^ y.toNat : Nat) : Int) := by
      rw [Int.natCast_mul, ← e1]; simp
    rw [e3, zb_n]
    conv => lhs; rw [e1, e2, zb_n, zb_n]
    refine pk_shlN _ y.toNat ?_ ?_
    · exact zb_sl y.toNat (by omega)
    · omega
  rw [e]
  exact kk (zokc (v := zI _) ⟨by omega, h2⟩ (zokt (zokt ho))) hl hM H locs arr hP hS hh
theorem zr_ishr (S : zS G X cc nL Ts own ret) {x y : Int} (hd : decode cc pc = .ok (.ishr, 1)) (h0 : 0 ≤ y) (h1 : y < 32) (kk : zK G R nL q X b (pc + 1) ls (zI (x / 2 ^ y.toNat) :: st) M) : zK G R nL q X b pc ls (zI y :: zI x :: st) M := by
  intro ho hl hM H locs arr hP hS hh
  have hx9 : zrI x := zokh (zokt ho)
  refine lv_ishr S.1.1 S.1.2.1 hd ?_
  have e2 : y = (y.toNat : Int) := (Int.toNat_of_nonneg h0).symm
  have e1 : (Int32.ofInt x >>> (Int32.ofInt y &&& 31)).toInt = x / 2 ^ y.toNat := by
    rw [pk_shr _ _ y.toNat (by rw [e2, zb_n]; exact zb_sl y.toNat (by omega)), zI_toInt hx9, Int.shiftRight_eq_div_pow]
    simp
  have hp : (0 : Int) < 2 ^ y.toNat := Int.pow_pos (by omega)
  have hp1 : (1 : Int) ≤ 2 ^ y.toNat := hp
  have hr : zrI (x / 2 ^ y.toNat) := by
    rw [← e1]
    exact ⟨Int32.le_toInt _, Int32.toInt_lt _⟩
  have e : Int32.ofInt x >>> (Int32.ofInt y &&& 31) = Int32.ofInt (x / 2 ^ y.toNat) := by
    apply Int32.toInt_inj.mp
    rw [e1, zI_toInt hr]
  rw [e]
  exact kk (zokc (v := zI _) hr (zokt (zokt ho))) hl hM H locs arr hP hS hh
theorem zr_irem (S : zS G X cc nL Ts own ret) {x y : Int} (hd : decode cc pc = .ok (.irem, 1)) (h0 : 0 ≤ x) (h1 : 0 < y) (k : zK G R nL q X b (pc + 1) ls (zI (x % y) :: st) M) : zK G R nL q X b pc ls (zI y :: zI x :: st) M := by
  intro ho hl hM H locs arr hP hS hh
  have hy : zrI y := zokh ho
  have hx : zrI x := zokh (zokt ho)
  have hle : x / y ≤ x := Int.ediv_le_self y h0
  have hge : 0 ≤ x / y := Int.ediv_nonneg h0 (by omega)
  have hr : zrI (x / y) := by unfold zrI at *; omega
  have hr2 : zrI (x % y) := by
    have := Int.emod_nonneg x (b := y) (by omega)
    have := Int.emod_lt_of_pos x h1
    unfold zrI at *
    omega
  refine lv_irem S.1.1 S.1.2.1 hd (fun z => ?_) ?_
  · have := (zI_eq hy zrI_0).mp z
    omega
  · have e : Int32.ofInt x / Int32.ofInt y = Int32.ofInt (x / y) := by
      apply Int32.toInt_inj.mp
      rw [Int32.toInt_div, zI_toInt hx, zI_toInt hy, zI_toInt hr, Int.tdiv_eq_ediv_of_nonneg h0]
      exact Int.bmod_eq_of_le (by unfold zrI at hr; omega) (by unfold zrI at hr; omega)
    have e2 : Int32.ofInt x - Int32.ofInt x / Int32.ofInt y * Int32.ofInt y = Int32.ofInt (x % y) := by
      rw [e, ← Int32.ofInt_mul, ← Int32.ofInt_sub]
      congr 1
      rw [Int.emod_def, Int.mul_comm y (x / y)]
    rw [e2]
    exact k (zokc (v := zI (x % y)) hr2 (zokt (zokt ho))) hl hM H locs arr hP hS hh
theorem zb_shrL (a s : Int64) (k : Nat) (hs : (s.toBitVec.smod 64).toNat = k) : (a >>> s).toInt = a.toInt >>> k := by
  show (a.toBitVec.sshiftRight (s.toBitVec.smod 64).toNat).toInt = _
  rw [hs, BitVec.toInt_sshiftRight]
  rfl
theorem zb_shlL (x : Int) (s : Int64) (k : Nat) (hs : (s.toBitVec.smod 64).toNat = k) : Int64.ofInt x <<< s = Int64.ofInt (x * 2 ^ k) := by
  apply Int64.toBitVec_inj.1
  show (Int64.ofInt x).toBitVec <<< (s.toBitVec.smod 64).toNat = _
  rw [hs]
  apply BitVec.eq_of_toNat_eq
  rw [BitVec.toNat_shiftLeft, zb_tnL, zb_tnL, Nat.shiftLeft_eq]
  have h0 : 0 ≤ x % 18446744073709551616 := Int.emod_nonneg _ (by decide)
  have h1 : 0 ≤ (x * 2 ^ k) % 18446744073709551616 := Int.emod_nonneg _ (by decide)
  have e : ((((x % 18446744073709551616).toNat * 2 ^ k % 2 ^ 64 : Nat)) : Int) = (x * 2 ^ k) % 18446744073709551616 := by
    rw [Int.natCast_emod, Int.natCast_mul, Int.toNat_of_nonneg h0, Int.mul_emod x]
    have e2 : ((2 ^ k : Nat) : Int) = (2 : Int) ^ k := by simp
    have e3 : ((2 ^ 64 : Nat) : Int) = 18446744073709551616 := by decide
    rw [e2, e3, Int.mul_emod (x % 18446744073709551616), Int.emod_emod]
  omega
theorem zr_lshr (S : zS G X cc nL Ts own ret) {x y : Int} (hd : decode cc pc = .ok (.lshr, 1)) (h0 : 0 ≤ y) (h1 : y < 64) (kk : zK G R nL q X b (pc + 1) ls (zL (x / 2 ^ y.toNat) :: st) M) : zK G R nL q X b pc ls (zI y :: zL x :: st) M := by
  intro ho hl hM H locs arr hP hS hh
  have hx9 : zrL x := zokh (zokt ho)
  have e2 : y = (y.toNat : Int) := (Int.toNat_of_nonneg h0).symm
  have e1 : (Int64.ofInt x >>> ((Int32.ofInt y).toInt64 &&& 63)).toInt = x / 2 ^ y.toNat := by
    rw [zb_shrL _ _ y.toNat (by rw [e2, zb_n]; exact zb_slL y.toNat (by omega)), zL_toInt hx9, Int.shiftRight_eq_div_pow]
    simp
  have hr : zrL (x / 2 ^ y.toNat) := by
    rw [← e1]
    exact ⟨Int64.le_toInt _, Int64.toInt_lt _⟩
  have e : Int64.ofInt x >>> ((Int32.ofInt y).toInt64 &&& 63) = Int64.ofInt (x / 2 ^ y.toNat) := by
    apply Int64.toInt_inj.mp
    rw [e1, zL_toInt hr]
  exact lv_lshr S.1.1 S.1.2.1 hd e (kk (zokc (v := zL _) hr (zokt (zokt ho))) hl hM H locs arr hP hS hh)
theorem zr_lshl (S : zS G X cc nL Ts own ret) {x y : Int} (hd : decode cc pc = .ok (.lshl, 1)) (h0 : 0 ≤ y) (h1 : y < 64) (hr : zrL (x * 2 ^ y.toNat)) (kk : zK G R nL q X b (pc + 1) ls (zL (x * 2 ^ y.toNat) :: st) M) : zK G R nL q X b pc ls (zI y :: zL x :: st) M := by
  intro ho hl hM H locs arr hP hS hh
  have e2 : y = (y.toNat : Int) := (Int.toNat_of_nonneg h0).symm
  have e : Int64.ofInt x <<< ((Int32.ofInt y).toInt64 &&& 63) = Int64.ofInt (x * 2 ^ y.toNat) := zb_shlL x _ y.toNat (by rw [e2, zb_n]; exact zb_slL y.toNat (by omega))
  exact lv_lshl S.1.1 S.1.2.1 hd e (kk (zokc (v := zL _) hr (zokt (zokt ho))) hl hM H locs arr hP hS hh)
theorem zb_bmod {x : Int} {n : Nat} (h : 0 < n) : -(n : Int) ≤ 2 * x.bmod n ∧ 2 * x.bmod n < n := by
  have h1 := Int.le_bmod (x := x) (m := n) h
  have h2 := Int.bmod_lt (x := x) (m := n) h
  omega
theorem zb_wrapL (x : Int) : Int64.ofInt (x.bmod 18446744073709551616) = Int64.ofInt x := by
  apply Int64.toInt_inj.mp
  rw [Int64.toInt_ofInt, Int64.toInt_ofInt]
  exact Int.bmod_bmod
theorem zb_wrapI (x : Int) : Int32.ofInt (x.bmod 4294967296) = Int32.ofInt x := by
  apply Int32.toInt_inj.mp
  rw [Int32.toInt_ofInt, Int32.toInt_ofInt]
  exact Int.bmod_bmod
theorem zr_lshlw (S : zS G X cc nL Ts own ret) {x y : Int} (hd : decode cc pc = .ok (.lshl, 1)) (h0 : 0 ≤ y) (h1 : y < 64) (kk : zK G R nL q X b (pc + 1) ls (zL ((x * 2 ^ y.toNat).bmod 18446744073709551616) :: st) M) : zK G R nL q X b pc ls (zI y :: zL x :: st) M := by
  intro ho hl hM H locs arr hP hS hh
  have e2 : y = (y.toNat : Int) := (Int.toNat_of_nonneg h0).symm
  have e : Int64.ofInt x <<< ((Int32.ofInt y).toInt64 &&& 63) = Int64.ofInt ((x * 2 ^ y.toNat).bmod 18446744073709551616) := by
    rw [zb_wrapL]
    exact zb_shlL x _ y.toNat (by rw [e2, zb_n]; exact zb_slL y.toNat (by omega))
  have hb := zb_bmod (x := x * 2 ^ y.toNat) (n := 18446744073709551616) (by decide)
  exact lv_lshl S.1.1 S.1.2.1 hd e (kk (zokc (v := zL _) ⟨by omega, by omega⟩ (zokt (zokt ho))) hl hM H locs arr hP hS hh)
theorem zr_l2iw (S : zS G X cc nL Ts own ret) {x : Int} (hd : decode cc pc = .ok (.l2i, 1)) (kk : zK G R nL q X b (pc + 1) ls (zI (x.bmod 4294967296) :: st) M) : zK G R nL q X b pc ls (zL x :: st) M := by
  intro ho hl hM H locs arr hP hS hh
  have hb := zb_bmod (x := x) (n := 4294967296) (by decide)
  exact lv_l2i S.1.1 S.1.2.1 hd (by rw [zb_wrapI]; exact Int64.toInt32_ofInt) (kk (zokc (v := zI _) ⟨by omega, by omega⟩ (zokt ho)) hl hM H locs arr hP hS hh)
theorem zr_i2b (S : zS G X cc nL Ts own ret) {x : Int} (hd : decode cc pc = .ok (.i2b, 1)) (kk : zK G R nL q X b (pc + 1) ls (zI (x.bmod 256) :: st) M) : zK G R nL q X b pc ls (zI x :: st) M := by
  intro ho hl hM H locs arr hP hS hh
  have hb := zb_bmod (x := x) (n := 256) (by decide)
  refine lv_i2b S.1.1 S.1.2.1 hd (v := Int32.ofInt (x.bmod 256)) ?_ (kk (zokc (v := zI _) ⟨by omega, by omega⟩ (zokt ho)) hl hM H locs arr hP hS hh)
  apply Int32.toInt_inj.mp
  rw [Int8.toInt_toInt32, Int32.toInt_toInt8, zI_toInt (zokh ho), zI_toInt ⟨by omega, by omega⟩]
theorem zr_i2s (S : zS G X cc nL Ts own ret) {x : Int} (hd : decode cc pc = .ok (.i2s, 1)) (kk : zK G R nL q X b (pc + 1) ls (zI (x.bmod 65536) :: st) M) : zK G R nL q X b pc ls (zI x :: st) M := by
  intro ho hl hM H locs arr hP hS hh
  have hb := zb_bmod (x := x) (n := 65536) (by decide)
  refine lv_i2s S.1.1 S.1.2.1 hd (v := Int32.ofInt (x.bmod 65536)) ?_ (kk (zokc (v := zI _) ⟨by omega, by omega⟩ (zokt ho)) hl hM H locs arr hP hS hh)
  apply Int32.toInt_inj.mp
  rw [Int16.toInt_toInt32, Int32.toInt_toInt16, zI_toInt (zokh ho), zI_toInt ⟨by omega, by omega⟩]
theorem zr_tswOut (S : zS G X cc nL Ts own ret) {dflt lo hi x : Int} {offs : Array Int} {len tgt : Nat} (hd : decode cc pc = .ok (.tableswitch dflt lo hi offs, len)) (h : x < lo ∨ hi < x) (ht : (pc : Int) + dflt = (tgt : Int)) (kk : zK G R nL q X b tgt ls st M) : zK G R nL q X b pc ls (zI x :: st) M := by
  intro ho hl hM H locs arr hP hS hh
  exact lv_tableOut S.1.1 S.1.2.1 hd (by rw [zI_toInt (zokh ho)]; exact h) ht (kk (zokt ho) hl hM H locs arr hP hS hh)
theorem zr_tswIn (S : zS G X cc nL Ts own ret) {dflt lo hi x off : Int} {offs : Array Int} {len tgt : Nat} (hd : decode cc pc = .ok (.tableswitch dflt lo hi offs, len)) (h1 : lo ≤ x) (h2 : x ≤ hi) (h3 : offs[(x - lo).toNat]? = some off) (ht : (pc : Int) + off = (tgt : Int)) (kk : zK G R nL q X b tgt ls st M) : zK G R nL q X b pc ls (zI x :: st) M := by
  intro ho hl hM H locs arr hP hS hh
  have hx : (Int32.ofInt x).toInt = x := zI_toInt (zokh ho)
  exact lv_tableIn S.1.1 S.1.2.1 hd (by rw [hx]; omega) (by rw [hx]; omega) (by rw [hx]; exact h3) ht (kk (zokt ho) hl hM H locs arr hP hS hh)
def zml_acopy (Ts : List Cond) (own : String) (i : Nat) : Prop := Cond.methodLink own i arraycopyName ∈ Ts ∧ Cond.native arraycopyName ∈ Ts ∧ Cond.static arraycopyName ∈ Ts ∧ Cond.initialized "java/lang/System" ∈ Ts
theorem zr_acopy (S : zS G X cc nL Ts own ret) {i k0 k1 n0 n1 : Nat} {m : Int} (hw : zml_acopy Ts own i) (hd : decode cc pc = .ok (.invokestatic i, 3)) (hY0 : G.1 k0 = .inl (0, n0)) (hY1 : G.1 k1 = .inl (0, n1)) (hk0 : k0 < G.2.2.1) (hk1 : k1 < G.2.2.1) (h0 : 0 ≤ m) (h1 : m ≤ n0) (h2 : m ≤ n1) (hf : 1 ≤ R.frames) (hl9 : zdep st + 18 ≤ R.locals) (kk : zK G R nL q X b (pc + 3) ls st (fun k j => if k = k1 then (if j < m.toNat then M k0 j else M k1 j) else M k j)) : zK G R nL q X b pc ls (zI m :: zI 0 :: zR k1 :: zI 0 :: zR k0 :: st) M := by
  intro ho hl hM H locs arr hP hS hh
  have hm : zrI m := zokh ho
  have he0 := zw_get (Y := G.1) (E := G.2.1) (M := M) hk0
  have he1 := zw_get (Y := G.1) (E := G.2.1) (M := M) hk1
  rw [hY0] at he0
  rw [hY1] at he1
  have ez : (Int32.ofInt 0).toNatClampNeg = 0 := rfl
  have em : (Int32.ofInt m).toNatClampNeg = m.toNat := by
    show (Int32.ofInt m).toInt.toNat = m.toNat
    rw [zI_toInt hm]
  have hM' : zokM G.1 (fun k j => if k = k1 then (if j < m.toNat then M k0 j else M k1 j) else M k j) := by
    intro k j
    show zrT (G.1 k) j (if k = k1 then (if j < m.toNat then M k0 j else M k1 j) else M k j)
    by_cases e : k = k1
    · rw [if_pos e]
      subst e
      by_cases e2 : j < m.toNat
      · rw [if_pos e2, hY1]
        have := hM k0 j
        rw [hY0] at this
        exact this
      · rw [if_neg e2]; exact hM k j
    · rw [if_neg e]; exact hM k j
  refine va_copyi (D := G.2.1.1) (ty := .int) S.1.1 S.1.2.1 (by rw [S.1.2.2.1, hh.1]) S.1.2.2.2.1 (S.1.2.2.2.2 _ hw.1) (S.1.2.2.2.2 _ hw.2.1) (S.1.2.2.2.2 _ hw.2.2.1) (S.1.2.2.2.2 _ hw.2.2.2) S.2.1 hP (zw_D S.2.2.1) hS k0 k1 0 0 he0 he1 rfl rfl rfl (by decide) (by decide) (fun z => by have := (zI_lt hm zrI_0).mp z; omega) (by rw [ez, em]; omega) (by rw [ez, em]; omega) (fun i hi => rfl) hf (by rw [zdep_eq]; show _ + (5 + 2 + 11) ≤ _; omega) hd (fun H1 locs1 hP1 _ hS1 => ?_)
  refine kk (zokt (zokt (zokt (zokt (zokt ho))))) hl hM' H1 locs1 arr ?_ hS1 hh
  rw [ez, em] at hP1
  rw [← zw_set (M := M) hk1 ?_ (fun i hi => ?_)]
  · exact hP1
  · rw [hY1]
    show Sum.inl _ = Sum.inl _
    congr 3
    show Sum.inl _ = Sum.inl _
    congr 1
    funext j
    simp only [va_cpy, Nat.zero_le, true_and, Nat.zero_add, Nat.sub_zero, if_true]
    by_cases hj : j < m.toNat
    · simp [hj]
    · simp [hj]
  · funext j
    simp [hi]
end
