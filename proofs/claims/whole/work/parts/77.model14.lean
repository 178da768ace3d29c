section
def putR (t : Nat → Int) (n k : Nat) (c r w : Int) : Nat → Int := rUp (rUp (rUp (rUp (rUp (rUp t (357 + 4 * n) k) (358 + 4 * n) c) (359 + 4 * n) w) (360 + 4 * n) r) (343 + k) (t (343 + k) + r)) 3 ((n : Int) + 1)
theorem zrow6 {M : zM} {t : Nat → Int} {n k : Nat} {c r w x : Int} (e : M 181 = t) (h : t (343 + k) + r = x) : zup (zup (zup (zup (zup (zup M 181 (357 + 4 * n) k) 181 (358 + 4 * n) c) 181 (359 + 4 * n) w) 181 (360 + 4 * n) r) 181 (343 + k) x) 181 3 ((n : Int) + 1) = zrow M 181 (putR t n k c r w) := by
  subst h
  subst e
  unfold putR
  rw [← zrow_up, ← zrow_up, ← zrow_up, ← zrow_up, ← zrow_up, ← zrow_up, zrow_s]
set_option maxRecDepth 20000 in
set_option maxHeartbeats 4000000 in
theorem pt_X12_put {E : zE} {X : zX} {Qp : Option zV → zM → Prop} {M : zM} {w b r y : Int} {s k n : Nat} (S : zS (zg E) X cX12_put 8 wzX12_put RX12 (some .int)) (hs : ICs (vm M)) (h3 : M 181 3 = n) (hn : n < 12) (hk : k < 8) (s8 : s < 8) (hy : 0 ≤ y ∧ y < 3) (hw : -1000000 ≤ M 181 (343 + k) ∧ M 181 (343 + k) ≤ 1000000) (hQ : Qp (some (zI k)) (zrow M 181 (putR (M 181) n k (if y = 2 then -1 else s) (putT y) (putT y * vm M 4 k)))) : zK (zg E) rmX12_put 8 (Qp, 0, 0) X (0, 0) 101 [some (zR 180), some (zI s), some (zI w), some (zI b), some (zI r), some (zI y), some (zI k), none] [] M := by
  have q0 : ((357 : Int) + 4 * (n : Int)).toNat = 357 + 4 * n := by omega
  have q1 : ((357 : Int) + 4 * (n : Int) + 1).toNat = 358 + 4 * n := by omega
  have q2 : ((357 : Int) + 4 * (n : Int) + 2).toNat = 359 + 4 * n := by omega
  have q3 : ((357 : Int) + 4 * (n : Int) + 3).toNat = 360 + 4 * n := by omega
  have qw : ((343 : Int) + (k : Int)).toNat = 343 + k := by omega
  have vv9 := hs.v (k := k) (by omega) (by omega)
  rw [Int.toNat_natCast] at vv9
  have ev : vm M 4 k = M 181 (15 + 11 * k) := vm_val hk
  have zo : ∀ (N : zM) (o i : Nat) (v : Int), i ≠ o → zup N 181 o v 181 i = N 181 i := fun N o i v h => zup_j h
  have eo : ∀ (N : zM) (a c : Int), zup (zup N 181 (357 + 4 * n) a) 181 (358 + 4 * n) c 181 (15 + 11 * (k : Int).toNat + Int.toNat 0) = N 181 (15 + 11 * k) := fun N a c => by
    rw [Int.toNat_natCast, show 15 + 11 * k + Int.toNat 0 = 15 + 11 * k from rfl, zo _ _ _ _ (by omega), zo _ _ _ _ (by omega)]
  have ew : ∀ (a c d f : Int), zup (zup (zup (zup M 181 (357 + 4 * n) a) 181 (358 + 4 * n) c) 181 (359 + 4 * n) d) 181 (360 + 4 * n) f 181 (343 + k) = M 181 (343 + k) := fun a c d f => by
    rw [zo _ _ _ _ (by omega), zo _ _ _ _ (by omega), zo _ _ _ _ (by omega), zo _ _ _ _ (by omega)]
  have e4 : ∀ (N : zM) (f : Int), zup N 181 (360 + 4 * n) f 181 (360 + 4 * n) = f := fun N f => zup_e
  have e3 : ∀ (a c d f g : Int), zup (zup (zup (zup (zup M 181 (357 + 4 * n) a) 181 (358 + 4 * n) c) 181 (359 + 4 * n) d) 181 (360 + 4 * n) f) 181 (343 + k) g 181 3 = n := fun a c d f g => by
    rw [zo _ _ _ _ (by omega), zo _ _ _ _ (by omega), zo _ _ _ _ (by omega), zo _ _ _ _ (by omega), zo _ _ _ _ (by omega), h3]
  unfold putT at hQ
  rw [ev] at hQ vv9
  by_cases y1 : y = 1
  · rw [if_neg (by omega), if_pos y1] at hQ
    refine zr_sipush (pc := 101) S dX12_put_101 ⟨by unfold zrI; omega, by decide⟩ ?_
    refine zr_iconst (pc := 104) S dX12_put_104 (by unfold zrI; omega) ?_
    refine zr_aload_n (pc := 105) S dX12_put_105 rfl ?_
    refine zr_getR (pc := 106) S fX12_put_9 dX12_put_106 rfl (Nat.le_of_ble_eq_true rfl) rfl ?_
    refine zr_iconst (pc := 109) S dX12_put_109 (by unfold zrI; omega) ?_
    refine zr_iaload (pc := 110) S dX12_put_110 rfl (Nat.le_of_ble_eq_true rfl) (by omega) (by omega) ?_
    dsimp only [Int.reduceToNat]
    rw [h3]
    refine zr_imul (pc := 111) S dX12_put_111 (by unfold zrI; omega) ?_
    refine zr_iadd (pc := 112) S dX12_put_112 (by unfold zrI; omega) ?_
    refine zr_istore (pc := 113) S dX12_put_113 (by decide) ?_
    dsimp only [zst1, zst2, zset, zget, zlong]
    refine zr_aload_n (pc := 115) S dX12_put_115 rfl ?_
    refine zr_getR (pc := 116) S fX12_put_9 dX12_put_116 rfl (Nat.le_of_ble_eq_true rfl) rfl ?_
    refine zr_iload (pc := 119) S dX12_put_119 rfl ?_
    refine zr_iload (pc := 121) S dX12_put_121 rfl ?_
    refine zr_iastore (pc := 123) S dX12_put_123 rfl (Nat.le_of_ble_eq_true rfl) (by omega) (by omega) ?_
    rw [q0]
    refine zr_aload_n (pc := 124) S dX12_put_124 rfl ?_
    refine zr_getR (pc := 125) S fX12_put_9 dX12_put_125 rfl (Nat.le_of_ble_eq_true rfl) rfl ?_
    try simp only [zup_k, zup_e, ne_eq, Nat.reduceEqDiff, not_false_eq_true, zup_j]
    refine zr_iload (pc := 128) S dX12_put_128 rfl ?_
    refine zr_iconst (pc := 130) S dX12_put_130 (by unfold zrI; omega) ?_
    refine zr_iadd (pc := 131) S dX12_put_131 (by unfold zrI; omega) ?_
    refine zr_iload (pc := 132) S dX12_put_132 rfl ?_
    refine zr_iconst (pc := 134) S dX12_put_134 (by unfold zrI; omega) ?_
    refine zr_icmp_ne (pc := 135) (tgt := 142) S dX12_put_135 (by decide) (fun c135 => ?_) (fun c135 => absurd c135 (by omega))
    refine zr_iload_n (pc := 142) S dX12_put_142 rfl ?_
    refine zr_iastore (pc := 143) S dX12_put_143 rfl (Nat.le_of_ble_eq_true rfl) (by omega) (by omega) ?_
    rw [q1]
    refine zr_aload_n (pc := 144) S dX12_put_144 rfl ?_
    refine zr_getR (pc := 145) S fX12_put_9 dX12_put_145 rfl (Nat.le_of_ble_eq_true rfl) rfl ?_
    try simp only [zup_k, zup_e, ne_eq, Nat.reduceEqDiff, not_false_eq_true, zup_j]
    refine zr_iload (pc := 148) S dX12_put_148 rfl ?_
    refine zr_iconst (pc := 150) S dX12_put_150 (by unfold zrI; omega) ?_
    refine zr_iadd (pc := 151) S dX12_put_151 (by unfold zrI; omega) ?_
    refine zr_iload (pc := 152) S dX12_put_152 rfl ?_
    refine zr_iconst (pc := 154) S dX12_put_154 (by unfold zrI; omega) ?_
    refine zr_icmp_ne (pc := 155) (tgt := 170) S dX12_put_155 (by decide) (fun c155 => absurd c155 (by omega)) (fun c155 => ?_)
    refine zr_iconst (pc := 158) S dX12_put_158 (by unfold zrI; omega) ?_
    refine zr_aload_n (pc := 159) S dX12_put_159 rfl ?_
    refine zr_iload (pc := 160) S dX12_put_160 rfl ?_
    refine zr_iconst (pc := 162) S dX12_put_162 (by unfold zrI; omega) ?_
    refine zr_invV (pc := 163) S [zI _, zI _] (m_X12_of _) kX12_put_117 dX12_put_163 rfl (Nat.le_of_ble_eq_true rfl) rfl (Nat.le_of_ble_eq_true rfl) ⟨Nat.le_of_ble_eq_true rfl, Nat.le_of_ble_eq_true rfl⟩ (us_X12_of (by omega) (by omega) (by decide) (by decide) ?_)
    dsimp only [zaft, Option.toList, List.cons_append, List.nil_append, Nat.add_zero]
    rw [eo]
    refine zr_imul (pc := 166) S dX12_put_166 (by unfold zrI; omega) ?_
    refine zr_goto (pc := 167) (tgt := 177) S dX12_put_167 (by decide) ?_
    refine zr_iastore (pc := 177) S dX12_put_177 rfl (Nat.le_of_ble_eq_true rfl) (by omega) (by omega) ?_
    rw [q2]
    refine zr_aload_n (pc := 178) S dX12_put_178 rfl ?_
    refine zr_getR (pc := 179) S fX12_put_9 dX12_put_179 rfl (Nat.le_of_ble_eq_true rfl) rfl ?_
    try simp only [zup_k, zup_e, ne_eq, Nat.reduceEqDiff, not_false_eq_true, zup_j]
    refine zr_iload (pc := 182) S dX12_put_182 rfl ?_
    refine zr_iconst (pc := 184) S dX12_put_184 (by unfold zrI; omega) ?_
    refine zr_iadd (pc := 185) S dX12_put_185 (by unfold zrI; omega) ?_
    refine zr_iload (pc := 186) S dX12_put_186 rfl ?_
    refine zr_iconst (pc := 188) S dX12_put_188 (by unfold zrI; omega) ?_
    refine zr_icmp_ne (pc := 189) (tgt := 196) S dX12_put_189 (by decide) (fun c189 => absurd c189 (by omega)) (fun c189 => ?_)
    refine zr_iconst (pc := 192) S dX12_put_192 (by unfold zrI; omega) ?_
    refine zr_goto (pc := 193) (tgt := 197) S dX12_put_193 (by decide) ?_
    refine zr_iastore (pc := 197) S dX12_put_197 rfl (Nat.le_of_ble_eq_true rfl) (by omega) (by omega) ?_
    rw [q3]
    refine zr_aload_n (pc := 198) S dX12_put_198 rfl ?_
    refine zr_getR (pc := 199) S fX12_put_9 dX12_put_199 rfl (Nat.le_of_ble_eq_true rfl) rfl ?_
    try simp only [zup_k, zup_e, ne_eq, Nat.reduceEqDiff, not_false_eq_true, zup_j]
    refine zr_sipush (pc := 202) S dX12_put_202 ⟨by unfold zrI; omega, by decide⟩ ?_
    refine zr_iload (pc := 205) S dX12_put_205 rfl ?_
    refine zr_iadd (pc := 207) S dX12_put_207 (by unfold zrI; omega) ?_
    refine zr_dup2 (pc := 208) S dX12_put_208 rfl rfl ?_
    refine zr_iaload (pc := 209) S dX12_put_209 rfl (Nat.le_of_ble_eq_true rfl) (by omega) (by omega) ?_
    try simp only [zup_k, zup_e, ne_eq, Nat.reduceEqDiff, not_false_eq_true]
    rw [qw, ew]
    refine zr_aload_n (pc := 210) S dX12_put_210 rfl ?_
    refine zr_getR (pc := 211) S fX12_put_9 dX12_put_211 rfl (Nat.le_of_ble_eq_true rfl) rfl ?_
    try simp only [zup_k, zup_e, ne_eq, Nat.reduceEqDiff, not_false_eq_true, zup_j]
    refine zr_iload (pc := 214) S dX12_put_214 rfl ?_
    refine zr_iconst (pc := 216) S dX12_put_216 (by unfold zrI; omega) ?_
    refine zr_iadd (pc := 217) S dX12_put_217 (by unfold zrI; omega) ?_
    refine zr_iaload (pc := 218) S dX12_put_218 rfl (Nat.le_of_ble_eq_true rfl) (by omega) (by omega) ?_
    try simp only [zup_k, zup_e, ne_eq, Nat.reduceEqDiff, not_false_eq_true]
    rw [q3, e4]
    refine zr_iadd (pc := 219) S dX12_put_219 (by unfold zrI; omega) ?_
    refine zr_iastore (pc := 220) S dX12_put_220 rfl (Nat.le_of_ble_eq_true rfl) (by omega) (by omega) ?_
    rw [qw]
    refine zr_aload_n (pc := 221) S dX12_put_221 rfl ?_
    refine zr_getR (pc := 222) S fX12_put_9 dX12_put_222 rfl (Nat.le_of_ble_eq_true rfl) rfl ?_
    try simp only [zup_k, zup_e, ne_eq, Nat.reduceEqDiff, not_false_eq_true, zup_j]
    refine zr_iconst (pc := 225) S dX12_put_225 (by unfold zrI; omega) ?_
    refine zr_dup2 (pc := 226) S dX12_put_226 rfl rfl ?_
    refine zr_iaload (pc := 227) S dX12_put_227 rfl (Nat.le_of_ble_eq_true rfl) (by omega) (by omega) ?_
    dsimp only [Int.reduceToNat]
    try simp only [zup_k, zup_e, ne_eq, Nat.reduceEqDiff, not_false_eq_true]
    rw [e3]
    refine zr_iconst (pc := 228) S dX12_put_228 (by unfold zrI; omega) ?_
    refine zr_iadd (pc := 229) S dX12_put_229 (by unfold zrI; omega) ?_
    refine zr_iastore (pc := 230) S dX12_put_230 rfl (Nat.le_of_ble_eq_true rfl) (by omega) (by omega) ?_
    refine zr_iload (pc := 231) S dX12_put_231 rfl ?_
    exact zr_iret (pc := 233) S dX12_put_233 rfl ⟨Nat.le_refl _, Nat.le_refl _⟩ (zqm hQ (zrow6 rfl rfl))
  · rw [if_neg y1] at hQ
    rw [Int.one_mul] at hQ
    by_cases y2 : y = 2
    · rw [if_pos y2] at hQ
      refine zr_sipush (pc := 101) S dX12_put_101 ⟨by unfold zrI; omega, by decide⟩ ?_
      refine zr_iconst (pc := 104) S dX12_put_104 (by unfold zrI; omega) ?_
      refine zr_aload_n (pc := 105) S dX12_put_105 rfl ?_
      refine zr_getR (pc := 106) S fX12_put_9 dX12_put_106 rfl (Nat.le_of_ble_eq_true rfl) rfl ?_
      refine zr_iconst (pc := 109) S dX12_put_109 (by unfold zrI; omega) ?_
      refine zr_iaload (pc := 110) S dX12_put_110 rfl (Nat.le_of_ble_eq_true rfl) (by omega) (by omega) ?_
      dsimp only [Int.reduceToNat]
      rw [h3]
      refine zr_imul (pc := 111) S dX12_put_111 (by unfold zrI; omega) ?_
      refine zr_iadd (pc := 112) S dX12_put_112 (by unfold zrI; omega) ?_
      refine zr_istore (pc := 113) S dX12_put_113 (by decide) ?_
      dsimp only [zst1, zst2, zset, zget, zlong]
      refine zr_aload_n (pc := 115) S dX12_put_115 rfl ?_
      refine zr_getR (pc := 116) S fX12_put_9 dX12_put_116 rfl (Nat.le_of_ble_eq_true rfl) rfl ?_
      refine zr_iload (pc := 119) S dX12_put_119 rfl ?_
      refine zr_iload (pc := 121) S dX12_put_121 rfl ?_
      refine zr_iastore (pc := 123) S dX12_put_123 rfl (Nat.le_of_ble_eq_true rfl) (by omega) (by omega) ?_
      rw [q0]
      refine zr_aload_n (pc := 124) S dX12_put_124 rfl ?_
      refine zr_getR (pc := 125) S fX12_put_9 dX12_put_125 rfl (Nat.le_of_ble_eq_true rfl) rfl ?_
      try simp only [zup_k, zup_e, ne_eq, Nat.reduceEqDiff, not_false_eq_true, zup_j]
      refine zr_iload (pc := 128) S dX12_put_128 rfl ?_
      refine zr_iconst (pc := 130) S dX12_put_130 (by unfold zrI; omega) ?_
      refine zr_iadd (pc := 131) S dX12_put_131 (by unfold zrI; omega) ?_
      refine zr_iload (pc := 132) S dX12_put_132 rfl ?_
      refine zr_iconst (pc := 134) S dX12_put_134 (by unfold zrI; omega) ?_
      refine zr_icmp_ne (pc := 135) (tgt := 142) S dX12_put_135 (by decide) (fun c135 => absurd c135 (by omega)) (fun c135 => ?_)
      refine zr_iconst (pc := 138) S dX12_put_138 (by unfold zrI; omega) ?_
      refine zr_goto (pc := 139) (tgt := 143) S dX12_put_139 (by decide) ?_
      refine zr_iastore (pc := 143) S dX12_put_143 rfl (Nat.le_of_ble_eq_true rfl) (by omega) (by omega) ?_
      rw [q1]
      refine zr_aload_n (pc := 144) S dX12_put_144 rfl ?_
      refine zr_getR (pc := 145) S fX12_put_9 dX12_put_145 rfl (Nat.le_of_ble_eq_true rfl) rfl ?_
      try simp only [zup_k, zup_e, ne_eq, Nat.reduceEqDiff, not_false_eq_true, zup_j]
      refine zr_iload (pc := 148) S dX12_put_148 rfl ?_
      refine zr_iconst (pc := 150) S dX12_put_150 (by unfold zrI; omega) ?_
      refine zr_iadd (pc := 151) S dX12_put_151 (by unfold zrI; omega) ?_
      refine zr_iload (pc := 152) S dX12_put_152 rfl ?_
      refine zr_iconst (pc := 154) S dX12_put_154 (by unfold zrI; omega) ?_
      refine zr_icmp_ne (pc := 155) (tgt := 170) S dX12_put_155 (by decide) (fun c155 => ?_) (fun c155 => absurd c155 (by omega))
      refine zr_aload_n (pc := 170) S dX12_put_170 rfl ?_
      refine zr_iload (pc := 171) S dX12_put_171 rfl ?_
      refine zr_iconst (pc := 173) S dX12_put_173 (by unfold zrI; omega) ?_
      refine zr_invV (pc := 174) S [zI _, zI _] (m_X12_of _) kX12_put_117 dX12_put_174 rfl (Nat.le_of_ble_eq_true rfl) rfl (Nat.le_of_ble_eq_true rfl) ⟨Nat.le_of_ble_eq_true rfl, Nat.le_of_ble_eq_true rfl⟩ (us_X12_of (by omega) (by omega) (by decide) (by decide) ?_)
      dsimp only [zaft, Option.toList, List.cons_append, List.nil_append, Nat.add_zero]
      rw [eo]
      refine zr_iastore (pc := 177) S dX12_put_177 rfl (Nat.le_of_ble_eq_true rfl) (by omega) (by omega) ?_
      rw [q2]
      refine zr_aload_n (pc := 178) S dX12_put_178 rfl ?_
      refine zr_getR (pc := 179) S fX12_put_9 dX12_put_179 rfl (Nat.le_of_ble_eq_true rfl) rfl ?_
      try simp only [zup_k, zup_e, ne_eq, Nat.reduceEqDiff, not_false_eq_true, zup_j]
      refine zr_iload (pc := 182) S dX12_put_182 rfl ?_
      refine zr_iconst (pc := 184) S dX12_put_184 (by unfold zrI; omega) ?_
      refine zr_iadd (pc := 185) S dX12_put_185 (by unfold zrI; omega) ?_
      refine zr_iload (pc := 186) S dX12_put_186 rfl ?_
      refine zr_iconst (pc := 188) S dX12_put_188 (by unfold zrI; omega) ?_
      refine zr_icmp_ne (pc := 189) (tgt := 196) S dX12_put_189 (by decide) (fun c189 => ?_) (fun c189 => absurd c189 (by omega))
      refine zr_iconst (pc := 196) S dX12_put_196 (by unfold zrI; omega) ?_
      refine zr_iastore (pc := 197) S dX12_put_197 rfl (Nat.le_of_ble_eq_true rfl) (by omega) (by omega) ?_
      rw [q3]
      refine zr_aload_n (pc := 198) S dX12_put_198 rfl ?_
      refine zr_getR (pc := 199) S fX12_put_9 dX12_put_199 rfl (Nat.le_of_ble_eq_true rfl) rfl ?_
      try simp only [zup_k, zup_e, ne_eq, Nat.reduceEqDiff, not_false_eq_true, zup_j]
      refine zr_sipush (pc := 202) S dX12_put_202 ⟨by unfold zrI; omega, by decide⟩ ?_
      refine zr_iload (pc := 205) S dX12_put_205 rfl ?_
      refine zr_iadd (pc := 207) S dX12_put_207 (by unfold zrI; omega) ?_
      refine zr_dup2 (pc := 208) S dX12_put_208 rfl rfl ?_
      refine zr_iaload (pc := 209) S dX12_put_209 rfl (Nat.le_of_ble_eq_true rfl) (by omega) (by omega) ?_
      try simp only [zup_k, zup_e, ne_eq, Nat.reduceEqDiff, not_false_eq_true]
      rw [qw, ew]
      refine zr_aload_n (pc := 210) S dX12_put_210 rfl ?_
      refine zr_getR (pc := 211) S fX12_put_9 dX12_put_211 rfl (Nat.le_of_ble_eq_true rfl) rfl ?_
      try simp only [zup_k, zup_e, ne_eq, Nat.reduceEqDiff, not_false_eq_true, zup_j]
      refine zr_iload (pc := 214) S dX12_put_214 rfl ?_
      refine zr_iconst (pc := 216) S dX12_put_216 (by unfold zrI; omega) ?_
      refine zr_iadd (pc := 217) S dX12_put_217 (by unfold zrI; omega) ?_
      refine zr_iaload (pc := 218) S dX12_put_218 rfl (Nat.le_of_ble_eq_true rfl) (by omega) (by omega) ?_
      try simp only [zup_k, zup_e, ne_eq, Nat.reduceEqDiff, not_false_eq_true]
      rw [q3, e4]
      refine zr_iadd (pc := 219) S dX12_put_219 (by unfold zrI; omega) ?_
      refine zr_iastore (pc := 220) S dX12_put_220 rfl (Nat.le_of_ble_eq_true rfl) (by omega) (by omega) ?_
      rw [qw]
      refine zr_aload_n (pc := 221) S dX12_put_221 rfl ?_
      refine zr_getR (pc := 222) S fX12_put_9 dX12_put_222 rfl (Nat.le_of_ble_eq_true rfl) rfl ?_
      try simp only [zup_k, zup_e, ne_eq, Nat.reduceEqDiff, not_false_eq_true, zup_j]
      refine zr_iconst (pc := 225) S dX12_put_225 (by unfold zrI; omega) ?_
      refine zr_dup2 (pc := 226) S dX12_put_226 rfl rfl ?_
      refine zr_iaload (pc := 227) S dX12_put_227 rfl (Nat.le_of_ble_eq_true rfl) (by omega) (by omega) ?_
      dsimp only [Int.reduceToNat]
      try simp only [zup_k, zup_e, ne_eq, Nat.reduceEqDiff, not_false_eq_true]
      rw [e3]
      refine zr_iconst (pc := 228) S dX12_put_228 (by unfold zrI; omega) ?_
      refine zr_iadd (pc := 229) S dX12_put_229 (by unfold zrI; omega) ?_
      refine zr_iastore (pc := 230) S dX12_put_230 rfl (Nat.le_of_ble_eq_true rfl) (by omega) (by omega) ?_
      refine zr_iload (pc := 231) S dX12_put_231 rfl ?_
      exact zr_iret (pc := 233) S dX12_put_233 rfl ⟨Nat.le_refl _, Nat.le_refl _⟩ (zqm hQ (zrow6 rfl rfl))
    · rw [if_neg y2] at hQ
      refine zr_sipush (pc := 101) S dX12_put_101 ⟨by unfold zrI; omega, by decide⟩ ?_
      refine zr_iconst (pc := 104) S dX12_put_104 (by unfold zrI; omega) ?_
      refine zr_aload_n (pc := 105) S dX12_put_105 rfl ?_
      refine zr_getR (pc := 106) S fX12_put_9 dX12_put_106 rfl (Nat.le_of_ble_eq_true rfl) rfl ?_
      refine zr_iconst (pc := 109) S dX12_put_109 (by unfold zrI; omega) ?_
      refine zr_iaload (pc := 110) S dX12_put_110 rfl (Nat.le_of_ble_eq_true rfl) (by omega) (by omega) ?_
      dsimp only [Int.reduceToNat]
      rw [h3]
      refine zr_imul (pc := 111) S dX12_put_111 (by unfold zrI; omega) ?_
      refine zr_iadd (pc := 112) S dX12_put_112 (by unfold zrI; omega) ?_
      refine zr_istore (pc := 113) S dX12_put_113 (by decide) ?_
      dsimp only [zst1, zst2, zset, zget, zlong]
      refine zr_aload_n (pc := 115) S dX12_put_115 rfl ?_
      refine zr_getR (pc := 116) S fX12_put_9 dX12_put_116 rfl (Nat.le_of_ble_eq_true rfl) rfl ?_
      refine zr_iload (pc := 119) S dX12_put_119 rfl ?_
      refine zr_iload (pc := 121) S dX12_put_121 rfl ?_
      refine zr_iastore (pc := 123) S dX12_put_123 rfl (Nat.le_of_ble_eq_true rfl) (by omega) (by omega) ?_
      rw [q0]
      refine zr_aload_n (pc := 124) S dX12_put_124 rfl ?_
      refine zr_getR (pc := 125) S fX12_put_9 dX12_put_125 rfl (Nat.le_of_ble_eq_true rfl) rfl ?_
      try simp only [zup_k, zup_e, ne_eq, Nat.reduceEqDiff, not_false_eq_true, zup_j]
      refine zr_iload (pc := 128) S dX12_put_128 rfl ?_
      refine zr_iconst (pc := 130) S dX12_put_130 (by unfold zrI; omega) ?_
      refine zr_iadd (pc := 131) S dX12_put_131 (by unfold zrI; omega) ?_
      refine zr_iload (pc := 132) S dX12_put_132 rfl ?_
      refine zr_iconst (pc := 134) S dX12_put_134 (by unfold zrI; omega) ?_
      refine zr_icmp_ne (pc := 135) (tgt := 142) S dX12_put_135 (by decide) (fun c135 => ?_) (fun c135 => absurd c135 (by omega))
      refine zr_iload_n (pc := 142) S dX12_put_142 rfl ?_
      refine zr_iastore (pc := 143) S dX12_put_143 rfl (Nat.le_of_ble_eq_true rfl) (by omega) (by omega) ?_
      rw [q1]
      refine zr_aload_n (pc := 144) S dX12_put_144 rfl ?_
      refine zr_getR (pc := 145) S fX12_put_9 dX12_put_145 rfl (Nat.le_of_ble_eq_true rfl) rfl ?_
      try simp only [zup_k, zup_e, ne_eq, Nat.reduceEqDiff, not_false_eq_true, zup_j]
      refine zr_iload (pc := 148) S dX12_put_148 rfl ?_
      refine zr_iconst (pc := 150) S dX12_put_150 (by unfold zrI; omega) ?_
      refine zr_iadd (pc := 151) S dX12_put_151 (by unfold zrI; omega) ?_
      refine zr_iload (pc := 152) S dX12_put_152 rfl ?_
      refine zr_iconst (pc := 154) S dX12_put_154 (by unfold zrI; omega) ?_
      refine zr_icmp_ne (pc := 155) (tgt := 170) S dX12_put_155 (by decide) (fun c155 => ?_) (fun c155 => absurd c155 (by omega))
      refine zr_aload_n (pc := 170) S dX12_put_170 rfl ?_
      refine zr_iload (pc := 171) S dX12_put_171 rfl ?_
      refine zr_iconst (pc := 173) S dX12_put_173 (by unfold zrI; omega) ?_
      refine zr_invV (pc := 174) S [zI _, zI _] (m_X12_of _) kX12_put_117 dX12_put_174 rfl (Nat.le_of_ble_eq_true rfl) rfl (Nat.le_of_ble_eq_true rfl) ⟨Nat.le_of_ble_eq_true rfl, Nat.le_of_ble_eq_true rfl⟩ (us_X12_of (by omega) (by omega) (by decide) (by decide) ?_)
      dsimp only [zaft, Option.toList, List.cons_append, List.nil_append, Nat.add_zero]
      rw [eo]
      refine zr_iastore (pc := 177) S dX12_put_177 rfl (Nat.le_of_ble_eq_true rfl) (by omega) (by omega) ?_
      rw [q2]
      refine zr_aload_n (pc := 178) S dX12_put_178 rfl ?_
      refine zr_getR (pc := 179) S fX12_put_9 dX12_put_179 rfl (Nat.le_of_ble_eq_true rfl) rfl ?_
      try simp only [zup_k, zup_e, ne_eq, Nat.reduceEqDiff, not_false_eq_true, zup_j]
      refine zr_iload (pc := 182) S dX12_put_182 rfl ?_
      refine zr_iconst (pc := 184) S dX12_put_184 (by unfold zrI; omega) ?_
      refine zr_iadd (pc := 185) S dX12_put_185 (by unfold zrI; omega) ?_
      refine zr_iload (pc := 186) S dX12_put_186 rfl ?_
      refine zr_iconst (pc := 188) S dX12_put_188 (by unfold zrI; omega) ?_
      refine zr_icmp_ne (pc := 189) (tgt := 196) S dX12_put_189 (by decide) (fun c189 => ?_) (fun c189 => absurd c189 (by omega))
      refine zr_iconst (pc := 196) S dX12_put_196 (by unfold zrI; omega) ?_
      refine zr_iastore (pc := 197) S dX12_put_197 rfl (Nat.le_of_ble_eq_true rfl) (by omega) (by omega) ?_
      rw [q3]
      refine zr_aload_n (pc := 198) S dX12_put_198 rfl ?_
      refine zr_getR (pc := 199) S fX12_put_9 dX12_put_199 rfl (Nat.le_of_ble_eq_true rfl) rfl ?_
      try simp only [zup_k, zup_e, ne_eq, Nat.reduceEqDiff, not_false_eq_true, zup_j]
      refine zr_sipush (pc := 202) S dX12_put_202 ⟨by unfold zrI; omega, by decide⟩ ?_
      refine zr_iload (pc := 205) S dX12_put_205 rfl ?_
      refine zr_iadd (pc := 207) S dX12_put_207 (by unfold zrI; omega) ?_
      refine zr_dup2 (pc := 208) S dX12_put_208 rfl rfl ?_
      refine zr_iaload (pc := 209) S dX12_put_209 rfl (Nat.le_of_ble_eq_true rfl) (by omega) (by omega) ?_
      try simp only [zup_k, zup_e, ne_eq, Nat.reduceEqDiff, not_false_eq_true]
      rw [qw, ew]
      refine zr_aload_n (pc := 210) S dX12_put_210 rfl ?_
      refine zr_getR (pc := 211) S fX12_put_9 dX12_put_211 rfl (Nat.le_of_ble_eq_true rfl) rfl ?_
      try simp only [zup_k, zup_e, ne_eq, Nat.reduceEqDiff, not_false_eq_true, zup_j]
      refine zr_iload (pc := 214) S dX12_put_214 rfl ?_
      refine zr_iconst (pc := 216) S dX12_put_216 (by unfold zrI; omega) ?_
      refine zr_iadd (pc := 217) S dX12_put_217 (by unfold zrI; omega) ?_
      refine zr_iaload (pc := 218) S dX12_put_218 rfl (Nat.le_of_ble_eq_true rfl) (by omega) (by omega) ?_
      try simp only [zup_k, zup_e, ne_eq, Nat.reduceEqDiff, not_false_eq_true]
      rw [q3, e4]
      refine zr_iadd (pc := 219) S dX12_put_219 (by unfold zrI; omega) ?_
      refine zr_iastore (pc := 220) S dX12_put_220 rfl (Nat.le_of_ble_eq_true rfl) (by omega) (by omega) ?_
      rw [qw]
      refine zr_aload_n (pc := 221) S dX12_put_221 rfl ?_
      refine zr_getR (pc := 222) S fX12_put_9 dX12_put_222 rfl (Nat.le_of_ble_eq_true rfl) rfl ?_
      try simp only [zup_k, zup_e, ne_eq, Nat.reduceEqDiff, not_false_eq_true, zup_j]
      refine zr_iconst (pc := 225) S dX12_put_225 (by unfold zrI; omega) ?_
      refine zr_dup2 (pc := 226) S dX12_put_226 rfl rfl ?_
      refine zr_iaload (pc := 227) S dX12_put_227 rfl (Nat.le_of_ble_eq_true rfl) (by omega) (by omega) ?_
      dsimp only [Int.reduceToNat]
      try simp only [zup_k, zup_e, ne_eq, Nat.reduceEqDiff, not_false_eq_true]
      rw [e3]
      refine zr_iconst (pc := 228) S dX12_put_228 (by unfold zrI; omega) ?_
      refine zr_iadd (pc := 229) S dX12_put_229 (by unfold zrI; omega) ?_
      refine zr_iastore (pc := 230) S dX12_put_230 rfl (Nat.le_of_ble_eq_true rfl) (by omega) (by omega) ?_
      refine zr_iload (pc := 231) S dX12_put_231 rfl ?_
      exact zr_iret (pc := 233) S dX12_put_233 rfl ⟨Nat.le_refl _, Nat.le_refl _⟩ (zqm hQ (zrow6 rfl rfl))
theorem ag_isCoin {M N : zM} (h : AG M N) (k w b r : Int) : isCoin N k w b r ↔ isCoin M k w b r := by
  unfold isCoin
  rw [ag_lowOf h, ag_lowOf h, ag_lowOf h, ag_highOf h, ag_highOf h, ag_highOf h]
theorem coin_r {M : zM} (hs : ICs M) {k w b r : Int} (h0 : 0 ≤ k) (h1 : k < 8) (h : isCoin M k w b r) : 0 ≤ r ∧ r ≤ 99 := by
  have := span_r hs h0 h1 (m := 2) (by omega) (by omega)
  have := h.2.2
  omega
def sp_X12_put (as : List zV) (M : zM) (Q : Option zV → zM → Prop) : Prop := ∃ (s w b r y : Int), as = [zR 180, zI s, zI w, zI b, zI r, zI y] ∧ (ICg (vm M)) ∧ (ICs (vm M)) ∧ (ICk (M 181)) ∧ (M 180 16 = -1) ∧ (0 ≤ M 181 3 ∧ M 181 3 ≤ 12) ∧ (∀ i : Nat, i < 8 → (-1000000 ≤ M 181 (343 + i) ∧ M 181 (343 + i) ≤ 1000000) ∧ (0 ≤ M 181 (327 + i) ∧ M 181 (327 + i) ≤ 1000000)) ∧ ((0 ≤ s ∧ s < M 181 0) → isCoin (vm M) s w b r → y = 3 → Q (some (zI s)) (zup (tz M 0) 181 (327 + s.toNat) (M 181 (327 + s.toNat) + 1))) ∧ ((0 ≤ s ∧ s < M 181 0) → isCoin (vm M) s w b r → (0 ≤ y ∧ y < 3) → (takes (vm M) w b r = -1 ∨ M 181 3 = 12) → Q (some (zI (-1))) (tz M 0)) ∧ ((0 ≤ s ∧ s < M 181 0) → isCoin (vm M) s w b r → (0 ≤ y ∧ y < 3) → ¬ takes (vm M) w b r = -1 → ¬ M 181 3 = 12 → Q (some (zI (takes (vm M) w b r))) (zrow (tz M 0) 181 (putR (M 181) (M 181 3).toNat (takes (vm M) w b r).toNat (if y = 2 then -1 else s) (putT y) (putT y * vm M 4 (takes (vm M) w b r).toNat)))) ∧ (¬ (0 ≤ s ∧ s < M 181 0) → Q (some (zI 0)) (tz (tz M 0) 1)) ∧ ((0 ≤ s ∧ s < M 181 0) → ¬ (isCoin (vm M) s w b r ∧ (0 ≤ y ∧ y ≤ 3)) → Q (some (zI 0)) (tz (tz M 0) 2))
theorem us_X12_put {s w b r y : Int} {M : zM} {Q : Option zV → zM → Prop} (hg : ICg (vm M)) (hs : ICs (vm M)) (hk : ICk (M 181)) (hm : M 180 16 = -1) (h3 : 0 ≤ M 181 3 ∧ M 181 3 ≤ 12) (hh : ∀ i : Nat, i < 8 → (-1000000 ≤ M 181 (343 + i) ∧ M 181 (343 + i) ≤ 1000000) ∧ (0 ≤ M 181 (327 + i) ∧ M 181 (327 + i) ≤ 1000000)) (hS : (0 ≤ s ∧ s < M 181 0) → isCoin (vm M) s w b r → y = 3 → Q (some (zI s)) (zup (tz M 0) 181 (327 + s.toNat) (M 181 (327 + s.toNat) + 1))) (hF : (0 ≤ s ∧ s < M 181 0) → isCoin (vm M) s w b r → (0 ≤ y ∧ y < 3) → (takes (vm M) w b r = -1 ∨ M 181 3 = 12) → Q (some (zI (-1))) (tz M 0)) (hQ : (0 ≤ s ∧ s < M 181 0) → isCoin (vm M) s w b r → (0 ≤ y ∧ y < 3) → ¬ takes (vm M) w b r = -1 → ¬ M 181 3 = 12 → Q (some (zI (takes (vm M) w b r))) (zrow (tz M 0) 181 (putR (M 181) (M 181 3).toNat (takes (vm M) w b r).toNat (if y = 2 then -1 else s) (putT y) (putT y * vm M 4 (takes (vm M) w b r).toNat)))) (hT : ¬ (0 ≤ s ∧ s < M 181 0) → Q (some (zI 0)) (tz (tz M 0) 1)) (hU : (0 ≤ s ∧ s < M 181 0) → ¬ (isCoin (vm M) s w b r ∧ (0 ≤ y ∧ y ≤ 3)) → Q (some (zI 0)) (tz (tz M 0) 2)) : sp_X12_put [zR 180, zI s, zI w, zI b, zI r, zI y] M Q := ⟨s, w, b, r, y, rfl, hg, hs, hk, hm, h3, hh, hS, hF, hQ, hT, hU⟩
set_option maxRecDepth 20000 in
set_option maxHeartbeats 4000000 in
theorem m_X12_put (l : Launch) : zC l yX12_put wzX12_put rmX12_put sp_X12_put := by
  refine zMet.of RX12 (by decide +kernel) rfl rfl ?_
  intro E X as M Qp hX S hsp
  obtain ⟨s, w, b, r, y, rfl, hg, hs, hk, hm, h3, hh, hS, hF, hQ, hT, hU⟩ := hsp
  refine ⟨Nat.le_of_ble_eq_true rfl, ?_⟩
  dsimp only [zpad, zargs]
  have h0 : 0 ≤ M 181 0 ∧ M 181 0 ≤ 8 := hs.1
  have et : tz M 0 181 = M 181 := zup_o _ (by decide)
  have et3 : tz M 0 181 3 = M 181 3 := by rw [et]
  have tk := takes_r hg w b r
  have e : takes (vv (tz M 0)) w b r = takes (vm M) w b r := by rw [tz_vv hm]; exact ag_takes (tz_ag M 0) w b r
  have ec : b01 (isCoin (vm (tz M 0)) s w b r) = b01 (isCoin (vm M) s w b r) := by unfold b01; simp only [ag_isCoin (tz_ag M 0)]
  have key : (0 ≤ s ∧ s < M 181 0) → isCoin (vm M) s w b r → (0 ≤ y ∧ y < 3) → zK (zg E) rmX12_put 8 (Qp, 0, 0) X (0, 0) 72 [some (zR 180), some (zI s), some (zI w), some (zI b), some (zI r), some (zI y), none, none] [] (tz M 0) := by
    intro c1 c2 c3
    have f1 := hF c1 c2 c3
    have f2 := hQ c1 c2 c3
    obtain ⟨s, rfl⟩ : ∃ n : Nat, s = n := ⟨s.toNat, by omega⟩
    have f3 : ∀ z1 : ¬ takes (vm M) w b r = -1, ∀ z2 : ¬ M 181 3 = 12, zK (zg E) rmX12_put 8 (Qp, 0, 0) X (0, 0) 101 [some (zR 180), some (zI s), some (zI w), some (zI b), some (zI r), some (zI y), some (zI (takes (vm M) w b r)), none] [] (tz M 0) := by
      intro z1 z2
      have f2 := f2 z1 z2
      obtain ⟨k, hkk⟩ : ∃ k : Nat, takes (vm M) w b r = k := ⟨(takes (vm M) w b r).toNat, by omega⟩
      obtain ⟨n, hn⟩ : ∃ n : Nat, M 181 3 = n := ⟨(M 181 3).toNat, by omega⟩
      rw [hkk, hn, Int.toNat_natCast, Int.toNat_natCast] at f2
      rw [hkk]
      have ww := hh k (by omega)
      exact pt_X12_put S ((tz_ag M 0).s hs) (by rw [et]; exact hn) (by omega) (by omega) (by omega) c3 (by rw [et]; exact ww.1) (by rw [et, tz_ag M 0 4 (by decide)]; exact f2)
    refine zr_aload_n (pc := 72) S dX12_put_72 rfl ?_
    refine zr_iload_n (pc := 73) S dX12_put_73 rfl ?_
    refine zr_iload_n (pc := 74) S dX12_put_74 rfl ?_
    refine zr_iload (pc := 75) S dX12_put_75 rfl ?_
    refine zr_invV (pc := 77) S [zI _, zI _, zI _] (m_X12_takenOf _) kX12_put_258 dX12_put_77 rfl (Nat.le_of_ble_eq_true rfl) rfl (Nat.le_of_ble_eq_true rfl) ⟨Nat.le_of_ble_eq_true rfl, Nat.le_of_ble_eq_true rfl⟩ (us_X12_takenOf (by rw [tz_vv hm]; exact (tz_ag M 0).g hg) ((tz_ag M 0).s hs) (by rw [et]; exact hk) (by show -1 ≤ zup M 180 3 0 180 16; rw [zup_j (by decide)]; omega) (coin_r hs c1.1 (by omega) c2) ?_)
    dsimp only [zaft, Option.toList, List.cons_append, List.nil_append, Nat.add_zero]
    rw [e]
    refine zr_istore (pc := 80) S dX12_put_80 (by decide) ?_
    dsimp only [zst1, zst2, zset, zget, zlong]
    refine zr_iload (pc := 82) S dX12_put_82 rfl ?_
    refine zr_iconst (pc := 84) S dX12_put_84 (by unfold zrI; omega) ?_
    refine zr_icmp_eq (pc := 85) (tgt := 99) S dX12_put_85 (by decide) (fun c85 => ?_) (fun c85 => ?_)
    · have f := f1 (Or.inl c85)
      refine zr_iconst (pc := 99) S dX12_put_99 (by unfold zrI; omega) ?_
      exact zr_iret (pc := 100) S dX12_put_100 rfl ⟨Nat.le_refl _, Nat.le_refl _⟩ (f)
    · refine zr_aload_n (pc := 88) S dX12_put_88 rfl ?_
      refine zr_getR (pc := 89) S fX12_put_9 dX12_put_89 rfl (Nat.le_of_ble_eq_true rfl) rfl ?_
      refine zr_iconst (pc := 92) S dX12_put_92 (by unfold zrI; omega) ?_
      refine zr_iaload (pc := 93) S dX12_put_93 rfl (Nat.le_of_ble_eq_true rfl) (by omega) (by omega) ?_
      dsimp only [Int.reduceToNat]
      rw [et3]
      refine zr_bipush (pc := 94) S dX12_put_94 ⟨by unfold zrI; omega, by decide⟩ ?_
      refine zr_icmp_ne (pc := 96) (tgt := 101) S dX12_put_96 (by decide) (fun c96 => ?_) (fun c96 => ?_)
      · have g := f3 c85 c96
        exact g
      · have f := f1 (Or.inr c96)
        refine zr_iconst (pc := 99) S dX12_put_99 (by unfold zrI; omega) ?_
        exact zr_iret (pc := 100) S dX12_put_100 rfl ⟨Nat.le_refl _, Nat.le_refl _⟩ (f)
  refine zr_aload_n (pc := 0) S dX12_put_0 rfl ?_
  refine zr_iconst (pc := 1) S dX12_put_1 (by unfold zrI; omega) ?_
  refine zr_putI (pc := 2) S pX12_put_80 dX12_put_2 rfl (Nat.le_of_ble_eq_true rfl) rfl ?_
  refine zr_aload_n (pc := 5) S dX12_put_5 rfl ?_
  refine zr_iload_n (pc := 6) S dX12_put_6 rfl ?_
  refine zr_invV (pc := 7) S [zI _] (m_X12_isSort _) kX12_put_99 dX12_put_7 rfl (Nat.le_of_ble_eq_true rfl) rfl (Nat.le_of_ble_eq_true rfl) ⟨Nat.le_of_ble_eq_true rfl, Nat.le_of_ble_eq_true rfl⟩ (us_X12_isSort h0.1 ?_)
  dsimp only [zaft, Option.toList, List.cons_append, List.nil_append, Nat.add_zero]
  refine zr_if_ne (pc := 10) (tgt := 19) S dX12_put_10 (by decide) (fun c10 => ?_) (fun c10 => ?_)
  · rw [b01_0, Classical.not_not] at c10
    have c10' : 0 ≤ s ∧ s ≤ M 181 0 - 1 := c10
    have a9 := hh s.toNat (by omega)
    have eb : ((327 : Int) + s).toNat = 327 + s.toNat := by omega
    refine zr_iload (pc := 19) S dX12_put_19 rfl ?_
    refine zr_i2l (pc := 21) S dX12_put_21 ?_
    refine zr_lconst0 (pc := 22) S dX12_put_22 ?_
    refine zr_ldc2 (pc := 23) S (3) dX12_put_23 (List.mem_cons_of_mem _ (zWi_7 _ (List.mem_of_getElem? (i := 24) rfl))) (by unfold zrL; omega) ?_
    refine zr_invS (pc := 26) S [zL _, zL _, zL _] (m_X12_within _) kX12_put_83 dX12_put_26 (Nat.le_of_ble_eq_true rfl) ⟨Nat.le_of_ble_eq_true rfl, Nat.le_of_ble_eq_true rfl⟩ (us_X12_within ?_)
    dsimp only [zaft, Option.toList, List.cons_append, List.nil_append, Nat.add_zero]
    refine zr_if_eq (pc := 29) (tgt := 44) S dX12_put_29 (by decide) (fun c29 => ?_) (fun c29 => ?_)
    · rw [b01_0] at c29
      have f := hU (by omega) (fun z => c29 z.2)
      refine zr_aload_n (pc := 44) S dX12_put_44 rfl ?_
      refine zr_iconst (pc := 45) S dX12_put_45 (by unfold zrI; omega) ?_
      refine zr_invV (pc := 46) S [zI _] (m_X12_fails _) kX12_put_95 dX12_put_46 rfl (Nat.le_of_ble_eq_true rfl) rfl (Nat.le_of_ble_eq_true rfl) ⟨Nat.le_of_ble_eq_true rfl, Nat.le_of_ble_eq_true rfl⟩ (us_X12_fails ?_)
      dsimp only [zaft, Option.toList, List.cons_append, List.nil_append, Nat.add_zero]
      exact zr_iret (pc := 49) S dX12_put_49 rfl ⟨Nat.le_refl _, Nat.le_refl _⟩ (f)
    · rw [b01_0, Classical.not_not] at c29
      refine zr_aload_n (pc := 32) S dX12_put_32 rfl ?_
      refine zr_iload_n (pc := 33) S dX12_put_33 rfl ?_
      refine zr_iload_n (pc := 34) S dX12_put_34 rfl ?_
      refine zr_iload_n (pc := 35) S dX12_put_35 rfl ?_
      refine zr_iload (pc := 36) S dX12_put_36 rfl ?_
      refine zr_invV (pc := 38) S [zI _, zI _, zI _, zI _] (m_X12_isCoin _) kX12_put_308 dX12_put_38 rfl (Nat.le_of_ble_eq_true rfl) rfl (Nat.le_of_ble_eq_true rfl) ⟨Nat.le_of_ble_eq_true rfl, Nat.le_of_ble_eq_true rfl⟩ (us_X12_isCoin ((tz_ag M 0).s hs) (by omega) (by omega) ?_)
      dsimp only [zaft, Option.toList, List.cons_append, List.nil_append, Nat.add_zero]
      rw [show b01 (isCoin (vm (zup M 180 3 0)) s w b r) = _ from ec]
      refine zr_if_ne (pc := 41) (tgt := 50) S dX12_put_41 (by decide) (fun c41 => ?_) (fun c41 => ?_)
      · rw [b01_0, Classical.not_not] at c41
        refine zr_iload (pc := 50) S dX12_put_50 rfl ?_
        refine zr_iconst (pc := 52) S dX12_put_52 (by unfold zrI; omega) ?_
        refine zr_icmp_ne (pc := 53) (tgt := 72) S dX12_put_53 (by decide) (fun c53 => ?_) (fun c53 => ?_)
        · exact key (by omega) c41 (by omega)
        · have f := hS (by omega) c41 c53
          refine zr_aload_n (pc := 56) S dX12_put_56 rfl ?_
          refine zr_getR (pc := 57) S fX12_put_9 dX12_put_57 rfl (Nat.le_of_ble_eq_true rfl) rfl ?_
          try simp only [zup_k, zup_e, ne_eq, Nat.reduceEqDiff, not_false_eq_true, zup_j]
          refine zr_sipush (pc := 60) S dX12_put_60 ⟨by unfold zrI; omega, by decide⟩ ?_
          refine zr_iload_n (pc := 63) S dX12_put_63 rfl ?_
          refine zr_iadd (pc := 64) S dX12_put_64 (by unfold zrI; omega) ?_
          refine zr_dup2 (pc := 65) S dX12_put_65 rfl rfl ?_
          refine zr_iaload (pc := 66) S dX12_put_66 rfl (Nat.le_of_ble_eq_true rfl) (by omega) (by omega) ?_
          try simp only [zup_k, zup_e, ne_eq, Nat.reduceEqDiff, not_false_eq_true]
          rw [eb]
          refine zr_iconst (pc := 67) S dX12_put_67 (by unfold zrI; omega) ?_
          refine zr_iadd (pc := 68) S dX12_put_68 (by unfold zrI; omega) ?_
          refine zr_iastore (pc := 69) S dX12_put_69 rfl (Nat.le_of_ble_eq_true rfl) (by omega) (by omega) ?_
          rw [eb]
          refine zr_iload_n (pc := 70) S dX12_put_70 rfl ?_
          exact zr_iret (pc := 71) S dX12_put_71 rfl ⟨Nat.le_refl _, Nat.le_refl _⟩ (f)
      · rw [b01_0] at c41
        have f := hU (by omega) (fun z => c41 z.1)
        refine zr_aload_n (pc := 44) S dX12_put_44 rfl ?_
        refine zr_iconst (pc := 45) S dX12_put_45 (by unfold zrI; omega) ?_
        refine zr_invV (pc := 46) S [zI _] (m_X12_fails _) kX12_put_95 dX12_put_46 rfl (Nat.le_of_ble_eq_true rfl) rfl (Nat.le_of_ble_eq_true rfl) ⟨Nat.le_of_ble_eq_true rfl, Nat.le_of_ble_eq_true rfl⟩ (us_X12_fails ?_)
        dsimp only [zaft, Option.toList, List.cons_append, List.nil_append, Nat.add_zero]
        exact zr_iret (pc := 49) S dX12_put_49 rfl ⟨Nat.le_refl _, Nat.le_refl _⟩ (f)
  · rw [b01_0] at c10
    have f := hT (fun z => c10 (by show _ ∧ _ ≤ M 181 0 - 1; omega))
    refine zr_aload_n (pc := 13) S dX12_put_13 rfl ?_
    refine zr_iconst (pc := 14) S dX12_put_14 (by unfold zrI; omega) ?_
    refine zr_invV (pc := 15) S [zI _] (m_X12_fails _) kX12_put_95 dX12_put_15 rfl (Nat.le_of_ble_eq_true rfl) rfl (Nat.le_of_ble_eq_true rfl) ⟨Nat.le_of_ble_eq_true rfl, Nat.le_of_ble_eq_true rfl⟩ (us_X12_fails ?_)
    dsimp only [zaft, Option.toList, List.cons_append, List.nil_append, Nat.add_zero]
    exact zr_iret (pc := 18) S dX12_put_18 rfl ⟨Nat.le_refl _, Nat.le_refl _⟩ (f)
end
