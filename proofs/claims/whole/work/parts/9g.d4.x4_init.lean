section
def rmX4_init : Room := { frames := 2, cells := 7, slots := 446, locals := 32 }
abbrev wzX4_init : List Cond := .code yX4_init cX4_init 1 none :: zW
def fX4 (a : Nat) : List Value := [.ref (a + 1), .int (Int32.ofInt 0), .int (Int32.ofInt 0), .int (Int32.ofInt (-1)), .ref (a + 2), .int (Int32.ofInt 0), .int (Int32.ofInt 0), .int (Int32.ofInt 0), .int (Int32.ofInt 0), .int (Int32.ofInt 0)]
def oX4 (E : zE) (a : Nat) : List (Nat × va_E) := (0, .inr (4, fX4 a)) :: ((1, zce E (.inl (2, 400)) (fun _ => 0)) :: (zsh 2 (oX2 E (a + 2)) ++ ([])))
set_option maxRecDepth 20000 in
theorem hoX4 (E : zE) (a : Nat) : (List.range 8).all (fun j => (zlk (oX4 E a) j).isSome) = true := rfl
set_option maxHeartbeats 4000000 in
set_option maxRecDepth 20000 in
theorem ctX4 (l : Launch) (E : zE) (a : Nat) : zcM l yX4_init wzX4_init rmX4_init 7 446 E a [] [] (.inr (4, bX4)) 8 (oX4 E a) := by
  refine zcM.of (cc := cX4_init) (nL := 1) RX4 (by decide) rfl rfl rfl (Nat.le_of_ble_eq_true rfl) ?_
  intro X hl S hi hW hz
  subst hl
  show zJ E a rmX4_init 1 X _ (0, 0) 0 [(0, .ref a)] [] 1 [(0, .inr (4, bX4))]
  refine zj_aload_n (pc := 0) S 0 dX4_init_0 rfl rfl ?_
  refine zj_obj (pc := 1) S dX4_init_1 (List.mem_cons_of_mem _ (zWi_23 _ (List.mem_of_getElem? (i := 46) rfl))) (List.mem_cons_of_mem _ (zWi_12 _ (List.mem_of_getElem? (i := 22) rfl))) (List.mem_cons_of_mem _ (zWi_0 _ (List.mem_of_getElem? (i := 31) rfl))) (Nat.le_of_ble_eq_true rfl) (Nat.le_of_ble_eq_true rfl) ?_
  refine zj_aload_n (pc := 4) S 0 dX4_init_4 rfl rfl ?_
  refine zj_sipush (pc := 5) S dX4_init_5 (by decide) ?_
  refine zj_newBy (pc := 8) (N := 400) (n' := 2) S (1, 400) dX4_init_8 (List.mem_cons_of_mem _ (zWi_0 _ (List.mem_of_getElem? (i := 1) rfl))) (by decide) (by decide) (by decide) ⟨rfl, rfl, Nat.le_of_ble_eq_true rfl, Nat.le_of_ble_eq_true rfl⟩ rfl ?_
  refine zj_put (pc := 10) (ci := 4) (C := RX4) (T := TX4) (N := 10) (ty0 := tyX4) (j := 0) (k := 0) (fs' := [.ref (a + 1), .int (Int32.ofInt 0), .int (Int32.ofInt 0), .int (Int32.ofInt 0), .null, .int (Int32.ofInt 0), .int (Int32.ofInt 0), .int (Int32.ofInt 0), .int (Int32.ofInt 0), .int (Int32.ofInt 0)]) S hi.1 (tyX4 0) (.ref (a + 1)) dX4_init_10 rfl (Nat.le_of_ble_eq_true rfl) rfl rfl (fun w h => List.mem_cons_of_mem _ (zWuX4 w h)) tyX4_ok nmX4 (by decide) (List.mem_cons_of_mem _ (zWi_10 _ (List.mem_of_getElem? (i := 21) rfl))) rfl (tyX4_ok 0 (by decide)) rfl rfl (Nat.le_of_ble_eq_true rfl) rfl ?_
  refine zj_aload_n (pc := 13) S 0 dX4_init_13 rfl rfl ?_
  refine zj_iconst (pc := 14) S dX4_init_14 ?_
  refine zj_put (pc := 15) (ci := 4) (C := RX4) (T := TX4) (N := 10) (ty0 := tyX4) (j := 0) (k := 3) (fs' := [.ref (a + 1), .int (Int32.ofInt 0), .int (Int32.ofInt 0), .int (Int32.ofInt (-1)), .null, .int (Int32.ofInt 0), .int (Int32.ofInt 0), .int (Int32.ofInt 0), .int (Int32.ofInt 0), .int (Int32.ofInt 0)]) S hi.1 (tyX4 3) (.int (Int32.ofInt (-1))) dX4_init_15 rfl (Nat.le_of_ble_eq_true rfl) rfl rfl (fun w h => List.mem_cons_of_mem _ (zWuX4 w h)) tyX4_ok nmX4 (by decide) (List.mem_cons_of_mem _ (zWi_10 _ (List.mem_of_getElem? (i := 11) rfl))) rfl (tyX4_ok 3 (by decide)) rfl rfl (Nat.le_of_ble_eq_true rfl) rfl ?_
  refine zj_aload_n (pc := 18) S 0 dX4_init_18 rfl rfl ?_
  refine zj_new (pc := 19) (ci := 2) (C := RX2) (T := TX2) (N := 6) (ty := tyX2) (n' := 3) S (2, 406) bX2 dX4_init_19 rfl (fun w h => List.mem_cons_of_mem _ (zWuX2 w h)) tyX2_ok (List.mem_cons_of_mem _ (zWi_0 _ (List.mem_of_getElem? (i := 22) rfl))) (List.mem_cons_of_mem _ (zWi_17 _ (List.mem_of_getElem? (i := 32) rfl))) (List.mem_cons_of_mem _ (zWi_12 _ (List.mem_of_getElem? (i := 14) rfl))) dfX2 ⟨rfl, rfl, Nat.le_of_ble_eq_true rfl, Nat.le_of_ble_eq_true rfl⟩ rfl ?_
  refine zj_dup (pc := 22) S dX4_init_22 ?_
  refine zj_callN (pc := 23) (n0 := 2) (m' := 6) (n' := 8) (q := (a + 2)) (na := 0) (st := [.ref (a + 2), .ref a]) S (7, 446) [] (ctX2 X.2.1 E (a + 2)) (zcIN (zWi_15 _ (List.mem_of_getElem? (i := 48) rfl)) (zWi_12 _ (List.mem_of_getElem? (i := 14) rfl)) (zWi_4 _ (List.mem_of_getElem? (i := 31) rfl)) rfl (by decide +kernel) rfl rfl ⟨Nat.le_of_ble_eq_true rfl, Nat.le_of_ble_eq_true rfl⟩) (List.mem_of_getElem? (i := 1) rfl) dX4_init_23 rfl rfl rfl rfl rfl (Nat.le_of_ble_eq_true rfl) ⟨rfl, rfl, Nat.le_of_ble_eq_true rfl, Nat.le_of_ble_eq_true rfl⟩ (fun x hx => by cases hx) (hoX2 E (a + 2)) ?_
  refine zj_put (pc := 26) (ci := 4) (C := RX4) (T := TX4) (N := 10) (ty0 := tyX4) (j := 0) (k := 4) (fs' := [.ref (a + 1), .int (Int32.ofInt 0), .int (Int32.ofInt 0), .int (Int32.ofInt (-1)), .ref (a + 2), .int (Int32.ofInt 0), .int (Int32.ofInt 0), .int (Int32.ofInt 0), .int (Int32.ofInt 0), .int (Int32.ofInt 0)]) S hi.1 (tyX4 4) (.ref (a + 2)) dX4_init_26 rfl (Nat.le_of_ble_eq_true rfl) rfl rfl (fun w h => List.mem_cons_of_mem _ (zWuX4 w h)) tyX4_ok nmX4 (by decide) (List.mem_cons_of_mem _ (zWi_10 _ (List.mem_of_getElem? (i := 12) rfl))) rfl (tyX4_ok 4 (by decide)) rfl rfl (Nat.le_of_ble_eq_true rfl) rfl ?_
  exact zj_retc (pc := 29) S hi dX4_init_29 ⟨Nat.le_of_ble_eq_true rfl, Nat.le_of_ble_eq_true rfl⟩ rfl
end
section
def rmX6_init : Room := { frames := 1, cells := 5, slots := 370, locals := 12 }
abbrev wzX6_init : List Cond := .code yX6_init cX6_init 3 none :: zW
def fX6 (a : Nat) (s1 : Nat) (s2 : Nat) : List Value := [.ref s1, .ref s2, .ref (a + 1), .ref (a + 2), .ref (a + 3), .ref (a + 4), .ref (a + 5), .int (Int32.ofInt 0), .int (Int32.ofInt 0), .long (Int64.ofInt 0)]
def oX6 (E : zE) (a : Nat) (s1 : Nat) (s2 : Nat) : List (Nat × va_E) := (0, .inr (6, fX6 a s1 s2)) :: ((1, zce E (.inl (1, 9)) (fun _ => 0)) :: ((2, zce E (.inl (0, 256)) (fun _ => 0)) :: ((3, zce E (.inl (0, 3)) (fun _ => 0)) :: ((4, zce E (.inl (0, 51)) (fun _ => 0)) :: ((5, zce E (.inl (0, 51)) (fun _ => 0)) :: ([]))))))
set_option maxRecDepth 20000 in
theorem hoX6 (E : zE) (a : Nat) (s1 : Nat) (s2 : Nat) : (List.range 6).all (fun j => (zlk (oX6 E a s1 s2) j).isSome) = true := rfl
set_option maxHeartbeats 4000000 in
set_option maxRecDepth 20000 in
theorem ctX6 (l : Launch) (E : zE) (a : Nat) (s1 : Nat) (s2 : Nat) : zcM l yX6_init wzX6_init rmX6_init 5 370 E a [.ref s1, .ref s2] [] (.inr (6, bX6)) 6 (oX6 E a s1 s2) := by
  refine zcM.of (cc := cX6_init) (nL := 3) RX6 (by decide) rfl rfl rfl (Nat.le_of_ble_eq_true rfl) ?_
  intro X hl S hi hW hz
  subst hl
  show zJ E a rmX6_init 3 X _ (0, 0) 0 [(0, .ref a), (1, .ref s1), (2, .ref s2)] [] 1 [(0, .inr (6, bX6))]
  refine zj_aload_n (pc := 0) S 0 dX6_init_0 rfl rfl ?_
  refine zj_obj (pc := 1) S dX6_init_1 (List.mem_cons_of_mem _ (zWi_24 _ (List.mem_of_getElem? (i := 30) rfl))) (List.mem_cons_of_mem _ (zWi_12 _ (List.mem_of_getElem? (i := 22) rfl))) (List.mem_cons_of_mem _ (zWi_0 _ (List.mem_of_getElem? (i := 31) rfl))) (Nat.le_of_ble_eq_true rfl) (Nat.le_of_ble_eq_true rfl) ?_
  refine zj_aload_n (pc := 4) S 0 dX6_init_4 rfl rfl ?_
  refine zj_bipush (pc := 5) S dX6_init_5 (by decide) ?_
  refine zj_newL (pc := 7) (N := 9) (n' := 2) S (1, 9) dX6_init_7 (List.mem_cons_of_mem _ (zWi_0 _ (List.mem_of_getElem? (i := 3) rfl))) (by decide) (by decide) (by decide) ⟨rfl, rfl, Nat.le_of_ble_eq_true rfl, Nat.le_of_ble_eq_true rfl⟩ rfl ?_
  refine zj_put (pc := 9) (ci := 6) (C := RX6) (T := TX6) (N := 10) (ty0 := tyX6) (j := 0) (k := 2) (fs' := [.null, .null, .ref (a + 1), .null, .null, .null, .null, .int (Int32.ofInt 0), .int (Int32.ofInt 0), .long (Int64.ofInt 0)]) S hi.1 (tyX6 2) (.ref (a + 1)) dX6_init_9 rfl (Nat.le_of_ble_eq_true rfl) rfl rfl (fun w h => List.mem_cons_of_mem _ (zWuX6 w h)) tyX6_ok nmX6 (by decide) (List.mem_cons_of_mem _ (zWi_11 _ (List.mem_of_getElem? (i := 11) rfl))) rfl (tyX6_ok 2 (by decide)) rfl rfl (Nat.le_of_ble_eq_true rfl) rfl ?_
  refine zj_aload_n (pc := 12) S 0 dX6_init_12 rfl rfl ?_
  refine zj_sipush (pc := 13) S dX6_init_13 (by decide) ?_
  refine zj_newI (pc := 16) (N := 256) (n' := 3) S (2, 265) dX6_init_16 (List.mem_cons_of_mem _ (zWi_0 _ (List.mem_of_getElem? (i := 2) rfl))) (by decide) (by decide) (by decide) ⟨rfl, rfl, Nat.le_of_ble_eq_true rfl, Nat.le_of_ble_eq_true rfl⟩ rfl ?_
  refine zj_put (pc := 18) (ci := 6) (C := RX6) (T := TX6) (N := 10) (ty0 := tyX6) (j := 0) (k := 3) (fs' := [.null, .null, .ref (a + 1), .ref (a + 2), .null, .null, .null, .int (Int32.ofInt 0), .int (Int32.ofInt 0), .long (Int64.ofInt 0)]) S hi.1 (tyX6 3) (.ref (a + 2)) dX6_init_18 rfl (Nat.le_of_ble_eq_true rfl) rfl rfl (fun w h => List.mem_cons_of_mem _ (zWuX6 w h)) tyX6_ok nmX6 (by decide) (List.mem_cons_of_mem _ (zWi_10 _ (List.mem_of_getElem? (i := 48) rfl))) rfl (tyX6_ok 3 (by decide)) rfl rfl (Nat.le_of_ble_eq_true rfl) rfl ?_
  refine zj_aload_n (pc := 21) S 0 dX6_init_21 rfl rfl ?_
  refine zj_iconst (pc := 22) S dX6_init_22 ?_
  refine zj_newI (pc := 23) (N := 3) (n' := 4) S (3, 268) dX6_init_23 (List.mem_cons_of_mem _ (zWi_0 _ (List.mem_of_getElem? (i := 2) rfl))) (by decide) (by decide) (by decide) ⟨rfl, rfl, Nat.le_of_ble_eq_true rfl, Nat.le_of_ble_eq_true rfl⟩ rfl ?_
  refine zj_put (pc := 25) (ci := 6) (C := RX6) (T := TX6) (N := 10) (ty0 := tyX6) (j := 0) (k := 4) (fs' := [.null, .null, .ref (a + 1), .ref (a + 2), .ref (a + 3), .null, .null, .int (Int32.ofInt 0), .int (Int32.ofInt 0), .long (Int64.ofInt 0)]) S hi.1 (tyX6 4) (.ref (a + 3)) dX6_init_25 rfl (Nat.le_of_ble_eq_true rfl) rfl rfl (fun w h => List.mem_cons_of_mem _ (zWuX6 w h)) tyX6_ok nmX6 (by decide) (List.mem_cons_of_mem _ (zWi_10 _ (List.mem_of_getElem? (i := 49) rfl))) rfl (tyX6_ok 4 (by decide)) rfl rfl (Nat.le_of_ble_eq_true rfl) rfl ?_
  refine zj_aload_n (pc := 28) S 0 dX6_init_28 rfl rfl ?_
  refine zj_bipush (pc := 29) S dX6_init_29 (by decide) ?_
  refine zj_newI (pc := 31) (N := 51) (n' := 5) S (4, 319) dX6_init_31 (List.mem_cons_of_mem _ (zWi_0 _ (List.mem_of_getElem? (i := 2) rfl))) (by decide) (by decide) (by decide) ⟨rfl, rfl, Nat.le_of_ble_eq_true rfl, Nat.le_of_ble_eq_true rfl⟩ rfl ?_
  refine zj_put (pc := 33) (ci := 6) (C := RX6) (T := TX6) (N := 10) (ty0 := tyX6) (j := 0) (k := 5) (fs' := [.null, .null, .ref (a + 1), .ref (a + 2), .ref (a + 3), .ref (a + 4), .null, .int (Int32.ofInt 0), .int (Int32.ofInt 0), .long (Int64.ofInt 0)]) S hi.1 (tyX6 5) (.ref (a + 4)) dX6_init_33 rfl (Nat.le_of_ble_eq_true rfl) rfl rfl (fun w h => List.mem_cons_of_mem _ (zWuX6 w h)) tyX6_ok nmX6 (by decide) (List.mem_cons_of_mem _ (zWi_11 _ (List.mem_of_getElem? (i := 0) rfl))) rfl (tyX6_ok 5 (by decide)) rfl rfl (Nat.le_of_ble_eq_true rfl) rfl ?_
  refine zj_aload_n (pc := 36) S 0 dX6_init_36 rfl rfl ?_
  refine zj_bipush (pc := 37) S dX6_init_37 (by decide) ?_
  refine zj_newI (pc := 39) (N := 51) (n' := 6) S (5, 370) dX6_init_39 (List.mem_cons_of_mem _ (zWi_0 _ (List.mem_of_getElem? (i := 2) rfl))) (by decide) (by decide) (by decide) ⟨rfl, rfl, Nat.le_of_ble_eq_true rfl, Nat.le_of_ble_eq_true rfl⟩ rfl ?_
  refine zj_put (pc := 41) (ci := 6) (C := RX6) (T := TX6) (N := 10) (ty0 := tyX6) (j := 0) (k := 6) (fs' := [.null, .null, .ref (a + 1), .ref (a + 2), .ref (a + 3), .ref (a + 4), .ref (a + 5), .int (Int32.ofInt 0), .int (Int32.ofInt 0), .long (Int64.ofInt 0)]) S hi.1 (tyX6 6) (.ref (a + 5)) dX6_init_41 rfl (Nat.le_of_ble_eq_true rfl) rfl rfl (fun w h => List.mem_cons_of_mem _ (zWuX6 w h)) tyX6_ok nmX6 (by decide) (List.mem_cons_of_mem _ (zWi_11 _ (List.mem_of_getElem? (i := 1) rfl))) rfl (tyX6_ok 6 (by decide)) rfl rfl (Nat.le_of_ble_eq_true rfl) rfl ?_
  refine zj_aload_n (pc := 44) S 0 dX6_init_44 rfl rfl ?_
  refine zj_aload_n (pc := 45) S 1 dX6_init_45 rfl rfl ?_
  refine zj_put (pc := 46) (ci := 6) (C := RX6) (T := TX6) (N := 10) (ty0 := tyX6) (j := 0) (k := 0) (fs' := [.ref s1, .null, .ref (a + 1), .ref (a + 2), .ref (a + 3), .ref (a + 4), .ref (a + 5), .int (Int32.ofInt 0), .int (Int32.ofInt 0), .long (Int64.ofInt 0)]) S hi.1 (tyX6 0) (.ref s1) dX6_init_46 rfl (Nat.le_of_ble_eq_true rfl) rfl rfl (fun w h => List.mem_cons_of_mem _ (zWuX6 w h)) tyX6_ok nmX6 (by decide) (List.mem_cons_of_mem _ (zWi_11 _ (List.mem_of_getElem? (i := 2) rfl))) rfl (tyX6_ok 0 (by decide)) rfl rfl (Nat.le_of_ble_eq_true rfl) rfl ?_
  refine zj_aload_n (pc := 49) S 0 dX6_init_49 rfl rfl ?_
  refine zj_aload_n (pc := 50) S 2 dX6_init_50 rfl rfl ?_
  refine zj_put (pc := 51) (ci := 6) (C := RX6) (T := TX6) (N := 10) (ty0 := tyX6) (j := 0) (k := 1) (fs' := [.ref s1, .ref s2, .ref (a + 1), .ref (a + 2), .ref (a + 3), .ref (a + 4), .ref (a + 5), .int (Int32.ofInt 0), .int (Int32.ofInt 0), .long (Int64.ofInt 0)]) S hi.1 (tyX6 1) (.ref s2) dX6_init_51 rfl (Nat.le_of_ble_eq_true rfl) rfl rfl (fun w h => List.mem_cons_of_mem _ (zWuX6 w h)) tyX6_ok nmX6 (by decide) (List.mem_cons_of_mem _ (zWi_11 _ (List.mem_of_getElem? (i := 3) rfl))) rfl (tyX6_ok 1 (by decide)) rfl rfl (Nat.le_of_ble_eq_true rfl) rfl ?_
  exact zj_retc (pc := 54) S hi dX6_init_54 ⟨Nat.le_of_ble_eq_true rfl, Nat.le_of_ble_eq_true rfl⟩ rfl
end
section
def rmX0_init : Room := { frames := 1, cells := 2, slots := 5802, locals := 12 }
abbrev wzX0_init : List Cond := .code yX0_init cX0_init 2 none :: zW
def fX0 (a : Nat) (s1 : Nat) : List Value := [.ref s1, .ref (a + 1), .ref (a + 2)]
def oX0 (E : zE) (a : Nat) (s1 : Nat) : List (Nat × va_E) := (0, .inr (0, fX0 a s1)) :: ((1, zce E (.inl (1, 4801)) (fun _ => 0)) :: ((2, zce E (.inl (3, 1001)) (fun _ => 0)) :: ([])))
set_option maxRecDepth 20000 in
theorem hoX0 (E : zE) (a : Nat) (s1 : Nat) : (List.range 3).all (fun j => (zlk (oX0 E a s1) j).isSome) = true := rfl
set_option maxHeartbeats 4000000 in
set_option maxRecDepth 20000 in
theorem ctX0 (l : Launch) (E : zE) (a : Nat) (s1 : Nat) : zcM l yX0_init wzX0_init rmX0_init 2 5802 E a [.ref s1] [] (.inr (0, bX0)) 3 (oX0 E a s1) := by
  refine zcM.of (cc := cX0_init) (nL := 2) RX0 (by decide) rfl rfl rfl (Nat.le_of_ble_eq_true rfl) ?_
  intro X hl S hi hW hz
  subst hl
  show zJ E a rmX0_init 2 X _ (0, 0) 0 [(0, .ref a), (1, .ref s1)] [] 1 [(0, .inr (0, bX0))]
  refine zj_aload_n (pc := 0) S 0 dX0_init_0 rfl rfl ?_
  refine zj_obj (pc := 1) S dX0_init_1 (List.mem_cons_of_mem _ (zWi_20 _ (List.mem_of_getElem? (i := 31) rfl))) (List.mem_cons_of_mem _ (zWi_12 _ (List.mem_of_getElem? (i := 22) rfl))) (List.mem_cons_of_mem _ (zWi_0 _ (List.mem_of_getElem? (i := 31) rfl))) (Nat.le_of_ble_eq_true rfl) (Nat.le_of_ble_eq_true rfl) ?_
  refine zj_aload_n (pc := 4) S 0 dX0_init_4 rfl rfl ?_
  refine zj_sipush (pc := 5) S dX0_init_5 (by decide) ?_
  refine zj_newL (pc := 8) (N := 4801) (n' := 2) S (1, 4801) dX0_init_8 (List.mem_cons_of_mem _ (zWi_0 _ (List.mem_of_getElem? (i := 3) rfl))) (by decide) (by decide) (by decide) ⟨rfl, rfl, Nat.le_of_ble_eq_true rfl, Nat.le_of_ble_eq_true rfl⟩ rfl ?_
  refine zj_put (pc := 10) (ci := 0) (C := RX0) (T := TX0) (N := 3) (ty0 := tyX0) (j := 0) (k := 1) (fs' := [.null, .ref (a + 1), .null]) S hi.1 (tyX0 1) (.ref (a + 1)) dX0_init_10 rfl (Nat.le_of_ble_eq_true rfl) rfl rfl (fun w h => List.mem_cons_of_mem _ (zWuX0 w h)) tyX0_ok nmX0 (by decide) (List.mem_cons_of_mem _ (zWi_7 _ (List.mem_of_getElem? (i := 43) rfl))) rfl (tyX0_ok 1 (by decide)) rfl rfl (Nat.le_of_ble_eq_true rfl) rfl ?_
  refine zj_aload_n (pc := 13) S 0 dX0_init_13 rfl rfl ?_
  refine zj_sipush (pc := 14) S dX0_init_14 (by decide) ?_
  refine zj_newZ (pc := 17) (N := 1001) (n' := 3) S (2, 5802) dX0_init_17 (List.mem_cons_of_mem _ (zWi_0 _ (List.mem_of_getElem? (i := 0) rfl))) (by decide) (by decide) (by decide) ⟨rfl, rfl, Nat.le_of_ble_eq_true rfl, Nat.le_of_ble_eq_true rfl⟩ rfl ?_
  refine zj_put (pc := 19) (ci := 0) (C := RX0) (T := TX0) (N := 3) (ty0 := tyX0) (j := 0) (k := 2) (fs' := [.null, .ref (a + 1), .ref (a + 2)]) S hi.1 (tyX0 2) (.ref (a + 2)) dX0_init_19 rfl (Nat.le_of_ble_eq_true rfl) rfl rfl (fun w h => List.mem_cons_of_mem _ (zWuX0 w h)) tyX0_ok nmX0 (by decide) (List.mem_cons_of_mem _ (zWi_7 _ (List.mem_of_getElem? (i := 44) rfl))) rfl (tyX0_ok 2 (by decide)) rfl rfl (Nat.le_of_ble_eq_true rfl) rfl ?_
  refine zj_aload_n (pc := 22) S 0 dX0_init_22 rfl rfl ?_
  refine zj_aload_n (pc := 23) S 1 dX0_init_23 rfl rfl ?_
  refine zj_put (pc := 24) (ci := 0) (C := RX0) (T := TX0) (N := 3) (ty0 := tyX0) (j := 0) (k := 0) (fs' := [.ref s1, .ref (a + 1), .ref (a + 2)]) S hi.1 (tyX0 0) (.ref s1) dX0_init_24 rfl (Nat.le_of_ble_eq_true rfl) rfl rfl (fun w h => List.mem_cons_of_mem _ (zWuX0 w h)) tyX0_ok nmX0 (by decide) (List.mem_cons_of_mem _ (zWi_7 _ (List.mem_of_getElem? (i := 45) rfl))) rfl (tyX0_ok 0 (by decide)) rfl rfl (Nat.le_of_ble_eq_true rfl) rfl ?_
  exact zj_retc (pc := 27) S hi dX0_init_27 ⟨Nat.le_of_ble_eq_true rfl, Nat.le_of_ble_eq_true rfl⟩ rfl
end
