section
def rmX7_init : Room := { frames := 1, cells := 8, slots := 92, locals := 12 }
abbrev wzX7_init : List Cond := .code yX7_init cX7_init 1 none :: zW
def fX7 (a : Nat) : List Value := [.int (Int32.ofInt 0), .ref (a + 1), .ref (a + 2), .ref (a + 3), .ref (a + 4), .ref (a + 5), .ref (a + 6), .ref (a + 7), .ref (a + 8)]
def oX7 (E : zE) (a : Nat) : List (Nat × va_E) := (0, .inr (7, fX7 a)) :: ((1, zce E (.inl (0, 4)) (fun i => if i = 3 then 10 else if i = 2 then 0 else if i = 1 then 0 else if i = 0 then 0 else 0)) :: ((2, zce E (.inl (0, 8)) (fun _ => 0)) :: ((3, zce E (.inl (0, 8)) (fun _ => 0)) :: ((4, zce E (.inl (0, 8)) (fun _ => 0)) :: ((5, zce E (.inl (0, 24)) (fun _ => 0)) :: ((6, zce E (.inl (0, 24)) (fun _ => 0)) :: ((7, zce E (.inl (0, 8)) (fun _ => 0)) :: ((8, zce E (.inl (0, 8)) (fun _ => 0)) :: ([])))))))))
set_option maxRecDepth 20000 in
theorem hoX7 (E : zE) (a : Nat) : (List.range 9).all (fun j => (zlk (oX7 E a) j).isSome) = true := rfl
set_option maxHeartbeats 4000000 in
set_option maxRecDepth 20000 in
theorem ctX7 (l : Launch) (E : zE) (a : Nat) : zcM l yX7_init wzX7_init rmX7_init 8 92 E a [] [] (.inr (7, bX7)) 9 (oX7 E a) := by
  refine zcM.of (cc := cX7_init) (nL := 1) RX7 (by decide) rfl rfl rfl (Nat.le_of_ble_eq_true rfl) ?_
  intro X hl S hi hW hz
  subst hl
  show zJ E a rmX7_init 1 X _ (0, 0) 0 [(0, .ref a)] [] 1 [(0, .inr (7, bX7))]
  refine zj_aload_n (pc := 0) S 0 dX7_init_0 rfl rfl ?_
  refine zj_obj (pc := 1) S dX7_init_1 (List.mem_cons_of_mem _ (zWi_24 _ (List.mem_of_getElem? (i := 41) rfl))) (List.mem_cons_of_mem _ (zWi_12 _ (List.mem_of_getElem? (i := 22) rfl))) (List.mem_cons_of_mem _ (zWi_0 _ (List.mem_of_getElem? (i := 31) rfl))) (Nat.le_of_ble_eq_true rfl) (Nat.le_of_ble_eq_true rfl) ?_
  refine zj_aload_n (pc := 4) S 0 dX7_init_4 rfl rfl ?_
  refine zj_iconst (pc := 5) S dX7_init_5 ?_
  refine zj_newI (pc := 6) (N := 4) (n' := 2) S (1, 4) dX7_init_6 (List.mem_cons_of_mem _ (zWi_0 _ (List.mem_of_getElem? (i := 2) rfl))) (by decide) (by decide) (by decide) ⟨rfl, rfl, Nat.le_of_ble_eq_true rfl, Nat.le_of_ble_eq_true rfl⟩ rfl ?_
  refine zj_dup (pc := 8) S dX7_init_8 ?_
  refine zj_iconst (pc := 9) S dX7_init_9 ?_
  refine zj_iconst (pc := 10) S dX7_init_10 ?_
  refine zj_iast (pc := 11) (j := 1) (N := 4) S 0 dX7_init_11 rfl (Nat.le_of_ble_eq_true rfl) rfl rfl (by decide) (by decide) ?_
  refine zj_dup (pc := 12) S dX7_init_12 ?_
  refine zj_iconst (pc := 13) S dX7_init_13 ?_
  refine zj_iconst (pc := 14) S dX7_init_14 ?_
  refine zj_iast (pc := 15) (j := 1) (N := 4) S 1 dX7_init_15 rfl (Nat.le_of_ble_eq_true rfl) rfl rfl (by decide) (by decide) ?_
  refine zj_dup (pc := 16) S dX7_init_16 ?_
  refine zj_iconst (pc := 17) S dX7_init_17 ?_
  refine zj_iconst (pc := 18) S dX7_init_18 ?_
  refine zj_iast (pc := 19) (j := 1) (N := 4) S 2 dX7_init_19 rfl (Nat.le_of_ble_eq_true rfl) rfl rfl (by decide) (by decide) ?_
  refine zj_dup (pc := 20) S dX7_init_20 ?_
  refine zj_iconst (pc := 21) S dX7_init_21 ?_
  refine zj_bipush (pc := 22) S dX7_init_22 (by decide) ?_
  refine zj_iast (pc := 24) (j := 1) (N := 4) S 3 dX7_init_24 rfl (Nat.le_of_ble_eq_true rfl) rfl rfl (by decide) (by decide) ?_
  refine zj_put (pc := 25) (ci := 7) (C := RX7) (T := TX7) (N := 9) (ty0 := tyX7) (j := 0) (k := 1) (fs' := [.int (Int32.ofInt 0), .ref (a + 1), .null, .null, .null, .null, .null, .null, .null]) S hi.1 (tyX7 1) (.ref (a + 1)) dX7_init_25 rfl (Nat.le_of_ble_eq_true rfl) rfl rfl (fun w h => List.mem_cons_of_mem _ (zWuX7 w h)) tyX7_ok nmX7 (by decide) (List.mem_cons_of_mem _ (zWi_11 _ (List.mem_of_getElem? (i := 20) rfl))) rfl (tyX7_ok 1 (by decide)) rfl rfl (Nat.le_of_ble_eq_true rfl) rfl ?_
  refine zj_aload_n (pc := 28) S 0 dX7_init_28 rfl rfl ?_
  refine zj_bipush (pc := 29) S dX7_init_29 (by decide) ?_
  refine zj_newI (pc := 31) (N := 8) (n' := 3) S (2, 12) dX7_init_31 (List.mem_cons_of_mem _ (zWi_0 _ (List.mem_of_getElem? (i := 2) rfl))) (by decide) (by decide) (by decide) ⟨rfl, rfl, Nat.le_of_ble_eq_true rfl, Nat.le_of_ble_eq_true rfl⟩ rfl ?_
  refine zj_put (pc := 33) (ci := 7) (C := RX7) (T := TX7) (N := 9) (ty0 := tyX7) (j := 0) (k := 2) (fs' := [.int (Int32.ofInt 0), .ref (a + 1), .ref (a + 2), .null, .null, .null, .null, .null, .null]) S hi.1 (tyX7 2) (.ref (a + 2)) dX7_init_33 rfl (Nat.le_of_ble_eq_true rfl) rfl rfl (fun w h => List.mem_cons_of_mem _ (zWuX7 w h)) tyX7_ok nmX7 (by decide) (List.mem_cons_of_mem _ (zWi_11 _ (List.mem_of_getElem? (i := 12) rfl))) rfl (tyX7_ok 2 (by decide)) rfl rfl (Nat.le_of_ble_eq_true rfl) rfl ?_
  refine zj_aload_n (pc := 36) S 0 dX7_init_36 rfl rfl ?_
  refine zj_bipush (pc := 37) S dX7_init_37 (by decide) ?_
  refine zj_newI (pc := 39) (N := 8) (n' := 4) S (3, 20) dX7_init_39 (List.mem_cons_of_mem _ (zWi_0 _ (List.mem_of_getElem? (i := 2) rfl))) (by decide) (by decide) (by decide) ⟨rfl, rfl, Nat.le_of_ble_eq_true rfl, Nat.le_of_ble_eq_true rfl⟩ rfl ?_
  refine zj_put (pc := 41) (ci := 7) (C := RX7) (T := TX7) (N := 9) (ty0 := tyX7) (j := 0) (k := 3) (fs' := [.int (Int32.ofInt 0), .ref (a + 1), .ref (a + 2), .ref (a + 3), .null, .null, .null, .null, .null]) S hi.1 (tyX7 3) (.ref (a + 3)) dX7_init_41 rfl (Nat.le_of_ble_eq_true rfl) rfl rfl (fun w h => List.mem_cons_of_mem _ (zWuX7 w h)) tyX7_ok nmX7 (by decide) (List.mem_cons_of_mem _ (zWi_11 _ (List.mem_of_getElem? (i := 13) rfl))) rfl (tyX7_ok 3 (by decide)) rfl rfl (Nat.le_of_ble_eq_true rfl) rfl ?_
  refine zj_aload_n (pc := 44) S 0 dX7_init_44 rfl rfl ?_
  refine zj_bipush (pc := 45) S dX7_init_45 (by decide) ?_
  refine zj_newI (pc := 47) (N := 8) (n' := 5) S (4, 28) dX7_init_47 (List.mem_cons_of_mem _ (zWi_0 _ (List.mem_of_getElem? (i := 2) rfl))) (by decide) (by decide) (by decide) ⟨rfl, rfl, Nat.le_of_ble_eq_true rfl, Nat.le_of_ble_eq_true rfl⟩ rfl ?_
  refine zj_put (pc := 49) (ci := 7) (C := RX7) (T := TX7) (N := 9) (ty0 := tyX7) (j := 0) (k := 4) (fs' := [.int (Int32.ofInt 0), .ref (a + 1), .ref (a + 2), .ref (a + 3), .ref (a + 4), .null, .null, .null, .null]) S hi.1 (tyX7 4) (.ref (a + 4)) dX7_init_49 rfl (Nat.le_of_ble_eq_true rfl) rfl rfl (fun w h => List.mem_cons_of_mem _ (zWuX7 w h)) tyX7_ok nmX7 (by decide) (List.mem_cons_of_mem _ (zWi_11 _ (List.mem_of_getElem? (i := 14) rfl))) rfl (tyX7_ok 4 (by decide)) rfl rfl (Nat.le_of_ble_eq_true rfl) rfl ?_
  refine zj_aload_n (pc := 52) S 0 dX7_init_52 rfl rfl ?_
  refine zj_bipush (pc := 53) S dX7_init_53 (by decide) ?_
  refine zj_newI (pc := 55) (N := 24) (n' := 6) S (5, 52) dX7_init_55 (List.mem_cons_of_mem _ (zWi_0 _ (List.mem_of_getElem? (i := 2) rfl))) (by decide) (by decide) (by decide) ⟨rfl, rfl, Nat.le_of_ble_eq_true rfl, Nat.le_of_ble_eq_true rfl⟩ rfl ?_
  refine zj_put (pc := 57) (ci := 7) (C := RX7) (T := TX7) (N := 9) (ty0 := tyX7) (j := 0) (k := 5) (fs' := [.int (Int32.ofInt 0), .ref (a + 1), .ref (a + 2), .ref (a + 3), .ref (a + 4), .ref (a + 5), .null, .null, .null]) S hi.1 (tyX7 5) (.ref (a + 5)) dX7_init_57 rfl (Nat.le_of_ble_eq_true rfl) rfl rfl (fun w h => List.mem_cons_of_mem _ (zWuX7 w h)) tyX7_ok nmX7 (by decide) (List.mem_cons_of_mem _ (zWi_11 _ (List.mem_of_getElem? (i := 15) rfl))) rfl (tyX7_ok 5 (by decide)) rfl rfl (Nat.le_of_ble_eq_true rfl) rfl ?_
  refine zj_aload_n (pc := 60) S 0 dX7_init_60 rfl rfl ?_
  refine zj_bipush (pc := 61) S dX7_init_61 (by decide) ?_
  refine zj_newI (pc := 63) (N := 24) (n' := 7) S (6, 76) dX7_init_63 (List.mem_cons_of_mem _ (zWi_0 _ (List.mem_of_getElem? (i := 2) rfl))) (by decide) (by decide) (by decide) ⟨rfl, rfl, Nat.le_of_ble_eq_true rfl, Nat.le_of_ble_eq_true rfl⟩ rfl ?_
  refine zj_put (pc := 65) (ci := 7) (C := RX7) (T := TX7) (N := 9) (ty0 := tyX7) (j := 0) (k := 6) (fs' := [.int (Int32.ofInt 0), .ref (a + 1), .ref (a + 2), .ref (a + 3), .ref (a + 4), .ref (a + 5), .ref (a + 6), .null, .null]) S hi.1 (tyX7 6) (.ref (a + 6)) dX7_init_65 rfl (Nat.le_of_ble_eq_true rfl) rfl rfl (fun w h => List.mem_cons_of_mem _ (zWuX7 w h)) tyX7_ok nmX7 (by decide) (List.mem_cons_of_mem _ (zWi_11 _ (List.mem_of_getElem? (i := 16) rfl))) rfl (tyX7_ok 6 (by decide)) rfl rfl (Nat.le_of_ble_eq_true rfl) rfl ?_
  refine zj_aload_n (pc := 68) S 0 dX7_init_68 rfl rfl ?_
  refine zj_bipush (pc := 69) S dX7_init_69 (by decide) ?_
  refine zj_newI (pc := 71) (N := 8) (n' := 8) S (7, 84) dX7_init_71 (List.mem_cons_of_mem _ (zWi_0 _ (List.mem_of_getElem? (i := 2) rfl))) (by decide) (by decide) (by decide) ⟨rfl, rfl, Nat.le_of_ble_eq_true rfl, Nat.le_of_ble_eq_true rfl⟩ rfl ?_
  refine zj_put (pc := 73) (ci := 7) (C := RX7) (T := TX7) (N := 9) (ty0 := tyX7) (j := 0) (k := 7) (fs' := [.int (Int32.ofInt 0), .ref (a + 1), .ref (a + 2), .ref (a + 3), .ref (a + 4), .ref (a + 5), .ref (a + 6), .ref (a + 7), .null]) S hi.1 (tyX7 7) (.ref (a + 7)) dX7_init_73 rfl (Nat.le_of_ble_eq_true rfl) rfl rfl (fun w h => List.mem_cons_of_mem _ (zWuX7 w h)) tyX7_ok nmX7 (by decide) (List.mem_cons_of_mem _ (zWi_11 _ (List.mem_of_getElem? (i := 17) rfl))) rfl (tyX7_ok 7 (by decide)) rfl rfl (Nat.le_of_ble_eq_true rfl) rfl ?_
  refine zj_aload_n (pc := 76) S 0 dX7_init_76 rfl rfl ?_
  refine zj_bipush (pc := 77) S dX7_init_77 (by decide) ?_
  refine zj_newI (pc := 79) (N := 8) (n' := 9) S (8, 92) dX7_init_79 (List.mem_cons_of_mem _ (zWi_0 _ (List.mem_of_getElem? (i := 2) rfl))) (by decide) (by decide) (by decide) ⟨rfl, rfl, Nat.le_of_ble_eq_true rfl, Nat.le_of_ble_eq_true rfl⟩ rfl ?_
  refine zj_put (pc := 81) (ci := 7) (C := RX7) (T := TX7) (N := 9) (ty0 := tyX7) (j := 0) (k := 8) (fs' := [.int (Int32.ofInt 0), .ref (a + 1), .ref (a + 2), .ref (a + 3), .ref (a + 4), .ref (a + 5), .ref (a + 6), .ref (a + 7), .ref (a + 8)]) S hi.1 (tyX7 8) (.ref (a + 8)) dX7_init_81 rfl (Nat.le_of_ble_eq_true rfl) rfl rfl (fun w h => List.mem_cons_of_mem _ (zWuX7 w h)) tyX7_ok nmX7 (by decide) (List.mem_cons_of_mem _ (zWi_11 _ (List.mem_of_getElem? (i := 18) rfl))) rfl (tyX7_ok 8 (by decide)) rfl rfl (Nat.le_of_ble_eq_true rfl) rfl ?_
  exact zj_retc (pc := 84) S hi dX7_init_84 ⟨Nat.le_of_ble_eq_true rfl, Nat.le_of_ble_eq_true rfl⟩ rfl
end
section
def rmX2_init : Room := { frames := 1, cells := 5, slots := 40, locals := 12 }
abbrev wzX2_init : List Cond := .code yX2_init cX2_init 1 none :: zW
def fX2 (a : Nat) : List Value := [.int (Int32.ofInt 0), .ref (a + 1), .ref (a + 2), .ref (a + 3), .ref (a + 4), .ref (a + 5)]
def oX2 (E : zE) (a : Nat) : List (Nat × va_E) := (0, .inr (2, fX2 a)) :: ((1, zce E (.inl (0, 8)) (fun _ => 0)) :: ((2, zce E (.inl (0, 8)) (fun _ => 0)) :: ((3, zce E (.inl (0, 8)) (fun _ => 0)) :: ((4, zce E (.inl (0, 8)) (fun _ => 0)) :: ((5, zce E (.inl (0, 8)) (fun _ => 0)) :: ([]))))))
set_option maxRecDepth 20000 in
theorem hoX2 (E : zE) (a : Nat) : (List.range 6).all (fun j => (zlk (oX2 E a) j).isSome) = true := rfl
set_option maxHeartbeats 4000000 in
set_option maxRecDepth 20000 in
theorem ctX2 (l : Launch) (E : zE) (a : Nat) : zcM l yX2_init wzX2_init rmX2_init 5 40 E a [] [] (.inr (2, bX2)) 6 (oX2 E a) := by
  refine zcM.of (cc := cX2_init) (nL := 1) RX2 (by decide) rfl rfl rfl (Nat.le_of_ble_eq_true rfl) ?_
  intro X hl S hi hW hz
  subst hl
  show zJ E a rmX2_init 1 X _ (0, 0) 0 [(0, .ref a)] [] 1 [(0, .inr (2, bX2))]
  refine zj_aload_n (pc := 0) S 0 dX2_init_0 rfl rfl ?_
  refine zj_obj (pc := 1) S dX2_init_1 (List.mem_cons_of_mem _ (zWi_23 _ (List.mem_of_getElem? (i := 29) rfl))) (List.mem_cons_of_mem _ (zWi_12 _ (List.mem_of_getElem? (i := 22) rfl))) (List.mem_cons_of_mem _ (zWi_0 _ (List.mem_of_getElem? (i := 31) rfl))) (Nat.le_of_ble_eq_true rfl) (Nat.le_of_ble_eq_true rfl) ?_
  refine zj_aload_n (pc := 4) S 0 dX2_init_4 rfl rfl ?_
  refine zj_bipush (pc := 5) S dX2_init_5 (by decide) ?_
  refine zj_newI (pc := 7) (N := 8) (n' := 2) S (1, 8) dX2_init_7 (List.mem_cons_of_mem _ (zWi_0 _ (List.mem_of_getElem? (i := 2) rfl))) (by decide) (by decide) (by decide) ⟨rfl, rfl, Nat.le_of_ble_eq_true rfl, Nat.le_of_ble_eq_true rfl⟩ rfl ?_
  refine zj_put (pc := 9) (ci := 2) (C := RX2) (T := TX2) (N := 6) (ty0 := tyX2) (j := 0) (k := 1) (fs' := [.int (Int32.ofInt 0), .ref (a + 1), .null, .null, .null, .null]) S hi.1 (tyX2 1) (.ref (a + 1)) dX2_init_9 rfl (Nat.le_of_ble_eq_true rfl) rfl rfl (fun w h => List.mem_cons_of_mem _ (zWuX2 w h)) tyX2_ok nmX2 (by decide) (List.mem_cons_of_mem _ (zWi_9 _ (List.mem_of_getElem? (i := 45) rfl))) rfl (tyX2_ok 1 (by decide)) rfl rfl (Nat.le_of_ble_eq_true rfl) rfl ?_
  refine zj_aload_n (pc := 12) S 0 dX2_init_12 rfl rfl ?_
  refine zj_bipush (pc := 13) S dX2_init_13 (by decide) ?_
  refine zj_newI (pc := 15) (N := 8) (n' := 3) S (2, 16) dX2_init_15 (List.mem_cons_of_mem _ (zWi_0 _ (List.mem_of_getElem? (i := 2) rfl))) (by decide) (by decide) (by decide) ⟨rfl, rfl, Nat.le_of_ble_eq_true rfl, Nat.le_of_ble_eq_true rfl⟩ rfl ?_
  refine zj_put (pc := 17) (ci := 2) (C := RX2) (T := TX2) (N := 6) (ty0 := tyX2) (j := 0) (k := 2) (fs' := [.int (Int32.ofInt 0), .ref (a + 1), .ref (a + 2), .null, .null, .null]) S hi.1 (tyX2 2) (.ref (a + 2)) dX2_init_17 rfl (Nat.le_of_ble_eq_true rfl) rfl rfl (fun w h => List.mem_cons_of_mem _ (zWuX2 w h)) tyX2_ok nmX2 (by decide) (List.mem_cons_of_mem _ (zWi_9 _ (List.mem_of_getElem? (i := 40) rfl))) rfl (tyX2_ok 2 (by decide)) rfl rfl (Nat.le_of_ble_eq_true rfl) rfl ?_
  refine zj_aload_n (pc := 20) S 0 dX2_init_20 rfl rfl ?_
  refine zj_bipush (pc := 21) S dX2_init_21 (by decide) ?_
  refine zj_newI (pc := 23) (N := 8) (n' := 4) S (3, 24) dX2_init_23 (List.mem_cons_of_mem _ (zWi_0 _ (List.mem_of_getElem? (i := 2) rfl))) (by decide) (by decide) (by decide) ⟨rfl, rfl, Nat.le_of_ble_eq_true rfl, Nat.le_of_ble_eq_true rfl⟩ rfl ?_
  refine zj_put (pc := 25) (ci := 2) (C := RX2) (T := TX2) (N := 6) (ty0 := tyX2) (j := 0) (k := 3) (fs' := [.int (Int32.ofInt 0), .ref (a + 1), .ref (a + 2), .ref (a + 3), .null, .null]) S hi.1 (tyX2 3) (.ref (a + 3)) dX2_init_25 rfl (Nat.le_of_ble_eq_true rfl) rfl rfl (fun w h => List.mem_cons_of_mem _ (zWuX2 w h)) tyX2_ok nmX2 (by decide) (List.mem_cons_of_mem _ (zWi_9 _ (List.mem_of_getElem? (i := 41) rfl))) rfl (tyX2_ok 3 (by decide)) rfl rfl (Nat.le_of_ble_eq_true rfl) rfl ?_
  refine zj_aload_n (pc := 28) S 0 dX2_init_28 rfl rfl ?_
  refine zj_bipush (pc := 29) S dX2_init_29 (by decide) ?_
  refine zj_newI (pc := 31) (N := 8) (n' := 5) S (4, 32) dX2_init_31 (List.mem_cons_of_mem _ (zWi_0 _ (List.mem_of_getElem? (i := 2) rfl))) (by decide) (by decide) (by decide) ⟨rfl, rfl, Nat.le_of_ble_eq_true rfl, Nat.le_of_ble_eq_true rfl⟩ rfl ?_
  refine zj_put (pc := 33) (ci := 2) (C := RX2) (T := TX2) (N := 6) (ty0 := tyX2) (j := 0) (k := 4) (fs' := [.int (Int32.ofInt 0), .ref (a + 1), .ref (a + 2), .ref (a + 3), .ref (a + 4), .null]) S hi.1 (tyX2 4) (.ref (a + 4)) dX2_init_33 rfl (Nat.le_of_ble_eq_true rfl) rfl rfl (fun w h => List.mem_cons_of_mem _ (zWuX2 w h)) tyX2_ok nmX2 (by decide) (List.mem_cons_of_mem _ (zWi_9 _ (List.mem_of_getElem? (i := 42) rfl))) rfl (tyX2_ok 4 (by decide)) rfl rfl (Nat.le_of_ble_eq_true rfl) rfl ?_
  refine zj_aload_n (pc := 36) S 0 dX2_init_36 rfl rfl ?_
  refine zj_bipush (pc := 37) S dX2_init_37 (by decide) ?_
  refine zj_newI (pc := 39) (N := 8) (n' := 6) S (5, 40) dX2_init_39 (List.mem_cons_of_mem _ (zWi_0 _ (List.mem_of_getElem? (i := 2) rfl))) (by decide) (by decide) (by decide) ⟨rfl, rfl, Nat.le_of_ble_eq_true rfl, Nat.le_of_ble_eq_true rfl⟩ rfl ?_
  refine zj_put (pc := 41) (ci := 2) (C := RX2) (T := TX2) (N := 6) (ty0 := tyX2) (j := 0) (k := 5) (fs' := [.int (Int32.ofInt 0), .ref (a + 1), .ref (a + 2), .ref (a + 3), .ref (a + 4), .ref (a + 5)]) S hi.1 (tyX2 5) (.ref (a + 5)) dX2_init_41 rfl (Nat.le_of_ble_eq_true rfl) rfl rfl (fun w h => List.mem_cons_of_mem _ (zWuX2 w h)) tyX2_ok nmX2 (by decide) (List.mem_cons_of_mem _ (zWi_9 _ (List.mem_of_getElem? (i := 43) rfl))) rfl (tyX2_ok 5 (by decide)) rfl rfl (Nat.le_of_ble_eq_true rfl) rfl ?_
  exact zj_retc (pc := 44) S hi dX2_init_44 ⟨Nat.le_of_ble_eq_true rfl, Nat.le_of_ble_eq_true rfl⟩ rfl
end
