section
def rmX9_init : Room := { frames := 1, cells := 11, slots := 404, locals := 12 }
abbrev wzX9_init : List Cond := .code yX9_init cX9_init 1 none :: zW
def fX9 (a : Nat) : List Value := [.ref (a + 1), .ref (a + 2), .ref (a + 3), .ref (a + 4), .ref (a + 5), .ref (a + 6), .int (Int32.ofInt 0), .ref (a + 7), .ref (a + 8), .ref (a + 9), .ref (a + 10), .int (Int32.ofInt 0), .ref (a + 11)]
def oX9 (E : zE) (a : Nat) : List (Nat × va_E) := (0, .inr (9, fX9 a)) :: ((1, zce E (.inl (0, 160)) (fun _ => 0)) :: ((2, zce E (.inl (0, 8)) (fun _ => 0)) :: ((3, zce E (.inl (0, 8)) (fun _ => 0)) :: ((4, zce E (.inl (0, 8)) (fun _ => 0)) :: ((5, zce E (.inl (0, 8)) (fun _ => 0)) :: ((6, zce E (.inl (0, 4)) (fun i => if i = 3 then 1 else if i = 2 then 1 else if i = 1 then 1 else if i = 0 then 1 else 0)) :: ((7, zce E (.inl (0, 12)) (fun _ => 0)) :: ((8, zce E (.inl (0, 12)) (fun _ => 0)) :: ((9, zce E (.inl (0, 12)) (fun _ => 0)) :: ((10, zce E (.inl (0, 12)) (fun _ => 0)) :: ((11, zce E (.inl (0, 160)) (fun _ => 0)) :: ([]))))))))))))
set_option maxRecDepth 20000 in
theorem hoX9 (E : zE) (a : Nat) : (List.range 12).all (fun j => (zlk (oX9 E a) j).isSome) = true := rfl
set_option maxHeartbeats 4000000 in
set_option maxRecDepth 20000 in
theorem ctX9 (l : Launch) (E : zE) (a : Nat) : zcM l yX9_init wzX9_init rmX9_init 11 404 E a [] [] (.inr (9, bX9)) 12 (oX9 E a) := by
  refine zcM.of (cc := cX9_init) (nL := 1) RX9 (by decide) rfl rfl rfl (Nat.le_of_ble_eq_true rfl) ?_
  intro X hl S hi hW hz
  subst hl
  show zJ E a rmX9_init 1 X _ (0, 0) 0 [(0, .ref a)] [] 1 [(0, .inr (9, bX9))]
  refine zj_aload_n (pc := 0) S 0 dX9_init_0 rfl rfl ?_
  refine zj_obj (pc := 1) S dX9_init_1 (List.mem_cons_of_mem _ (zWi_25 _ (List.mem_of_getElem? (i := 2) rfl))) (List.mem_cons_of_mem _ (zWi_12 _ (List.mem_of_getElem? (i := 22) rfl))) (List.mem_cons_of_mem _ (zWi_0 _ (List.mem_of_getElem? (i := 31) rfl))) (Nat.le_of_ble_eq_true rfl) (Nat.le_of_ble_eq_true rfl) ?_
  refine zj_aload_n (pc := 4) S 0 dX9_init_4 rfl rfl ?_
  refine zj_sipush (pc := 5) S dX9_init_5 (by decide) ?_
  refine zj_newI (pc := 8) (N := 160) (n' := 2) S (1, 160) dX9_init_8 (List.mem_cons_of_mem _ (zWi_0 _ (List.mem_of_getElem? (i := 2) rfl))) (by decide) (by decide) (by decide) ⟨rfl, rfl, Nat.le_of_ble_eq_true rfl, Nat.le_of_ble_eq_true rfl⟩ rfl ?_
  refine zj_put (pc := 10) (ci := 9) (C := RX9) (T := TX9) (N := 13) (ty0 := tyX9) (j := 0) (k := 0) (fs' := [.ref (a + 1), .null, .null, .null, .null, .null, .int (Int32.ofInt 0), .null, .null, .null, .null, .int (Int32.ofInt 0), .null]) S hi.1 (tyX9 0) (.ref (a + 1)) dX9_init_10 rfl (Nat.le_of_ble_eq_true rfl) rfl rfl (fun w h => List.mem_cons_of_mem _ (zWuX9 w h)) tyX9_ok nmX9 (by decide) (List.mem_cons_of_mem _ (zWi_11 _ (List.mem_of_getElem? (i := 46) rfl))) rfl (tyX9_ok 0 (by decide)) rfl rfl (Nat.le_of_ble_eq_true rfl) rfl ?_
  refine zj_aload_n (pc := 13) S 0 dX9_init_13 rfl rfl ?_
  refine zj_bipush (pc := 14) S dX9_init_14 (by decide) ?_
  refine zj_newI (pc := 16) (N := 8) (n' := 3) S (2, 168) dX9_init_16 (List.mem_cons_of_mem _ (zWi_0 _ (List.mem_of_getElem? (i := 2) rfl))) (by decide) (by decide) (by decide) ⟨rfl, rfl, Nat.le_of_ble_eq_true rfl, Nat.le_of_ble_eq_true rfl⟩ rfl ?_
  refine zj_put (pc := 18) (ci := 9) (C := RX9) (T := TX9) (N := 13) (ty0 := tyX9) (j := 0) (k := 1) (fs' := [.ref (a + 1), .ref (a + 2), .null, .null, .null, .null, .int (Int32.ofInt 0), .null, .null, .null, .null, .int (Int32.ofInt 0), .null]) S hi.1 (tyX9 1) (.ref (a + 2)) dX9_init_18 rfl (Nat.le_of_ble_eq_true rfl) rfl rfl (fun w h => List.mem_cons_of_mem _ (zWuX9 w h)) tyX9_ok nmX9 (by decide) (List.mem_cons_of_mem _ (zWi_11 _ (List.mem_of_getElem? (i := 34) rfl))) rfl (tyX9_ok 1 (by decide)) rfl rfl (Nat.le_of_ble_eq_true rfl) rfl ?_
  refine zj_aload_n (pc := 21) S 0 dX9_init_21 rfl rfl ?_
  refine zj_bipush (pc := 22) S dX9_init_22 (by decide) ?_
  refine zj_newI (pc := 24) (N := 8) (n' := 4) S (3, 176) dX9_init_24 (List.mem_cons_of_mem _ (zWi_0 _ (List.mem_of_getElem? (i := 2) rfl))) (by decide) (by decide) (by decide) ⟨rfl, rfl, Nat.le_of_ble_eq_true rfl, Nat.le_of_ble_eq_true rfl⟩ rfl ?_
  refine zj_put (pc := 26) (ci := 9) (C := RX9) (T := TX9) (N := 13) (ty0 := tyX9) (j := 0) (k := 2) (fs' := [.ref (a + 1), .ref (a + 2), .ref (a + 3), .null, .null, .null, .int (Int32.ofInt 0), .null, .null, .null, .null, .int (Int32.ofInt 0), .null]) S hi.1 (tyX9 2) (.ref (a + 3)) dX9_init_26 rfl (Nat.le_of_ble_eq_true rfl) rfl rfl (fun w h => List.mem_cons_of_mem _ (zWuX9 w h)) tyX9_ok nmX9 (by decide) (List.mem_cons_of_mem _ (zWi_11 _ (List.mem_of_getElem? (i := 35) rfl))) rfl (tyX9_ok 2 (by decide)) rfl rfl (Nat.le_of_ble_eq_true rfl) rfl ?_
  refine zj_aload_n (pc := 29) S 0 dX9_init_29 rfl rfl ?_
  refine zj_bipush (pc := 30) S dX9_init_30 (by decide) ?_
  refine zj_newI (pc := 32) (N := 8) (n' := 5) S (4, 184) dX9_init_32 (List.mem_cons_of_mem _ (zWi_0 _ (List.mem_of_getElem? (i := 2) rfl))) (by decide) (by decide) (by decide) ⟨rfl, rfl, Nat.le_of_ble_eq_true rfl, Nat.le_of_ble_eq_true rfl⟩ rfl ?_
  refine zj_put (pc := 34) (ci := 9) (C := RX9) (T := TX9) (N := 13) (ty0 := tyX9) (j := 0) (k := 3) (fs' := [.ref (a + 1), .ref (a + 2), .ref (a + 3), .ref (a + 4), .null, .null, .int (Int32.ofInt 0), .null, .null, .null, .null, .int (Int32.ofInt 0), .null]) S hi.1 (tyX9 3) (.ref (a + 4)) dX9_init_34 rfl (Nat.le_of_ble_eq_true rfl) rfl rfl (fun w h => List.mem_cons_of_mem _ (zWuX9 w h)) tyX9_ok nmX9 (by decide) (List.mem_cons_of_mem _ (zWi_11 _ (List.mem_of_getElem? (i := 36) rfl))) rfl (tyX9_ok 3 (by decide)) rfl rfl (Nat.le_of_ble_eq_true rfl) rfl ?_
  refine zj_aload_n (pc := 37) S 0 dX9_init_37 rfl rfl ?_
  refine zj_bipush (pc := 38) S dX9_init_38 (by decide) ?_
  refine zj_newI (pc := 40) (N := 8) (n' := 6) S (5, 192) dX9_init_40 (List.mem_cons_of_mem _ (zWi_0 _ (List.mem_of_getElem? (i := 2) rfl))) (by decide) (by decide) (by decide) ⟨rfl, rfl, Nat.le_of_ble_eq_true rfl, Nat.le_of_ble_eq_true rfl⟩ rfl ?_
  refine zj_put (pc := 42) (ci := 9) (C := RX9) (T := TX9) (N := 13) (ty0 := tyX9) (j := 0) (k := 4) (fs' := [.ref (a + 1), .ref (a + 2), .ref (a + 3), .ref (a + 4), .ref (a + 5), .null, .int (Int32.ofInt 0), .null, .null, .null, .null, .int (Int32.ofInt 0), .null]) S hi.1 (tyX9 4) (.ref (a + 5)) dX9_init_42 rfl (Nat.le_of_ble_eq_true rfl) rfl rfl (fun w h => List.mem_cons_of_mem _ (zWuX9 w h)) tyX9_ok nmX9 (by decide) (List.mem_cons_of_mem _ (zWi_11 _ (List.mem_of_getElem? (i := 37) rfl))) rfl (tyX9_ok 4 (by decide)) rfl rfl (Nat.le_of_ble_eq_true rfl) rfl ?_
  refine zj_aload_n (pc := 45) S 0 dX9_init_45 rfl rfl ?_
  refine zj_iconst (pc := 46) S dX9_init_46 ?_
  refine zj_newI (pc := 47) (N := 4) (n' := 7) S (6, 196) dX9_init_47 (List.mem_cons_of_mem _ (zWi_0 _ (List.mem_of_getElem? (i := 2) rfl))) (by decide) (by decide) (by decide) ⟨rfl, rfl, Nat.le_of_ble_eq_true rfl, Nat.le_of_ble_eq_true rfl⟩ rfl ?_
  refine zj_dup (pc := 49) S dX9_init_49 ?_
  refine zj_iconst (pc := 50) S dX9_init_50 ?_
  refine zj_iconst (pc := 51) S dX9_init_51 ?_
  refine zj_iast (pc := 52) (j := 6) (N := 4) S 0 dX9_init_52 rfl (Nat.le_of_ble_eq_true rfl) rfl rfl (by decide) (by decide) ?_
  refine zj_dup (pc := 53) S dX9_init_53 ?_
  refine zj_iconst (pc := 54) S dX9_init_54 ?_
  refine zj_iconst (pc := 55) S dX9_init_55 ?_
  refine zj_iast (pc := 56) (j := 6) (N := 4) S 1 dX9_init_56 rfl (Nat.le_of_ble_eq_true rfl) rfl rfl (by decide) (by decide) ?_
  refine zj_dup (pc := 57) S dX9_init_57 ?_
  refine zj_iconst (pc := 58) S dX9_init_58 ?_
  refine zj_iconst (pc := 59) S dX9_init_59 ?_
  refine zj_iast (pc := 60) (j := 6) (N := 4) S 2 dX9_init_60 rfl (Nat.le_of_ble_eq_true rfl) rfl rfl (by decide) (by decide) ?_
  refine zj_dup (pc := 61) S dX9_init_61 ?_
  refine zj_iconst (pc := 62) S dX9_init_62 ?_
  refine zj_iconst (pc := 63) S dX9_init_63 ?_
  refine zj_iast (pc := 64) (j := 6) (N := 4) S 3 dX9_init_64 rfl (Nat.le_of_ble_eq_true rfl) rfl rfl (by decide) (by decide) ?_
  refine zj_put (pc := 65) (ci := 9) (C := RX9) (T := TX9) (N := 13) (ty0 := tyX9) (j := 0) (k := 5) (fs' := [.ref (a + 1), .ref (a + 2), .ref (a + 3), .ref (a + 4), .ref (a + 5), .ref (a + 6), .int (Int32.ofInt 0), .null, .null, .null, .null, .int (Int32.ofInt 0), .null]) S hi.1 (tyX9 5) (.ref (a + 6)) dX9_init_65 rfl (Nat.le_of_ble_eq_true rfl) rfl rfl (fun w h => List.mem_cons_of_mem _ (zWuX9 w h)) tyX9_ok nmX9 (by decide) (List.mem_cons_of_mem _ (zWi_11 _ (List.mem_of_getElem? (i := 38) rfl))) rfl (tyX9_ok 5 (by decide)) rfl rfl (Nat.le_of_ble_eq_true rfl) rfl ?_
  refine zj_aload_n (pc := 68) S 0 dX9_init_68 rfl rfl ?_
  refine zj_bipush (pc := 69) S dX9_init_69 (by decide) ?_
  refine zj_newI (pc := 71) (N := 12) (n' := 8) S (7, 208) dX9_init_71 (List.mem_cons_of_mem _ (zWi_0 _ (List.mem_of_getElem? (i := 2) rfl))) (by decide) (by decide) (by decide) ⟨rfl, rfl, Nat.le_of_ble_eq_true rfl, Nat.le_of_ble_eq_true rfl⟩ rfl ?_
  refine zj_put (pc := 73) (ci := 9) (C := RX9) (T := TX9) (N := 13) (ty0 := tyX9) (j := 0) (k := 7) (fs' := [.ref (a + 1), .ref (a + 2), .ref (a + 3), .ref (a + 4), .ref (a + 5), .ref (a + 6), .int (Int32.ofInt 0), .ref (a + 7), .null, .null, .null, .int (Int32.ofInt 0), .null]) S hi.1 (tyX9 7) (.ref (a + 7)) dX9_init_73 rfl (Nat.le_of_ble_eq_true rfl) rfl rfl (fun w h => List.mem_cons_of_mem _ (zWuX9 w h)) tyX9_ok nmX9 (by decide) (List.mem_cons_of_mem _ (zWi_11 _ (List.mem_of_getElem? (i := 39) rfl))) rfl (tyX9_ok 7 (by decide)) rfl rfl (Nat.le_of_ble_eq_true rfl) rfl ?_
  refine zj_aload_n (pc := 76) S 0 dX9_init_76 rfl rfl ?_
  refine zj_bipush (pc := 77) S dX9_init_77 (by decide) ?_
  refine zj_newI (pc := 79) (N := 12) (n' := 9) S (8, 220) dX9_init_79 (List.mem_cons_of_mem _ (zWi_0 _ (List.mem_of_getElem? (i := 2) rfl))) (by decide) (by decide) (by decide) ⟨rfl, rfl, Nat.le_of_ble_eq_true rfl, Nat.le_of_ble_eq_true rfl⟩ rfl ?_
  refine zj_put (pc := 81) (ci := 9) (C := RX9) (T := TX9) (N := 13) (ty0 := tyX9) (j := 0) (k := 8) (fs' := [.ref (a + 1), .ref (a + 2), .ref (a + 3), .ref (a + 4), .ref (a + 5), .ref (a + 6), .int (Int32.ofInt 0), .ref (a + 7), .ref (a + 8), .null, .null, .int (Int32.ofInt 0), .null]) S hi.1 (tyX9 8) (.ref (a + 8)) dX9_init_81 rfl (Nat.le_of_ble_eq_true rfl) rfl rfl (fun w h => List.mem_cons_of_mem _ (zWuX9 w h)) tyX9_ok nmX9 (by decide) (List.mem_cons_of_mem _ (zWi_11 _ (List.mem_of_getElem? (i := 40) rfl))) rfl (tyX9_ok 8 (by decide)) rfl rfl (Nat.le_of_ble_eq_true rfl) rfl ?_
  refine zj_aload_n (pc := 84) S 0 dX9_init_84 rfl rfl ?_
  refine zj_bipush (pc := 85) S dX9_init_85 (by decide) ?_
  refine zj_newI (pc := 87) (N := 12) (n' := 10) S (9, 232) dX9_init_87 (List.mem_cons_of_mem _ (zWi_0 _ (List.mem_of_getElem? (i := 2) rfl))) (by decide) (by decide) (by decide) ⟨rfl, rfl, Nat.le_of_ble_eq_true rfl, Nat.le_of_ble_eq_true rfl⟩ rfl ?_
  refine zj_put (pc := 89) (ci := 9) (C := RX9) (T := TX9) (N := 13) (ty0 := tyX9) (j := 0) (k := 9) (fs' := [.ref (a + 1), .ref (a + 2), .ref (a + 3), .ref (a + 4), .ref (a + 5), .ref (a + 6), .int (Int32.ofInt 0), .ref (a + 7), .ref (a + 8), .ref (a + 9), .null, .int (Int32.ofInt 0), .null]) S hi.1 (tyX9 9) (.ref (a + 9)) dX9_init_89 rfl (Nat.le_of_ble_eq_true rfl) rfl rfl (fun w h => List.mem_cons_of_mem _ (zWuX9 w h)) tyX9_ok nmX9 (by decide) (List.mem_cons_of_mem _ (zWi_11 _ (List.mem_of_getElem? (i := 41) rfl))) rfl (tyX9_ok 9 (by decide)) rfl rfl (Nat.le_of_ble_eq_true rfl) rfl ?_
  refine zj_aload_n (pc := 92) S 0 dX9_init_92 rfl rfl ?_
  refine zj_bipush (pc := 93) S dX9_init_93 (by decide) ?_
  refine zj_newI (pc := 95) (N := 12) (n' := 11) S (10, 244) dX9_init_95 (List.mem_cons_of_mem _ (zWi_0 _ (List.mem_of_getElem? (i := 2) rfl))) (by decide) (by decide) (by decide) ⟨rfl, rfl, Nat.le_of_ble_eq_true rfl, Nat.le_of_ble_eq_true rfl⟩ rfl ?_
  refine zj_put (pc := 97) (ci := 9) (C := RX9) (T := TX9) (N := 13) (ty0 := tyX9) (j := 0) (k := 10) (fs' := [.ref (a + 1), .ref (a + 2), .ref (a + 3), .ref (a + 4), .ref (a + 5), .ref (a + 6), .int (Int32.ofInt 0), .ref (a + 7), .ref (a + 8), .ref (a + 9), .ref (a + 10), .int (Int32.ofInt 0), .null]) S hi.1 (tyX9 10) (.ref (a + 10)) dX9_init_97 rfl (Nat.le_of_ble_eq_true rfl) rfl rfl (fun w h => List.mem_cons_of_mem _ (zWuX9 w h)) tyX9_ok nmX9 (by decide) (List.mem_cons_of_mem _ (zWi_11 _ (List.mem_of_getElem? (i := 42) rfl))) rfl (tyX9_ok 10 (by decide)) rfl rfl (Nat.le_of_ble_eq_true rfl) rfl ?_
  refine zj_aload_n (pc := 100) S 0 dX9_init_100 rfl rfl ?_
  refine zj_sipush (pc := 101) S dX9_init_101 (by decide) ?_
  refine zj_newI (pc := 104) (N := 160) (n' := 12) S (11, 404) dX9_init_104 (List.mem_cons_of_mem _ (zWi_0 _ (List.mem_of_getElem? (i := 2) rfl))) (by decide) (by decide) (by decide) ⟨rfl, rfl, Nat.le_of_ble_eq_true rfl, Nat.le_of_ble_eq_true rfl⟩ rfl ?_
  refine zj_put (pc := 106) (ci := 9) (C := RX9) (T := TX9) (N := 13) (ty0 := tyX9) (j := 0) (k := 12) (fs' := [.ref (a + 1), .ref (a + 2), .ref (a + 3), .ref (a + 4), .ref (a + 5), .ref (a + 6), .int (Int32.ofInt 0), .ref (a + 7), .ref (a + 8), .ref (a + 9), .ref (a + 10), .int (Int32.ofInt 0), .ref (a + 11)]) S hi.1 (tyX9 12) (.ref (a + 11)) dX9_init_106 rfl (Nat.le_of_ble_eq_true rfl) rfl rfl (fun w h => List.mem_cons_of_mem _ (zWuX9 w h)) tyX9_ok nmX9 (by decide) (List.mem_cons_of_mem _ (zWi_11 _ (List.mem_of_getElem? (i := 43) rfl))) rfl (tyX9_ok 12 (by decide)) rfl rfl (Nat.le_of_ble_eq_true rfl) rfl ?_
  exact zj_retc (pc := 109) S hi dX9_init_109 ⟨Nat.le_of_ble_eq_true rfl, Nat.le_of_ble_eq_true rfl⟩ rfl
end
