section
def rmX3_init : Room := { frames := 1, cells := 2, slots := 16, locals := 12 }
abbrev wzX3_init : List Cond := .code yX3_init cX3_init 3 none :: zW
def fX3 (a : Nat) (s1 : Nat) (s2 : Nat) : List Value := [.ref s1, .ref s2, .ref (a + 1), .ref (a + 2), .int (Int32.ofInt 0), .int (Int32.ofInt 0), .int (Int32.ofInt 0)]
def oX3 (E : zE) (a : Nat) (s1 : Nat) (s2 : Nat) : List (Nat × va_E) := (0, .inr (3, fX3 a s1 s2)) :: ((1, zce E (.inl (0, 8)) (fun _ => 0)) :: ((2, zce E (.inl (0, 8)) (fun _ => 0)) :: ([])))
set_option maxRecDepth 20000 in
theorem hoX3 (E : zE) (a : Nat) (s1 : Nat) (s2 : Nat) : (List.range 3).all (fun j => (zlk (oX3 E a s1 s2) j).isSome) = true := rfl
set_option maxHeartbeats 4000000 in
set_option maxRecDepth 20000 in
theorem ctX3 (l : Launch) (E : zE) (a : Nat) (s1 : Nat) (s2 : Nat) : zcM l yX3_init wzX3_init rmX3_init 2 16 E a [.ref s1, .ref s2] [] (.inr (3, bX3)) 3 (oX3 E a s1 s2) := by
  refine zcM.of (cc := cX3_init) (nL := 3) RX3 (by decide) rfl rfl rfl (Nat.le_of_ble_eq_true rfl) ?_
  intro X hl S hi hW hz
  subst hl
  show zJ E a rmX3_init 3 X _ (0, 0) 0 [(0, .ref a), (1, .ref s1), (2, .ref s2)] [] 1 [(0, .inr (3, bX3))]
  refine zj_aload_n (pc := 0) S 0 dX3_init_0 rfl rfl ?_
  refine zj_obj (pc := 1) S dX3_init_1 (List.mem_cons_of_mem _ (zWi_23 _ (List.mem_of_getElem? (i := 31) rfl))) (List.mem_cons_of_mem _ (zWi_12 _ (List.mem_of_getElem? (i := 22) rfl))) (List.mem_cons_of_mem _ (zWi_0 _ (List.mem_of_getElem? (i := 31) rfl))) (Nat.le_of_ble_eq_true rfl) (Nat.le_of_ble_eq_true rfl) ?_
  refine zj_aload_n (pc := 4) S 0 dX3_init_4 rfl rfl ?_
  refine zj_bipush (pc := 5) S dX3_init_5 (by decide) ?_
  refine zj_newI (pc := 7) (N := 8) (n' := 2) S (1, 8) dX3_init_7 (List.mem_cons_of_mem _ (zWi_0 _ (List.mem_of_getElem? (i := 2) rfl))) (by decide) (by decide) (by decide) ⟨rfl, rfl, Nat.le_of_ble_eq_true rfl, Nat.le_of_ble_eq_true rfl⟩ rfl ?_
  refine zj_put (pc := 9) (ci := 3) (C := RX3) (T := TX3) (N := 7) (ty0 := tyX3) (j := 0) (k := 2) (fs' := [.null, .null, .ref (a + 1), .null, .int (Int32.ofInt 0), .int (Int32.ofInt 0), .int (Int32.ofInt 0)]) S hi.1 (tyX3 2) (.ref (a + 1)) dX3_init_9 rfl (Nat.le_of_ble_eq_true rfl) rfl rfl (fun w h => List.mem_cons_of_mem _ (zWuX3 w h)) tyX3_ok nmX3 (by decide) (List.mem_cons_of_mem _ (zWi_10 _ (List.mem_of_getElem? (i := 7) rfl))) rfl (tyX3_ok 2 (by decide)) rfl rfl (Nat.le_of_ble_eq_true rfl) rfl ?_
  refine zj_aload_n (pc := 12) S 0 dX3_init_12 rfl rfl ?_
  refine zj_bipush (pc := 13) S dX3_init_13 (by decide) ?_
  refine zj_newI (pc := 15) (N := 8) (n' := 3) S (2, 16) dX3_init_15 (List.mem_cons_of_mem _ (zWi_0 _ (List.mem_of_getElem? (i := 2) rfl))) (by decide) (by decide) (by decide) ⟨rfl, rfl, Nat.le_of_ble_eq_true rfl, Nat.le_of_ble_eq_true rfl⟩ rfl ?_
  refine zj_put (pc := 17) (ci := 3) (C := RX3) (T := TX3) (N := 7) (ty0 := tyX3) (j := 0) (k := 3) (fs' := [.null, .null, .ref (a + 1), .ref (a + 2), .int (Int32.ofInt 0), .int (Int32.ofInt 0), .int (Int32.ofInt 0)]) S hi.1 (tyX3 3) (.ref (a + 2)) dX3_init_17 rfl (Nat.le_of_ble_eq_true rfl) rfl rfl (fun w h => List.mem_cons_of_mem _ (zWuX3 w h)) tyX3_ok nmX3 (by decide) (List.mem_cons_of_mem _ (zWi_9 _ (List.mem_of_getElem? (i := 46) rfl))) rfl (tyX3_ok 3 (by decide)) rfl rfl (Nat.le_of_ble_eq_true rfl) rfl ?_
  refine zj_aload_n (pc := 20) S 0 dX3_init_20 rfl rfl ?_
  refine zj_aload_n (pc := 21) S 1 dX3_init_21 rfl rfl ?_
  refine zj_put (pc := 22) (ci := 3) (C := RX3) (T := TX3) (N := 7) (ty0 := tyX3) (j := 0) (k := 0) (fs' := [.ref s1, .null, .ref (a + 1), .ref (a + 2), .int (Int32.ofInt 0), .int (Int32.ofInt 0), .int (Int32.ofInt 0)]) S hi.1 (tyX3 0) (.ref s1) dX3_init_22 rfl (Nat.le_of_ble_eq_true rfl) rfl rfl (fun w h => List.mem_cons_of_mem _ (zWuX3 w h)) tyX3_ok nmX3 (by decide) (List.mem_cons_of_mem _ (zWi_9 _ (List.mem_of_getElem? (i := 47) rfl))) rfl (tyX3_ok 0 (by decide)) rfl rfl (Nat.le_of_ble_eq_true rfl) rfl ?_
  refine zj_aload_n (pc := 25) S 0 dX3_init_25 rfl rfl ?_
  refine zj_aload_n (pc := 26) S 2 dX3_init_26 rfl rfl ?_
  refine zj_put (pc := 27) (ci := 3) (C := RX3) (T := TX3) (N := 7) (ty0 := tyX3) (j := 0) (k := 1) (fs' := [.ref s1, .ref s2, .ref (a + 1), .ref (a + 2), .int (Int32.ofInt 0), .int (Int32.ofInt 0), .int (Int32.ofInt 0)]) S hi.1 (tyX3 1) (.ref s2) dX3_init_27 rfl (Nat.le_of_ble_eq_true rfl) rfl rfl (fun w h => List.mem_cons_of_mem _ (zWuX3 w h)) tyX3_ok nmX3 (by decide) (List.mem_cons_of_mem _ (zWi_9 _ (List.mem_of_getElem? (i := 48) rfl))) rfl (tyX3_ok 1 (by decide)) rfl rfl (Nat.le_of_ble_eq_true rfl) rfl ?_
  exact zj_retc (pc := 30) S hi dX3_init_30 ⟨Nat.le_of_ble_eq_true rfl, Nat.le_of_ble_eq_true rfl⟩ rfl
end
section
def rmX5_init : Room := { frames := 1, cells := 5, slots := 113, locals := 12 }
abbrev wzX5_init : List Cond := .code yX5_init cX5_init 3 none :: zW
def fX5 (a : Nat) (s1 : Nat) (s2 : Nat) (sq : Nat) : List Value := [.ref s1, .ref sq, .ref s2, .ref (a + 1), .ref (a + 2), .ref (a + 3), .ref (a + 4), .ref (a + 5)]
def oX5 (E : zE) (a : Nat) (s1 : Nat) (s2 : Nat) (sq : Nat) : List (Nat × va_E) := (0, .inr (5, fX5 a s1 s2 sq)) :: ((1, zce E (.inl (0, 32)) (fun _ => 0)) :: ((2, zce E (.inl (0, 5)) (fun _ => 0)) :: ((3, zce E (.inl (1, 15)) (fun _ => 0)) :: ((4, zce E (.inl (1, 16)) (fun _ => 0)) :: ((5, zce E (.inl (1, 45)) (fun _ => 0)) :: ([]))))))
set_option maxRecDepth 20000 in
theorem hoX5 (E : zE) (a : Nat) (s1 : Nat) (s2 : Nat) (sq : Nat) : (List.range 6).all (fun j => (zlk (oX5 E a s1 s2 sq) j).isSome) = true := rfl
set_option maxHeartbeats 4000000 in
set_option maxRecDepth 20000 in
theorem ctX5 (l : Launch) (E : zE) (a : Nat) (s1 : Nat) (s2 : Nat) (sq : Nat) (gs : List Value) (hgs : gs[0]? = some (.ref sq)) : zcM l yX5_init wzX5_init rmX5_init 5 113 E a [.ref s1, .ref s2] [(s1, .inr (8, gs))] (.inr (5, bX5)) 6 (oX5 E a s1 s2 sq) := by
  refine zcM.of (cc := cX5_init) (nL := 3) RX5 (by decide) rfl rfl rfl (Nat.le_of_ble_eq_true rfl) ?_
  intro X hl S hi hW hz
  subst hl
  show zJ E a rmX5_init 3 X _ (0, 0) 0 [(0, .ref a), (1, .ref s1), (2, .ref s2)] [] 1 [(0, .inr (5, bX5))]
  refine zj_aload_n (pc := 0) S 0 dX5_init_0 rfl rfl ?_
  refine zj_obj (pc := 1) S dX5_init_1 (List.mem_cons_of_mem _ (zWi_24 _ (List.mem_of_getElem? (i := 12) rfl))) (List.mem_cons_of_mem _ (zWi_12 _ (List.mem_of_getElem? (i := 22) rfl))) (List.mem_cons_of_mem _ (zWi_0 _ (List.mem_of_getElem? (i := 31) rfl))) (Nat.le_of_ble_eq_true rfl) (Nat.le_of_ble_eq_true rfl) ?_
  refine zj_aload_n (pc := 4) S 0 dX5_init_4 rfl rfl ?_
  refine zj_bipush (pc := 5) S dX5_init_5 (by decide) ?_
  refine zj_newI (pc := 7) (N := 32) (n' := 2) S (1, 32) dX5_init_7 (List.mem_cons_of_mem _ (zWi_0 _ (List.mem_of_getElem? (i := 2) rfl))) (by decide) (by decide) (by decide) ⟨rfl, rfl, Nat.le_of_ble_eq_true rfl, Nat.le_of_ble_eq_true rfl⟩ rfl ?_
  refine zj_put (pc := 9) (ci := 5) (C := RX5) (T := TX5) (N := 8) (ty0 := tyX5) (j := 0) (k := 3) (fs' := [.null, .null, .null, .ref (a + 1), .null, .null, .null, .null]) S hi.1 (tyX5 3) (.ref (a + 1)) dX5_init_9 rfl (Nat.le_of_ble_eq_true rfl) rfl rfl (fun w h => List.mem_cons_of_mem _ (zWuX5 w h)) tyX5_ok nmX5 (by decide) (List.mem_cons_of_mem _ (zWi_10 _ (List.mem_of_getElem? (i := 41) rfl))) rfl (tyX5_ok 3 (by decide)) rfl rfl (Nat.le_of_ble_eq_true rfl) rfl ?_
  refine zj_aload_n (pc := 12) S 0 dX5_init_12 rfl rfl ?_
  refine zj_iconst (pc := 13) S dX5_init_13 ?_
  refine zj_newI (pc := 14) (N := 5) (n' := 3) S (2, 37) dX5_init_14 (List.mem_cons_of_mem _ (zWi_0 _ (List.mem_of_getElem? (i := 2) rfl))) (by decide) (by decide) (by decide) ⟨rfl, rfl, Nat.le_of_ble_eq_true rfl, Nat.le_of_ble_eq_true rfl⟩ rfl ?_
  refine zj_put (pc := 16) (ci := 5) (C := RX5) (T := TX5) (N := 8) (ty0 := tyX5) (j := 0) (k := 4) (fs' := [.null, .null, .null, .ref (a + 1), .ref (a + 2), .null, .null, .null]) S hi.1 (tyX5 4) (.ref (a + 2)) dX5_init_16 rfl (Nat.le_of_ble_eq_true rfl) rfl rfl (fun w h => List.mem_cons_of_mem _ (zWuX5 w h)) tyX5_ok nmX5 (by decide) (List.mem_cons_of_mem _ (zWi_10 _ (List.mem_of_getElem? (i := 26) rfl))) rfl (tyX5_ok 4 (by decide)) rfl rfl (Nat.le_of_ble_eq_true rfl) rfl ?_
  refine zj_aload_n (pc := 19) S 0 dX5_init_19 rfl rfl ?_
  refine zj_bipush (pc := 20) S dX5_init_20 (by decide) ?_
  refine zj_newL (pc := 22) (N := 15) (n' := 4) S (3, 52) dX5_init_22 (List.mem_cons_of_mem _ (zWi_0 _ (List.mem_of_getElem? (i := 3) rfl))) (by decide) (by decide) (by decide) ⟨rfl, rfl, Nat.le_of_ble_eq_true rfl, Nat.le_of_ble_eq_true rfl⟩ rfl ?_
  refine zj_put (pc := 24) (ci := 5) (C := RX5) (T := TX5) (N := 8) (ty0 := tyX5) (j := 0) (k := 5) (fs' := [.null, .null, .null, .ref (a + 1), .ref (a + 2), .ref (a + 3), .null, .null]) S hi.1 (tyX5 5) (.ref (a + 3)) dX5_init_24 rfl (Nat.le_of_ble_eq_true rfl) rfl rfl (fun w h => List.mem_cons_of_mem _ (zWuX5 w h)) tyX5_ok nmX5 (by decide) (List.mem_cons_of_mem _ (zWi_10 _ (List.mem_of_getElem? (i := 27) rfl))) rfl (tyX5_ok 5 (by decide)) rfl rfl (Nat.le_of_ble_eq_true rfl) rfl ?_
  refine zj_aload_n (pc := 27) S 0 dX5_init_27 rfl rfl ?_
  refine zj_bipush (pc := 28) S dX5_init_28 (by decide) ?_
  refine zj_newL (pc := 30) (N := 16) (n' := 5) S (4, 68) dX5_init_30 (List.mem_cons_of_mem _ (zWi_0 _ (List.mem_of_getElem? (i := 3) rfl))) (by decide) (by decide) (by decide) ⟨rfl, rfl, Nat.le_of_ble_eq_true rfl, Nat.le_of_ble_eq_true rfl⟩ rfl ?_
  refine zj_put (pc := 32) (ci := 5) (C := RX5) (T := TX5) (N := 8) (ty0 := tyX5) (j := 0) (k := 6) (fs' := [.null, .null, .null, .ref (a + 1), .ref (a + 2), .ref (a + 3), .ref (a + 4), .null]) S hi.1 (tyX5 6) (.ref (a + 4)) dX5_init_32 rfl (Nat.le_of_ble_eq_true rfl) rfl rfl (fun w h => List.mem_cons_of_mem _ (zWuX5 w h)) tyX5_ok nmX5 (by decide) (List.mem_cons_of_mem _ (zWi_10 _ (List.mem_of_getElem? (i := 28) rfl))) rfl (tyX5_ok 6 (by decide)) rfl rfl (Nat.le_of_ble_eq_true rfl) rfl ?_
  refine zj_aload_n (pc := 35) S 0 dX5_init_35 rfl rfl ?_
  refine zj_bipush (pc := 36) S dX5_init_36 (by decide) ?_
  refine zj_newL (pc := 38) (N := 45) (n' := 6) S (5, 113) dX5_init_38 (List.mem_cons_of_mem _ (zWi_0 _ (List.mem_of_getElem? (i := 3) rfl))) (by decide) (by decide) (by decide) ⟨rfl, rfl, Nat.le_of_ble_eq_true rfl, Nat.le_of_ble_eq_true rfl⟩ rfl ?_
  refine zj_put (pc := 40) (ci := 5) (C := RX5) (T := TX5) (N := 8) (ty0 := tyX5) (j := 0) (k := 7) (fs' := [.null, .null, .null, .ref (a + 1), .ref (a + 2), .ref (a + 3), .ref (a + 4), .ref (a + 5)]) S hi.1 (tyX5 7) (.ref (a + 5)) dX5_init_40 rfl (Nat.le_of_ble_eq_true rfl) rfl rfl (fun w h => List.mem_cons_of_mem _ (zWuX5 w h)) tyX5_ok nmX5 (by decide) (List.mem_cons_of_mem _ (zWi_10 _ (List.mem_of_getElem? (i := 29) rfl))) rfl (tyX5_ok 7 (by decide)) rfl rfl (Nat.le_of_ble_eq_true rfl) rfl ?_
  refine zj_aload_n (pc := 43) S 0 dX5_init_43 rfl rfl ?_
  refine zj_aload_n (pc := 44) S 1 dX5_init_44 rfl rfl ?_
  refine zj_put (pc := 45) (ci := 5) (C := RX5) (T := TX5) (N := 8) (ty0 := tyX5) (j := 0) (k := 0) (fs' := [.ref s1, .null, .null, .ref (a + 1), .ref (a + 2), .ref (a + 3), .ref (a + 4), .ref (a + 5)]) S hi.1 (tyX5 0) (.ref s1) dX5_init_45 rfl (Nat.le_of_ble_eq_true rfl) rfl rfl (fun w h => List.mem_cons_of_mem _ (zWuX5 w h)) tyX5_ok nmX5 (by decide) (List.mem_cons_of_mem _ (zWi_10 _ (List.mem_of_getElem? (i := 30) rfl))) rfl (tyX5_ok 0 (by decide)) rfl rfl (Nat.le_of_ble_eq_true rfl) rfl ?_
  refine zj_aload_n (pc := 48) S 0 dX5_init_48 rfl rfl ?_
  refine zj_aload_n (pc := 49) S 1 dX5_init_49 rfl rfl ?_
  refine zj_getW (pc := 50) (ci := 8) (C := RX8) (T := TX8) (N := 13) (k := 0) S (.ref sq) dX5_init_50 (hW _ List.mem_cons_self) hz rfl (fun w h => List.mem_cons_of_mem _ (zWuX8 w h)) (by decide) (List.mem_cons_of_mem _ (zWi_10 _ (List.mem_of_getElem? (i := 31) rfl))) hgs ?_
  refine zj_put (pc := 53) (ci := 5) (C := RX5) (T := TX5) (N := 8) (ty0 := tyX5) (j := 0) (k := 1) (fs' := [.ref s1, .ref sq, .null, .ref (a + 1), .ref (a + 2), .ref (a + 3), .ref (a + 4), .ref (a + 5)]) S hi.1 (tyX5 1) (.ref sq) dX5_init_53 rfl (Nat.le_of_ble_eq_true rfl) rfl rfl (fun w h => List.mem_cons_of_mem _ (zWuX5 w h)) tyX5_ok nmX5 (by decide) (List.mem_cons_of_mem _ (zWi_10 _ (List.mem_of_getElem? (i := 32) rfl))) rfl (tyX5_ok 1 (by decide)) rfl rfl (Nat.le_of_ble_eq_true rfl) rfl ?_
  refine zj_aload_n (pc := 56) S 0 dX5_init_56 rfl rfl ?_
  refine zj_aload_n (pc := 57) S 2 dX5_init_57 rfl rfl ?_
  refine zj_put (pc := 58) (ci := 5) (C := RX5) (T := TX5) (N := 8) (ty0 := tyX5) (j := 0) (k := 2) (fs' := [.ref s1, .ref sq, .ref s2, .ref (a + 1), .ref (a + 2), .ref (a + 3), .ref (a + 4), .ref (a + 5)]) S hi.1 (tyX5 2) (.ref s2) dX5_init_58 rfl (Nat.le_of_ble_eq_true rfl) rfl rfl (fun w h => List.mem_cons_of_mem _ (zWuX5 w h)) tyX5_ok nmX5 (by decide) (List.mem_cons_of_mem _ (zWi_10 _ (List.mem_of_getElem? (i := 33) rfl))) rfl (tyX5_ok 2 (by decide)) rfl rfl (Nat.le_of_ble_eq_true rfl) rfl ?_
  exact zj_retc (pc := 61) S hi dX5_init_61 ⟨Nat.le_of_ble_eq_true rfl, Nat.le_of_ble_eq_true rfl⟩ rfl
end
section
def rmX1_init : Room := { frames := 1, cells := 1, slots := 1296, locals := 12 }
abbrev wzX1_init : List Cond := .code yX1_init cX1_init 2 none :: zW
def fX1 (a : Nat) (s1 : Nat) : List Value := [.ref s1, .ref (a + 1)]
def oX1 (E : zE) (a : Nat) (s1 : Nat) : List (Nat × va_E) := (0, .inr (1, fX1 a s1)) :: ((1, zce E (.inl (1, 1296)) (fun _ => 0)) :: ([]))
set_option maxRecDepth 20000 in
theorem hoX1 (E : zE) (a : Nat) (s1 : Nat) : (List.range 2).all (fun j => (zlk (oX1 E a s1) j).isSome) = true := rfl
set_option maxHeartbeats 4000000 in
set_option maxRecDepth 20000 in
theorem ctX1 (l : Launch) (E : zE) (a : Nat) (s1 : Nat) : zcM l yX1_init wzX1_init rmX1_init 1 1296 E a [.ref s1] [] (.inr (1, bX1)) 2 (oX1 E a s1) := by
  refine zcM.of (cc := cX1_init) (nL := 2) RX1 (by decide) rfl rfl rfl (Nat.le_of_ble_eq_true rfl) ?_
  intro X hl S hi hW hz
  subst hl
  show zJ E a rmX1_init 2 X _ (0, 0) 0 [(0, .ref a), (1, .ref s1)] [] 1 [(0, .inr (1, bX1))]
  refine zj_aload_n (pc := 0) S 0 dX1_init_0 rfl rfl ?_
  refine zj_obj (pc := 1) S dX1_init_1 (List.mem_cons_of_mem _ (zWi_20 _ (List.mem_of_getElem? (i := 45) rfl))) (List.mem_cons_of_mem _ (zWi_12 _ (List.mem_of_getElem? (i := 22) rfl))) (List.mem_cons_of_mem _ (zWi_0 _ (List.mem_of_getElem? (i := 31) rfl))) (Nat.le_of_ble_eq_true rfl) (Nat.le_of_ble_eq_true rfl) ?_
  refine zj_aload_n (pc := 4) S 0 dX1_init_4 rfl rfl ?_
  refine zj_sipush (pc := 5) S dX1_init_5 (by decide) ?_
  refine zj_newL (pc := 8) (N := 1296) (n' := 2) S (1, 1296) dX1_init_8 (List.mem_cons_of_mem _ (zWi_0 _ (List.mem_of_getElem? (i := 3) rfl))) (by decide) (by decide) (by decide) ⟨rfl, rfl, Nat.le_of_ble_eq_true rfl, Nat.le_of_ble_eq_true rfl⟩ rfl ?_
  refine zj_put (pc := 10) (ci := 1) (C := RX1) (T := TX1) (N := 2) (ty0 := tyX1) (j := 0) (k := 1) (fs' := [.null, .ref (a + 1)]) S hi.1 (tyX1 1) (.ref (a + 1)) dX1_init_10 rfl (Nat.le_of_ble_eq_true rfl) rfl rfl (fun w h => List.mem_cons_of_mem _ (zWuX1 w h)) tyX1_ok nmX1 (by decide) (List.mem_cons_of_mem _ (zWi_7 _ (List.mem_of_getElem? (i := 48) rfl))) rfl (tyX1_ok 1 (by decide)) rfl rfl (Nat.le_of_ble_eq_true rfl) rfl ?_
  refine zj_aload_n (pc := 13) S 0 dX1_init_13 rfl rfl ?_
  refine zj_aload_n (pc := 14) S 1 dX1_init_14 rfl rfl ?_
  refine zj_put (pc := 15) (ci := 1) (C := RX1) (T := TX1) (N := 2) (ty0 := tyX1) (j := 0) (k := 0) (fs' := [.ref s1, .ref (a + 1)]) S hi.1 (tyX1 0) (.ref s1) dX1_init_15 rfl (Nat.le_of_ble_eq_true rfl) rfl rfl (fun w h => List.mem_cons_of_mem _ (zWuX1 w h)) tyX1_ok nmX1 (by decide) (List.mem_cons_of_mem _ (zWi_7 _ (List.mem_of_getElem? (i := 49) rfl))) rfl (tyX1_ok 0 (by decide)) rfl rfl (Nat.le_of_ble_eq_true rfl) rfl ?_
  exact zj_retc (pc := 18) S hi dX1_init_18 ⟨Nat.le_of_ble_eq_true rfl, Nat.le_of_ble_eq_true rfl⟩ rfl
end
section
def rmX10_init : Room := { frames := 1, cells := 1, slots := 20, locals := 12 }
abbrev wzX10_init : List Cond := .code yX10_init cX10_init 1 none :: zW
def fX10 (a : Nat) : List Value := [.int (Int32.ofInt (-1)), .int (Int32.ofInt 0), .ref (a + 1)]
def oX10 (E : zE) (a : Nat) : List (Nat × va_E) := (0, .inr (10, fX10 a)) :: ((1, zce E (.inl (1, 20)) (fun _ => 0)) :: ([]))
set_option maxRecDepth 20000 in
theorem hoX10 (E : zE) (a : Nat) : (List.range 2).all (fun j => (zlk (oX10 E a) j).isSome) = true := rfl
set_option maxHeartbeats 4000000 in
set_option maxRecDepth 20000 in
theorem ctX10 (l : Launch) (E : zE) (a : Nat) : zcM l yX10_init wzX10_init rmX10_init 1 20 E a [] [] (.inr (10, bX10)) 2 (oX10 E a) := by
  refine zcM.of (cc := cX10_init) (nL := 1) RX10 (by decide) rfl rfl rfl (Nat.le_of_ble_eq_true rfl) ?_
  intro X hl S hi hW hz
  subst hl
  show zJ E a rmX10_init 1 X _ (0, 0) 0 [(0, .ref a)] [] 1 [(0, .inr (10, bX10))]
  refine zj_aload_n (pc := 0) S 0 dX10_init_0 rfl rfl ?_
  refine zj_obj (pc := 1) S dX10_init_1 (List.mem_cons_of_mem _ (zWi_20 _ (List.mem_of_getElem? (i := 49) rfl))) (List.mem_cons_of_mem _ (zWi_12 _ (List.mem_of_getElem? (i := 22) rfl))) (List.mem_cons_of_mem _ (zWi_0 _ (List.mem_of_getElem? (i := 31) rfl))) (Nat.le_of_ble_eq_true rfl) (Nat.le_of_ble_eq_true rfl) ?_
  refine zj_aload_n (pc := 4) S 0 dX10_init_4 rfl rfl ?_
  refine zj_iconst (pc := 5) S dX10_init_5 ?_
  refine zj_put (pc := 6) (ci := 10) (C := RX10) (T := TX10) (N := 3) (ty0 := tyX10) (j := 0) (k := 0) (fs' := [.int (Int32.ofInt (-1)), .int (Int32.ofInt 0), .null]) S hi.1 (tyX10 0) (.int (Int32.ofInt (-1))) dX10_init_6 rfl (Nat.le_of_ble_eq_true rfl) rfl rfl (fun w h => List.mem_cons_of_mem _ (zWuX10 w h)) tyX10_ok nmX10 (by decide) (List.mem_cons_of_mem _ (zWi_8 _ (List.mem_of_getElem? (i := 5) rfl))) rfl (tyX10_ok 0 (by decide)) rfl rfl (Nat.le_of_ble_eq_true rfl) rfl ?_
  refine zj_aload_n (pc := 9) S 0 dX10_init_9 rfl rfl ?_
  refine zj_bipush (pc := 10) S dX10_init_10 (by decide) ?_
  refine zj_newL (pc := 12) (N := 20) (n' := 2) S (1, 20) dX10_init_12 (List.mem_cons_of_mem _ (zWi_0 _ (List.mem_of_getElem? (i := 3) rfl))) (by decide) (by decide) (by decide) ⟨rfl, rfl, Nat.le_of_ble_eq_true rfl, Nat.le_of_ble_eq_true rfl⟩ rfl ?_
  refine zj_put (pc := 14) (ci := 10) (C := RX10) (T := TX10) (N := 3) (ty0 := tyX10) (j := 0) (k := 2) (fs' := [.int (Int32.ofInt (-1)), .int (Int32.ofInt 0), .ref (a + 1)]) S hi.1 (tyX10 2) (.ref (a + 1)) dX10_init_14 rfl (Nat.le_of_ble_eq_true rfl) rfl rfl (fun w h => List.mem_cons_of_mem _ (zWuX10 w h)) tyX10_ok nmX10 (by decide) (List.mem_cons_of_mem _ (zWi_8 _ (List.mem_of_getElem? (i := 3) rfl))) rfl (tyX10_ok 2 (by decide)) rfl rfl (Nat.le_of_ble_eq_true rfl) rfl ?_
  exact zj_retc (pc := 17) S hi dX10_init_17 ⟨Nat.le_of_ble_eq_true rfl, Nat.le_of_ble_eq_true rfl⟩ rfl
end
