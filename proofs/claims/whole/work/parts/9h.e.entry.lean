section
def uLaw (E : zE) (a : Nat) : List (Nat × va_E) := (201, zce E (.inl (1, 1)) (fun _ => 0)) :: (zsh 180 (oX12 E (a + 180)) ++ ((180, .inr (12, bX12)) :: (zsh 0 (oX11 E (a + 0)) ++ [(0, .inr (11, bX11))])))
theorem zpick {f g : Nat → Option va_E} {n : Nat} (h : (List.range n).map f = (List.range n).map g) (j : Nat) (hj : j < n) : f j = g j := by
  have h1 := congrArg (fun l => l[j]?) h
  simp only [List.getElem?_map, List.getElem?_range hj, Option.map_some] at h1
  exact Option.some.inj h1
theorem arrV_congr {c : ClassId} {N : Nat} {f g : Nat → Value} (h : ∀ j, j < N → f j = g j) : arrV c N f = arrV c N g := by
  unfold arrV
  congr 1
  apply congrArg
  funext j
  exact h j.val j.isLt
/-- a cell, its fields one by one -/
def zmi (E : zE) (f : Nat → Int) : Nat → List Nat → List Value
  | _, [] => []
  | n, t :: r => zsv E (f n) t :: zmi E f (n + 1) r
def zcf (E : zE) (t : zT) (f : Nat → Int) : va_E := match t with
  | .inl (t, n) => .inl (E.2.1 t, n, zcont E t f)
  | .inr (ci, sl) => .inr (ci, zmi E f 0 sl)
theorem zmi_eq (E : zE) (f : Nat → Int) : ∀ (sl : List Nat) (n : Nat), zmi E f n sl = sl.mapIdx (fun j t => zsv E (f (n + j)) t)
  | [], _ => by simp [zmi]
  | t :: r, n => by
    show zsv E (f n) t :: zmi E f (n + 1) r = _
    rw [zmi_eq E f r (n + 1), List.mapIdx_cons]
    simp only [Nat.add_zero, Nat.add_assoc, Nat.add_comm 1]
theorem zcf_eq (E : zE) (t : zT) (f : Nat → Int) : zcf E t f = zce E t f := by
  rcases t with ⟨t, n⟩ | ⟨ci, sl⟩
  · rfl
  · show Sum.inr (ci, zmi E f 0 sl) = Sum.inr (ci, sl.mapIdx (fun j t => zsv E (f j) t))
    rw [zmi_eq]
    simp only [Nat.zero_add]
set_option maxRecDepth 100000 in
set_option maxHeartbeats 1000000 in
theorem fc_0 (D : va_G) (d : Nat → ClassId) (base b : Nat) (k v w : Nat → Nat) : (List.range 36).map (fun j => zlk (uLaw (D, d, zad base b k v w) base) j) = (List.range 36).map (fun j => some (zcf (D, d, zad base b k v w) (zly j) (M0 j))) := rfl
set_option maxRecDepth 100000 in
set_option maxHeartbeats 1000000 in
theorem fc_37 (D : va_G) (d : Nat → ClassId) (base b : Nat) (k v w : Nat → Nat) : (List.range 1).map (fun j => zlk (uLaw (D, d, zad base b k v w) base) (37 + j)) = (List.range 1).map (fun j => some (zcf (D, d, zad base b k v w) (zly (37 + j)) (M0 (37 + j)))) := rfl
set_option maxRecDepth 100000 in
set_option maxHeartbeats 1000000 in
theorem fc_39 (D : va_G) (d : Nat → ClassId) (base b : Nat) (k v w : Nat → Nat) : (List.range 28).map (fun j => zlk (uLaw (D, d, zad base b k v w) base) (39 + j)) = (List.range 28).map (fun j => some (zcf (D, d, zad base b k v w) (zly (39 + j)) (M0 (39 + j)))) := rfl
set_option maxRecDepth 100000 in
set_option maxHeartbeats 1000000 in
theorem fc_67 (D : va_G) (d : Nat → ClassId) (base b : Nat) (k v w : Nat → Nat) : (List.range 35).map (fun j => zlk (uLaw (D, d, zad base b k v w) base) (67 + j)) = (List.range 35).map (fun j => some (zcf (D, d, zad base b k v w) (zly (67 + j)) (M0 (67 + j)))) := rfl
set_option maxRecDepth 100000 in
set_option maxHeartbeats 1000000 in
theorem fc_102 (D : va_G) (d : Nat → ClassId) (base b : Nat) (k v w : Nat → Nat) : (List.range 35).map (fun j => zlk (uLaw (D, d, zad base b k v w) base) (102 + j)) = (List.range 35).map (fun j => some (zcf (D, d, zad base b k v w) (zly (102 + j)) (M0 (102 + j)))) := rfl
set_option maxRecDepth 100000 in
set_option maxHeartbeats 1000000 in
theorem fc_137 (D : va_G) (d : Nat → ClassId) (base b : Nat) (k v w : Nat → Nat) : (List.range 35).map (fun j => zlk (uLaw (D, d, zad base b k v w) base) (137 + j)) = (List.range 35).map (fun j => some (zcf (D, d, zad base b k v w) (zly (137 + j)) (M0 (137 + j)))) := rfl
set_option maxRecDepth 100000 in
set_option maxHeartbeats 1000000 in
theorem fc_172 (D : va_G) (d : Nat → ClassId) (base b : Nat) (k v w : Nat → Nat) : (List.range 9).map (fun j => zlk (uLaw (D, d, zad base b k v w) base) (172 + j)) = (List.range 9).map (fun j => some (zcf (D, d, zad base b k v w) (zly (172 + j)) (M0 (172 + j)))) := rfl
set_option maxRecDepth 100000 in
set_option maxHeartbeats 1000000 in
theorem fc_181 (D : va_G) (d : Nat → ClassId) (base b : Nat) (k v w : Nat → Nat) : (List.range 21).map (fun j => zlk (uLaw (D, d, zad base b k v w) base) (181 + j)) = (List.range 21).map (fun j => some (zcf (D, d, zad base b k v w) (zly (181 + j)) (M0 (181 + j)))) := rfl
theorem fc_at (D : va_G) (d : Nat → ClassId) (base b : Nat) (k v w : Nat → Nat) (H : Heap) (h : zH (D, d, zad base b k v w) base 202 (uLaw (D, d, zad base b k v w) base) H) : ∀ j, j < 202 → va_at D vwCl (base + j, zce (D, d, zad base b k v w) (zly j) (M0 j)) H := by
  intro j hj
  have go : ∀ {i : Nat}, i < 202 → zlk (uLaw (D, d, zad base b k v w) base) i = some (zcf (D, d, zad base b k v w) (zly i) (M0 i)) → va_at D vwCl (base + i, zce (D, d, zad base b k v w) (zly i) (M0 i)) H := fun {i} hi e => by rw [← zcf_eq]; exact h.2 i _ hi e
  by_cases h1 : j < 36
  · exact go hj (zpick (fc_0 D d base b k v w) j h1)
  by_cases h2 : j = 36
  · subst h2
    have h3 : H[base + 36]? = some (vp_cell (d 4) (3, .inr (.inr (.inr (.inr (va_up (va_up (va_up (fun _ => none) 0 (some (base + 0 + 67))) 1 (some (base + 0 + 102))) 2 (some (base + 0 + 137)))))))) := h.2 36 _ hj rfl
    show H[base + 36]? = some (vp_cell (d 4) (3, .inr (.inr (.inr (.inr (fun j => some (zad base b k v w (M0 36 j).toNat)))))))
    rw [h3, vp_cell_q, vp_cell_q]
    refine congrArg some (arrV_congr (fun j hj => ?_))
    match j, hj with
    | 0, _ => rfl
    | 1, _ => rfl
    | 2, _ => rfl
    | j + 3, hj => exact absurd hj (by omega)
  by_cases h2 : j = 37
  · subst h2
    exact go hj (zpick (fc_37 D d base b k v w) 0 (by omega))
  by_cases h2 : j = 38
  · subst h2
    have h3 : H[base + 38]? = some (vp_cell (d 5) (4, .inr (.inr (.inr (.inr (va_up (va_up (va_up (va_up (fun _ => none) 0 (some (base + 0 + 172))) 1 (some (base + 0 + 174))) 2 (some (base + 0 + 176))) 3 (some (base + 0 + 178)))))))) := h.2 38 _ hj rfl
    show H[base + 38]? = some (vp_cell (d 5) (4, .inr (.inr (.inr (.inr (fun j => some (zad base b k v w (M0 38 j).toNat)))))))
    rw [h3, vp_cell_q, vp_cell_q]
    refine congrArg some (arrV_congr (fun j hj => ?_))
    match j, hj with
    | 0, _ => rfl
    | 1, _ => rfl
    | 2, _ => rfl
    | 3, _ => rfl
    | j + 4, hj => exact absurd hj (by omega)
  by_cases h3 : j < 67
  · have := zpick (fc_39 D d base b k v w) (j - 39) (by omega)
    rw [show 39 + (j - 39) = j by omega] at this
    exact go hj this
  by_cases h4 : j < 102
  · have := zpick (fc_67 D d base b k v w) (j - 67) (by omega)
    rw [show 67 + (j - 67) = j by omega] at this
    exact go hj this
  by_cases h5 : j < 137
  · have := zpick (fc_102 D d base b k v w) (j - 102) (by omega)
    rw [show 102 + (j - 102) = j by omega] at this
    exact go hj this
  by_cases h6 : j < 172
  · have := zpick (fc_137 D d base b k v w) (j - 137) (by omega)
    rw [show 137 + (j - 137) = j by omega] at this
    exact go hj this
  by_cases h7 : j < 181
  · have := zpick (fc_172 D d base b k v w) (j - 172) (by omega)
    rw [show 172 + (j - 172) = j by omega] at this
    exact go hj this
  have := zpick (fc_181 D d base b k v w) (j - 181) (by omega)
  rw [show 181 + (j - 181) = j by omega] at this
  exact go hj this
theorem zad_lt {base b : Nat} {k v w : Nat → Nat} {i : Nat} (h : i < 1000) : zad base b k v w i = base + i := by
  unfold zad
  rw [if_pos h]
theorem fc_P (D : va_G) (d : Nat → ClassId) (base b : Nat) (k v w : Nat → Nat) (H : Heap) (h : zH (D, d, zad base b k v w) base 202 (uLaw (D, d, zad base b k v w) base) H) : va_P D vwCl (zw zly (D, d, zad base b k v w) 202 M0) H := by
  intro j q hq
  obtain ⟨h1, rfl⟩ := zw_at hq
  have := fc_at D d base b k v w H h j h1
  rw [← zad_lt (b := b) (k := k) (v := v) (w := w) (show j < 1000 by omega)] at this
  exact this
set_option maxHeartbeats 4000000 in
set_option maxRecDepth 20000 in
theorem law_entry {E : zE} {a b : Nat} {X : zX} {Q : State → Prop} (S : zB E X cL_law 8 wzLaw RL) (kk : zJ E a room_1 8 X Q (202, 58178) 23 [(4, .int (Int32.ofInt 0)), (3, .ref (a + 201)), (2, .ref (a + 180)), (1, .ref a), (0, .ref b)] [] 202 (uLaw E a)) : zJ E a room_1 8 X Q (0, 0) 0 [(0, .ref b)] [] 0 [] := by
  refine zj_new (pc := 0) (ci := 11) (C := RX11) (T := TX11) (N := 10) (ty := tyX11) (n' := 1) S (1, 10) bX11 dL_law_0 rfl (fun w h => List.mem_cons_of_mem _ (zWuX11 w h)) tyX11_ok (List.mem_cons_of_mem _ (zWi_0 _ (List.mem_of_getElem? (i := 9) rfl))) (List.mem_cons_of_mem _ (zWi_17 _ (List.mem_of_getElem? (i := 30) rfl))) (List.mem_cons_of_mem _ (zWi_12 _ (List.mem_of_getElem? (i := 12) rfl))) dfX11 ⟨rfl, rfl, Nat.le_of_ble_eq_true rfl, Nat.le_of_ble_eq_true rfl⟩ rfl ?_
  refine zj_dup (pc := 3) S dL_law_3 ?_
  refine zj_call (pc := 4) (n0 := 0) (m' := 180) (n' := 180) (q := a) (na := 0) (st := [.ref a]) S (180, 10699) [] (ctX11 X.2.1 E (a + 0)) (zcI (zWi_18 _ (List.mem_of_getElem? (i := 12) rfl)) (zWi_13 _ (List.mem_of_getElem? (i := 7) rfl)) (zWi_12 _ (List.mem_of_getElem? (i := 12) rfl)) (zWi_1 _ (List.mem_of_getElem? (i := 32) rfl)) rfl (by decide +kernel) rfl rfl ⟨Nat.le_of_ble_eq_true rfl, Nat.le_of_ble_eq_true rfl⟩) dL_law_4 rfl rfl rfl rfl rfl (Nat.le_of_ble_eq_true rfl) ⟨rfl, rfl, Nat.le_of_ble_eq_true rfl, Nat.le_of_ble_eq_true rfl⟩ (fun x hx => by cases hx) (hoX11 E (a + 0)) ?_
  refine zj_astore_n (pc := 7) S [(1, .ref a), (0, .ref b)] dL_law_7 rfl (by decide) rfl ?_
  refine zj_new (pc := 8) (ci := 12) (C := RX12) (T := TX12) (N := 35) (ty := tyX12) (n' := 181) S (181, 10734) bX12 dL_law_8 rfl (fun w h => List.mem_cons_of_mem _ (zWuX12 w h)) tyX12_ok (List.mem_cons_of_mem _ (zWi_0 _ (List.mem_of_getElem? (i := 7) rfl))) (List.mem_cons_of_mem _ (zWi_17 _ (List.mem_of_getElem? (i := 31) rfl))) (List.mem_cons_of_mem _ (zWi_12 _ (List.mem_of_getElem? (i := 13) rfl))) dfX12 ⟨rfl, rfl, Nat.le_of_ble_eq_true rfl, Nat.le_of_ble_eq_true rfl⟩ rfl ?_
  refine zj_dup (pc := 11) S dL_law_11 ?_
  refine zj_call (pc := 12) (n0 := 180) (m' := 21) (n' := 201) (q := (a + 180)) (na := 0) (st := [.ref (a + 180)]) S (201, 58177) [] (ctX12 X.2.1 E (a + 180)) (zcI (zWi_18 _ (List.mem_of_getElem? (i := 13) rfl)) (zWi_14 _ (List.mem_of_getElem? (i := 24) rfl)) (zWi_12 _ (List.mem_of_getElem? (i := 13) rfl)) (zWi_3 _ (List.mem_of_getElem? (i := 3) rfl)) rfl (by decide +kernel) rfl rfl ⟨Nat.le_of_ble_eq_true rfl, Nat.le_of_ble_eq_true rfl⟩) dL_law_12 rfl rfl rfl rfl rfl (Nat.le_of_ble_eq_true rfl) ⟨rfl, rfl, Nat.le_of_ble_eq_true rfl, Nat.le_of_ble_eq_true rfl⟩ (fun x hx => by cases hx) (hoX12 E (a + 180)) ?_
  refine zj_astore_n (pc := 15) S [(2, .ref (a + 180)), (1, .ref a), (0, .ref b)] dL_law_15 rfl (by decide) rfl ?_
  refine zj_iconst (pc := 16) S dL_law_16 ?_
  refine zj_newL (pc := 17) (N := 1) (n' := 202) S (202, 58178) dL_law_17 (List.mem_cons_of_mem _ (zWi_0 _ (List.mem_of_getElem? (i := 3) rfl))) (by decide) (by decide) (by decide) ⟨rfl, rfl, Nat.le_of_ble_eq_true rfl, Nat.le_of_ble_eq_true rfl⟩ rfl ?_
  refine zj_astore_n (pc := 19) S [(3, .ref (a + 201)), (2, .ref (a + 180)), (1, .ref a), (0, .ref b)] dL_law_19 rfl (by decide) rfl ?_
  refine zj_iconst (pc := 20) S dL_law_20 ?_
  refine zj_istore (pc := 21) S [(4, .int (Int32.ofInt 0)), (3, .ref (a + 201)), (2, .ref (a + 180)), (1, .ref a), (0, .ref b)] dL_law_21 (by decide) rfl ?_
  exact kk
theorem zEnv.nar {nw : zN} {ad : Nat → Nat} {A B : Nat → Prop} {U : State} {H : Heap} (hAB : ∀ q, B q → A q) (h : zEnv nw ad A U H) : zEnv nw ad B U H := by
  obtain ⟨h1, h2, h3, h4, h5, h6, h7, h8, h9, h10⟩ := h
  exact ⟨h1, h2, h3, h4, h5, h6.narrow hAB, h7.narrow hAB, h8.narrow hAB, h9.narrow hAB, h10.narrow hAB⟩
end
