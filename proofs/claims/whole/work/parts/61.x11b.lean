section
/-- all but the scratch cells (47 to 66) is the same -/
def offX (M N : zM) : Prop := ∀ k, (k < 47 ∨ 66 < k) → N k = M k
theorem offX.ag {M N : zM} (h : offX M N) : AG M N := fun k hk => h k (by omega)
theorem offX.rf (M : zM) : offX M M := fun _ _ => rfl
theorem lrn_ag (M : zM) (i : Nat) : AG M (lrnU M i) := fun k hk => lrnU_o k (by omega)
theorem lrn_ok {M : zM} (hg : ICg M) : lrnd (lrnU M (2 ^ (M 11 0).toNat)) := fun n hn => by
  rw [lrnU_o (M := M) 11 (by decide)] at hn
  have e : gl (lrnU M (2 ^ (M 11 0).toNat)) n = gl M n := by unfold gl; exact ag_gw (lrn_ag M _) _ _ _
  rw [e]
  unfold lrnU
  rw [if_pos ⟨rfl, hn⟩]
theorem takes_r {M : zM} (hg : ICg M) (w b r : Int) : -1 ≤ takes M w b r ∧ takes M w b r ≤ 7 := gw_r hg _ 9 0
def rmX11_passes : Room := { frames := 8, cells := 2, slots := 12, locals := 131 }
abbrev wzX11_passes : List Cond := .code yX11_passes cX11_passes 3 (some .long) :: zW
def rmX11_wrong : Room := { frames := 8, cells := 1, slots := 6, locals := 131 }
abbrev wzX11_wrong : List Cond := .code yX11_wrong cX11_wrong 2 (some .long) :: zW
def rmX11_loss : Room := { frames := 9, cells := 3, slots := 18, locals := 154 }
abbrev wzX11_loss : List Cond := .code yX11_loss cX11_loss 4 (some .long) :: zW
def rmX11_best : Room := { frames := 8, cells := 2, slots := 12, locals := 155 }
abbrev wzX11_best : List Cond := .code yX11_best cX11_best 3 (some .long) :: zW
def rmX11_move : Room := { frames := 9, cells := 3, slots := 18, locals := 154 }
abbrev wzX11_move : List Cond := .code yX11_move cX11_move 6 (some .boolean) :: zW
def rmX11_put : Room := { frames := 8, cells := 3, slots := 18, locals := 131 }
abbrev wzX11_put : List Cond := .code yX11_put cX11_put 8 (some .int) :: zW
def rmX11_load : Room := { frames := 8, cells := 3, slots := 18, locals := 131 }
abbrev wzX11_load : List Cond := .code yX11_load cX11_load 5 (some .int) :: zW
def rmX11_made : Room := { frames := 7, cells := 1, slots := 6, locals := 110 }
abbrev wzX11_made : List Cond := .code yX11_made cX11_made 2 (some .int) :: zW
def rmX11_explain : Room := { frames := 7, cells := 1, slots := 6, locals := 146 }
abbrev wzX11_explain : List Cond := .code yX11_explain cX11_explain 2 (some .int) :: zW
def rmX11_most : Room := { frames := 9, cells := 1, slots := 6, locals := 219 }
abbrev wzX11_most : List Cond := .code yX11_most cX11_most 2 (some .long) :: zW
def rmX11_serve : Room := { frames := 9, cells := 2, slots := 12, locals := 224 }
abbrev wzX11_serve : List Cond := .code yX11_serve cX11_serve 3 (some .int) :: zW
def rmX11_rounds : Room := { frames := 20, cells := 1, slots := 6, locals := 517 }
abbrev wzX11_rounds : List Cond := .code yX11_rounds cX11_rounds 3 (some .int) :: zW
theorem fX11_passes_10 : zfl wzX11_passes RX11 vwCl 10 11 0 := ⟨_, _, _, rfl, (fun w h => List.mem_cons_of_mem _ (zWuX11 w h)), by decide, List.mem_cons_of_mem _ (zWi_8 _ (List.mem_of_getElem? (i := 6) rfl))⟩
theorem fX11_passes_39 : zfl wzX11_passes RX11 vwCl 39 8 0 := ⟨_, _, _, rfl, (fun w h => List.mem_cons_of_mem _ (zWuX8 w h)), by decide, List.mem_cons_of_mem _ (zWi_8 _ (List.mem_of_getElem? (i := 43) rfl))⟩
theorem fX11_passes_50 : zfl wzX11_passes RX11 vwCl 50 11 5 := ⟨_, _, _, rfl, (fun w h => List.mem_cons_of_mem _ (zWuX11 w h)), by decide, List.mem_cons_of_mem _ (zWi_9 _ (List.mem_of_getElem? (i := 0) rfl))⟩
theorem fX11_passes_212 : zfl wzX11_passes RX11 vwCl 212 6 2 := ⟨_, _, _, rfl, (fun w h => List.mem_cons_of_mem _ (zWuX6 w h)), by decide, List.mem_cons_of_mem _ (zWi_8 _ (List.mem_of_getElem? (i := 22) rfl))⟩
theorem kX11_passes_109 : ∀ (s9 : State) (a9 : Array Value), (∀ w ∈ wzX11_passes, w.before a9 s9 = true) → CallW rmX11_passes s9 a9 RX11 RX11 109 yX11_needSort cX11_needSort 2 none wzX11_needSort rmX11_needSort 1 6 1 := zcV (zWi_21 _ (List.mem_of_getElem? (i := 2) rfl)) (zWi_13 _ (List.mem_of_getElem? (i := 18) rfl)) (zWi_26 _ (List.mem_of_getElem? (i := 10) rfl)) (zWi_12 _ (List.mem_of_getElem? (i := 12) rfl)) (zWi_1 _ (List.mem_of_getElem? (i := 44) rfl)) (by decide +kernel) rfl rfl ⟨Nat.le_of_ble_eq_true rfl, Nat.le_of_ble_eq_true rfl⟩
theorem kX11_passes_203 : ∀ (s9 : State) (a9 : Array Value), (∀ w ∈ wzX11_passes, w.before a9 s9 = true) → CallW rmX11_passes s9 a9 RX11 RX7 203 yX7_has cX7_has 2 (some .boolean) wzX7_has rmX7_has 0 0 1 := zcV (zWi_21 _ (List.mem_of_getElem? (i := 13) rfl)) (zWi_16 _ (List.mem_of_getElem? (i := 44) rfl)) (zWi_29 _ (List.mem_of_getElem? (i := 21) rfl)) (zWi_12 _ (List.mem_of_getElem? (i := 19) rfl)) (zWi_5 _ (List.mem_of_getElem? (i := 28) rfl)) (by decide +kernel) rfl rfl ⟨Nat.le_of_ble_eq_true rfl, Nat.le_of_ble_eq_true rfl⟩
theorem kX11_passes_115 : ∀ (s9 : State) (a9 : Array Value), (∀ w ∈ wzX11_passes, w.before a9 s9 = true) → CallB rmX11_passes s9 a9 RX11 115 yX11_needThere cX11_needThere 1 none wzX11_needThere rmX11_needThere 1 6 1 ∧ (Cond.static yX11_needThere).before a9 s9 = true := zcS (zWi_21 _ (List.mem_of_getElem? (i := 3) rfl)) (zWi_31 _ (List.mem_of_getElem? (i := 7) rfl)) (zWi_12 _ (List.mem_of_getElem? (i := 12) rfl)) (zWi_1 _ (List.mem_of_getElem? (i := 45) rfl)) (by decide +kernel) rfl rfl ⟨Nat.le_of_ble_eq_true rfl, Nat.le_of_ble_eq_true rfl⟩
theorem kX11_passes_206 : ∀ (s9 : State) (a9 : Array Value), (∀ w ∈ wzX11_passes, w.before a9 s9 = true) → CallW rmX11_passes s9 a9 RX11 RX6 206 yX6_learn cX6_learn 2 none wzX6_learn rmX6_learn 0 0 0 := zcV (zWi_21 _ (List.mem_of_getElem? (i := 14) rfl)) (zWi_16 _ (List.mem_of_getElem? (i := 35) rfl)) (zWi_29 _ (List.mem_of_getElem? (i := 12) rfl)) (zWi_12 _ (List.mem_of_getElem? (i := 18) rfl)) (zWi_5 _ (List.mem_of_getElem? (i := 19) rfl)) (by decide +kernel) rfl rfl ⟨Nat.le_of_ble_eq_true rfl, Nat.le_of_ble_eq_true rfl⟩
theorem kX11_passes_209 : ∀ (s9 : State) (a9 : Array Value), (∀ w ∈ wzX11_passes, w.before a9 s9 = true) → CallW rmX11_passes s9 a9 RX11 RX6 209 yX6_tell cX6_tell 4 none wzX6_tell rmX6_tell 0 0 1 := zcV (zWi_21 _ (List.mem_of_getElem? (i := 15) rfl)) (zWi_16 _ (List.mem_of_getElem? (i := 40) rfl)) (zWi_29 _ (List.mem_of_getElem? (i := 17) rfl)) (zWi_12 _ (List.mem_of_getElem? (i := 18) rfl)) (zWi_5 _ (List.mem_of_getElem? (i := 24) rfl)) (by decide +kernel) rfl rfl ⟨Nat.le_of_ble_eq_true rfl, Nat.le_of_ble_eq_true rfl⟩
theorem fX11_wrong_50 : zfl wzX11_wrong RX11 vwCl 50 11 5 := ⟨_, _, _, rfl, (fun w h => List.mem_cons_of_mem _ (zWuX11 w h)), by decide, List.mem_cons_of_mem _ (zWi_9 _ (List.mem_of_getElem? (i := 0) rfl))⟩
theorem kX11_wrong_109 : ∀ (s9 : State) (a9 : Array Value), (∀ w ∈ wzX11_wrong, w.before a9 s9 = true) → CallW rmX11_wrong s9 a9 RX11 RX11 109 yX11_needSort cX11_needSort 2 none wzX11_needSort rmX11_needSort 1 6 1 := zcV (zWi_21 _ (List.mem_of_getElem? (i := 2) rfl)) (zWi_13 _ (List.mem_of_getElem? (i := 18) rfl)) (zWi_26 _ (List.mem_of_getElem? (i := 10) rfl)) (zWi_12 _ (List.mem_of_getElem? (i := 12) rfl)) (zWi_1 _ (List.mem_of_getElem? (i := 44) rfl)) (by decide +kernel) rfl rfl ⟨Nat.le_of_ble_eq_true rfl, Nat.le_of_ble_eq_true rfl⟩
theorem kX11_wrong_206 : ∀ (s9 : State) (a9 : Array Value), (∀ w ∈ wzX11_wrong, w.before a9 s9 = true) → CallW rmX11_wrong s9 a9 RX11 RX6 206 yX6_learn cX6_learn 2 none wzX6_learn rmX6_learn 0 0 0 := zcV (zWi_21 _ (List.mem_of_getElem? (i := 14) rfl)) (zWi_16 _ (List.mem_of_getElem? (i := 35) rfl)) (zWi_29 _ (List.mem_of_getElem? (i := 12) rfl)) (zWi_12 _ (List.mem_of_getElem? (i := 18) rfl)) (zWi_5 _ (List.mem_of_getElem? (i := 19) rfl)) (by decide +kernel) rfl rfl ⟨Nat.le_of_ble_eq_true rfl, Nat.le_of_ble_eq_true rfl⟩
theorem kX11_wrong_216 : ∀ (s9 : State) (a9 : Array Value), (∀ w ∈ wzX11_wrong, w.before a9 s9 = true) → CallW rmX11_wrong s9 a9 RX11 RX6 216 yX6_wrongOf cX6_wrongOf 7 (some .long) wzX6_wrongOf rmX6_wrongOf 0 0 1 := zcV (zWi_21 _ (List.mem_of_getElem? (i := 16) rfl)) (zWi_16 _ (List.mem_of_getElem? (i := 41) rfl)) (zWi_29 _ (List.mem_of_getElem? (i := 18) rfl)) (zWi_12 _ (List.mem_of_getElem? (i := 18) rfl)) (zWi_5 _ (List.mem_of_getElem? (i := 25) rfl)) (by decide +kernel) rfl rfl ⟨Nat.le_of_ble_eq_true rfl, Nat.le_of_ble_eq_true rfl⟩
theorem fX11_loss_50 : zfl wzX11_loss RX11 vwCl 50 11 5 := ⟨_, _, _, rfl, (fun w h => List.mem_cons_of_mem _ (zWuX11 w h)), by decide, List.mem_cons_of_mem _ (zWi_9 _ (List.mem_of_getElem? (i := 0) rfl))⟩
theorem kX11_loss_219 : ∀ (s9 : State) (a9 : Array Value), (∀ w ∈ wzX11_loss, w.before a9 s9 = true) → CallW rmX11_loss s9 a9 RX11 RX11 219 yX11_needMove cX11_needMove 4 none wzX11_needMove rmX11_needMove 3 18 3 := zcV (zWi_21 _ (List.mem_of_getElem? (i := 17) rfl)) (zWi_13 _ (List.mem_of_getElem? (i := 17) rfl)) (zWi_26 _ (List.mem_of_getElem? (i := 9) rfl)) (zWi_12 _ (List.mem_of_getElem? (i := 12) rfl)) (zWi_1 _ (List.mem_of_getElem? (i := 43) rfl)) (by decide +kernel) rfl rfl ⟨Nat.le_of_ble_eq_true rfl, Nat.le_of_ble_eq_true rfl⟩
theorem kX11_loss_206 : ∀ (s9 : State) (a9 : Array Value), (∀ w ∈ wzX11_loss, w.before a9 s9 = true) → CallW rmX11_loss s9 a9 RX11 RX6 206 yX6_learn cX6_learn 2 none wzX6_learn rmX6_learn 0 0 0 := zcV (zWi_21 _ (List.mem_of_getElem? (i := 14) rfl)) (zWi_16 _ (List.mem_of_getElem? (i := 35) rfl)) (zWi_29 _ (List.mem_of_getElem? (i := 12) rfl)) (zWi_12 _ (List.mem_of_getElem? (i := 18) rfl)) (zWi_5 _ (List.mem_of_getElem? (i := 19) rfl)) (by decide +kernel) rfl rfl ⟨Nat.le_of_ble_eq_true rfl, Nat.le_of_ble_eq_true rfl⟩
theorem kX11_loss_223 : ∀ (s9 : State) (a9 : Array Value), (∀ w ∈ wzX11_loss, w.before a9 s9 = true) → CallW rmX11_loss s9 a9 RX11 RX6 223 yX6_lossMoved cX6_lossMoved 9 (some .long) wzX6_lossMoved rmX6_lossMoved 0 0 3 := zcV (zWi_21 _ (List.mem_of_getElem? (i := 18) rfl)) (zWi_16 _ (List.mem_of_getElem? (i := 36) rfl)) (zWi_29 _ (List.mem_of_getElem? (i := 13) rfl)) (zWi_12 _ (List.mem_of_getElem? (i := 18) rfl)) (zWi_5 _ (List.mem_of_getElem? (i := 20) rfl)) (by decide +kernel) rfl rfl ⟨Nat.le_of_ble_eq_true rfl, Nat.le_of_ble_eq_true rfl⟩
theorem fX11_best_50 : zfl wzX11_best RX11 vwCl 50 11 5 := ⟨_, _, _, rfl, (fun w h => List.mem_cons_of_mem _ (zWuX11 w h)), by decide, List.mem_cons_of_mem _ (zWi_9 _ (List.mem_of_getElem? (i := 0) rfl))⟩
theorem fX11_best_230 : zfl wzX11_best RX11 vwCl 230 6 7 := ⟨_, _, _, rfl, (fun w h => List.mem_cons_of_mem _ (zWuX6 w h)), by decide, List.mem_cons_of_mem _ (zWi_8 _ (List.mem_of_getElem? (i := 23) rfl))⟩
theorem fX11_best_233 : zfl wzX11_best RX11 vwCl 233 6 8 := ⟨_, _, _, rfl, (fun w h => List.mem_cons_of_mem _ (zWuX6 w h)), by decide, List.mem_cons_of_mem _ (zWi_8 _ (List.mem_of_getElem? (i := 24) rfl))⟩
theorem fX11_best_236 : zfl wzX11_best RX11 vwCl 236 6 9 := ⟨_, _, _, rfl, (fun w h => List.mem_cons_of_mem _ (zWuX6 w h)), by decide, List.mem_cons_of_mem _ (zWi_8 _ (List.mem_of_getElem? (i := 25) rfl))⟩
theorem kX11_best_188 : ∀ (s9 : State) (a9 : Array Value), (∀ w ∈ wzX11_best, w.before a9 s9 = true) → CallW rmX11_best s9 a9 RX11 RX11 188 yX11_needGate cX11_needGate 2 none wzX11_needGate rmX11_needGate 1 6 1 := zcV (zWi_21 _ (List.mem_of_getElem? (i := 10) rfl)) (zWi_13 _ (List.mem_of_getElem? (i := 15) rfl)) (zWi_26 _ (List.mem_of_getElem? (i := 7) rfl)) (zWi_12 _ (List.mem_of_getElem? (i := 12) rfl)) (zWi_1 _ (List.mem_of_getElem? (i := 41) rfl)) (by decide +kernel) rfl rfl ⟨Nat.le_of_ble_eq_true rfl, Nat.le_of_ble_eq_true rfl⟩
theorem kX11_best_93 : ∀ (s9 : State) (a9 : Array Value), (∀ w ∈ wzX11_best, w.before a9 s9 = true) → CallB rmX11_best s9 a9 RX11 93 yX11_within cX11_within 6 (some .boolean) wzX11_within rmX11_within 0 0 3 ∧ (Cond.static yX11_within).before a9 s9 = true := zcS (zWi_22 _ (List.mem_of_getElem? (i := 14) rfl)) (zWi_31 _ (List.mem_of_getElem? (i := 9) rfl)) (zWi_12 _ (List.mem_of_getElem? (i := 12) rfl)) (zWi_2 _ (List.mem_of_getElem? (i := 17) rfl)) (by decide +kernel) rfl rfl ⟨Nat.le_of_ble_eq_true rfl, Nat.le_of_ble_eq_true rfl⟩
theorem kX11_best_97 : ∀ (s9 : State) (a9 : Array Value), (∀ w ∈ wzX11_best, w.before a9 s9 = true) → CallB rmX11_best s9 a9 RX11 97 yX11_need cX11_need 1 none wzX11_need rmX11_need 1 6 1 ∧ (Cond.static yX11_need).before a9 s9 = true := zcS (zWi_22 _ (List.mem_of_getElem? (i := 15) rfl)) (zWi_31 _ (List.mem_of_getElem? (i := 6) rfl)) (zWi_12 _ (List.mem_of_getElem? (i := 12) rfl)) (zWi_1 _ (List.mem_of_getElem? (i := 40) rfl)) (by decide +kernel) rfl rfl ⟨Nat.le_of_ble_eq_true rfl, Nat.le_of_ble_eq_true rfl⟩
theorem kX11_best_227 : ∀ (s9 : State) (a9 : Array Value), (∀ w ∈ wzX11_best, w.before a9 s9 = true) → CallW rmX11_best s9 a9 RX11 RX6 227 yX6_findBest cX6_findBest 7 none wzX6_findBest rmX6_findBest 0 0 1 := zcV (zWi_21 _ (List.mem_of_getElem? (i := 19) rfl)) (zWi_16 _ (List.mem_of_getElem? (i := 31) rfl)) (zWi_29 _ (List.mem_of_getElem? (i := 9) rfl)) (zWi_12 _ (List.mem_of_getElem? (i := 18) rfl)) (zWi_5 _ (List.mem_of_getElem? (i := 15) rfl)) (by decide +kernel) rfl rfl ⟨Nat.le_of_ble_eq_true rfl, Nat.le_of_ble_eq_true rfl⟩
theorem fX11_move_10 : zfl wzX11_move RX11 vwCl 10 11 0 := ⟨_, _, _, rfl, (fun w h => List.mem_cons_of_mem _ (zWuX11 w h)), by decide, List.mem_cons_of_mem _ (zWi_8 _ (List.mem_of_getElem? (i := 6) rfl))⟩
theorem fX11_move_43 : zfl wzX11_move RX11 vwCl 43 8 1 := ⟨_, _, _, rfl, (fun w h => List.mem_cons_of_mem _ (zWuX8 w h)), by decide, List.mem_cons_of_mem _ (zWi_8 _ (List.mem_of_getElem? (i := 47) rfl))⟩
theorem fX11_move_194 : zfl wzX11_move RX11 vwCl 194 2 2 := ⟨_, _, _, rfl, (fun w h => List.mem_cons_of_mem _ (zWuX2 w h)), by decide, List.mem_cons_of_mem _ (zWi_8 _ (List.mem_of_getElem? (i := 19) rfl))⟩
theorem fX11_move_195 : zfl wzX11_move RX11 vwCl 195 2 3 := ⟨_, _, _, rfl, (fun w h => List.mem_cons_of_mem _ (zWuX2 w h)), by decide, List.mem_cons_of_mem _ (zWi_8 _ (List.mem_of_getElem? (i := 20) rfl))⟩
theorem kX11_move_219 : ∀ (s9 : State) (a9 : Array Value), (∀ w ∈ wzX11_move, w.before a9 s9 = true) → CallW rmX11_move s9 a9 RX11 RX11 219 yX11_needMove cX11_needMove 4 none wzX11_needMove rmX11_needMove 3 18 3 := zcV (zWi_21 _ (List.mem_of_getElem? (i := 17) rfl)) (zWi_13 _ (List.mem_of_getElem? (i := 17) rfl)) (zWi_26 _ (List.mem_of_getElem? (i := 9) rfl)) (zWi_12 _ (List.mem_of_getElem? (i := 12) rfl)) (zWi_1 _ (List.mem_of_getElem? (i := 43) rfl)) (by decide +kernel) rfl rfl ⟨Nat.le_of_ble_eq_true rfl, Nat.le_of_ble_eq_true rfl⟩
theorem kX11_move_240 : ∀ (s9 : State) (a9 : Array Value), (∀ w ∈ wzX11_move, w.before a9 s9 = true) → CallB rmX11_move s9 a9 RX11 240 yX2_kept cX2_kept 1 (some .int) wzX2_kept rmX2_kept 0 0 1 ∧ (Cond.static yX2_kept).before a9 s9 = true := zcS (zWi_21 _ (List.mem_of_getElem? (i := 20) rfl)) (zWi_31 _ (List.mem_of_getElem? (i := 14) rfl)) (zWi_12 _ (List.mem_of_getElem? (i := 14) rfl)) (zWi_4 _ (List.mem_of_getElem? (i := 32) rfl)) (by decide +kernel) rfl rfl ⟨Nat.le_of_ble_eq_true rfl, Nat.le_of_ble_eq_true rfl⟩
theorem fX11_put_10 : zfl wzX11_put RX11 vwCl 10 11 0 := ⟨_, _, _, rfl, (fun w h => List.mem_cons_of_mem _ (zWuX11 w h)), by decide, List.mem_cons_of_mem _ (zWi_8 _ (List.mem_of_getElem? (i := 6) rfl))⟩
theorem fX11_put_39 : zfl wzX11_put RX11 vwCl 39 8 0 := ⟨_, _, _, rfl, (fun w h => List.mem_cons_of_mem _ (zWuX8 w h)), by decide, List.mem_cons_of_mem _ (zWi_8 _ (List.mem_of_getElem? (i := 43) rfl))⟩
theorem fX11_put_255 : zfl wzX11_put RX11 vwCl 255 8 2 := ⟨_, _, _, rfl, (fun w h => List.mem_cons_of_mem _ (zWuX8 w h)), by decide, List.mem_cons_of_mem _ (zWi_8 _ (List.mem_of_getElem? (i := 27) rfl))⟩
theorem fX11_put_275 : zfl wzX11_put RX11 vwCl 275 9 2 := ⟨_, _, _, rfl, (fun w h => List.mem_cons_of_mem _ (zWuX9 w h)), by decide, List.mem_cons_of_mem _ (zWi_8 _ (List.mem_of_getElem? (i := 30) rfl))⟩
theorem fX11_put_50 : zfl wzX11_put RX11 vwCl 50 11 5 := ⟨_, _, _, rfl, (fun w h => List.mem_cons_of_mem _ (zWuX11 w h)), by decide, List.mem_cons_of_mem _ (zWi_9 _ (List.mem_of_getElem? (i := 0) rfl))⟩
theorem fX11_put_278 : zfl wzX11_put RX11 vwCl 278 9 6 := ⟨_, _, _, rfl, (fun w h => List.mem_cons_of_mem _ (zWuX9 w h)), by decide, List.mem_cons_of_mem _ (zWi_8 _ (List.mem_of_getElem? (i := 31) rfl))⟩
theorem fX11_put_281 : zfl wzX11_put RX11 vwCl 281 7 2 := ⟨_, _, _, rfl, (fun w h => List.mem_cons_of_mem _ (zWuX7 w h)), by decide, List.mem_cons_of_mem _ (zWi_8 _ (List.mem_of_getElem? (i := 32) rfl))⟩
theorem kX11_put_109 : ∀ (s9 : State) (a9 : Array Value), (∀ w ∈ wzX11_put, w.before a9 s9 = true) → CallW rmX11_put s9 a9 RX11 RX11 109 yX11_needSort cX11_needSort 2 none wzX11_needSort rmX11_needSort 1 6 1 := zcV (zWi_21 _ (List.mem_of_getElem? (i := 2) rfl)) (zWi_13 _ (List.mem_of_getElem? (i := 18) rfl)) (zWi_26 _ (List.mem_of_getElem? (i := 10) rfl)) (zWi_12 _ (List.mem_of_getElem? (i := 12) rfl)) (zWi_1 _ (List.mem_of_getElem? (i := 44) rfl)) (by decide +kernel) rfl rfl ⟨Nat.le_of_ble_eq_true rfl, Nat.le_of_ble_eq_true rfl⟩
theorem kX11_put_271 : ∀ (s9 : State) (a9 : Array Value), (∀ w ∈ wzX11_put, w.before a9 s9 = true) → CallW rmX11_put s9 a9 RX11 RX7 271 yX7_isCoin cX7_isCoin 5 (some .boolean) wzX7_isCoin rmX7_isCoin 0 0 4 := zcV (zWi_21 _ (List.mem_of_getElem? (i := 25) rfl)) (zWi_16 _ (List.mem_of_getElem? (i := 47) rfl)) (zWi_29 _ (List.mem_of_getElem? (i := 23) rfl)) (zWi_12 _ (List.mem_of_getElem? (i := 19) rfl)) (zWi_5 _ (List.mem_of_getElem? (i := 31) rfl)) (by decide +kernel) rfl rfl ⟨Nat.le_of_ble_eq_true rfl, Nat.le_of_ble_eq_true rfl⟩
theorem kX11_put_97 : ∀ (s9 : State) (a9 : Array Value), (∀ w ∈ wzX11_put, w.before a9 s9 = true) → CallB rmX11_put s9 a9 RX11 97 yX11_need cX11_need 1 none wzX11_need rmX11_need 1 6 1 ∧ (Cond.static yX11_need).before a9 s9 = true := zcS (zWi_22 _ (List.mem_of_getElem? (i := 15) rfl)) (zWi_31 _ (List.mem_of_getElem? (i := 6) rfl)) (zWi_12 _ (List.mem_of_getElem? (i := 12) rfl)) (zWi_1 _ (List.mem_of_getElem? (i := 40) rfl)) (by decide +kernel) rfl rfl ⟨Nat.le_of_ble_eq_true rfl, Nat.le_of_ble_eq_true rfl⟩
theorem kX11_put_93 : ∀ (s9 : State) (a9 : Array Value), (∀ w ∈ wzX11_put, w.before a9 s9 = true) → CallB rmX11_put s9 a9 RX11 93 yX11_within cX11_within 6 (some .boolean) wzX11_within rmX11_within 0 0 3 ∧ (Cond.static yX11_within).before a9 s9 = true := zcS (zWi_22 _ (List.mem_of_getElem? (i := 14) rfl)) (zWi_31 _ (List.mem_of_getElem? (i := 9) rfl)) (zWi_12 _ (List.mem_of_getElem? (i := 12) rfl)) (zWi_2 _ (List.mem_of_getElem? (i := 17) rfl)) (by decide +kernel) rfl rfl ⟨Nat.le_of_ble_eq_true rfl, Nat.le_of_ble_eq_true rfl⟩
theorem kX11_put_196 : ∀ (s9 : State) (a9 : Array Value), (∀ w ∈ wzX11_put, w.before a9 s9 = true) → CallW rmX11_put s9 a9 RX11 RX6 196 yX6_takes cX6_takes 8 (some .int) wzX6_takes rmX6_takes 0 0 3 := zcV (zWi_21 _ (List.mem_of_getElem? (i := 11) rfl)) (zWi_16 _ (List.mem_of_getElem? (i := 39) rfl)) (zWi_29 _ (List.mem_of_getElem? (i := 16) rfl)) (zWi_12 _ (List.mem_of_getElem? (i := 18) rfl)) (zWi_5 _ (List.mem_of_getElem? (i := 23) rfl)) (by decide +kernel) rfl rfl ⟨Nat.le_of_ble_eq_true rfl, Nat.le_of_ble_eq_true rfl⟩
theorem kX11_put_284 : ∀ (s9 : State) (a9 : Array Value), (∀ w ∈ wzX11_put, w.before a9 s9 = true) → CallW rmX11_put s9 a9 RX11 RX9 284 yX9_slideIn cX9_slideIn 5 none wzX9_slideIn rmX9_slideIn 0 0 4 := zcV (zWi_21 _ (List.mem_of_getElem? (i := 26) rfl)) (zWi_17 _ (List.mem_of_getElem? (i := 21) rfl)) (zWi_29 _ (List.mem_of_getElem? (i := 45) rfl)) (zWi_12 _ (List.mem_of_getElem? (i := 21) rfl)) (zWi_6 _ (List.mem_of_getElem? (i := 5) rfl)) (by decide +kernel) rfl rfl ⟨Nat.le_of_ble_eq_true rfl, Nat.le_of_ble_eq_true rfl⟩
theorem fX11_load_10 : zfl wzX11_load RX11 vwCl 10 11 0 := ⟨_, _, _, rfl, (fun w h => List.mem_cons_of_mem _ (zWuX11 w h)), by decide, List.mem_cons_of_mem _ (zWi_8 _ (List.mem_of_getElem? (i := 6) rfl))⟩
theorem fX11_load_255 : zfl wzX11_load RX11 vwCl 255 8 2 := ⟨_, _, _, rfl, (fun w h => List.mem_cons_of_mem _ (zWuX8 w h)), by decide, List.mem_cons_of_mem _ (zWi_8 _ (List.mem_of_getElem? (i := 27) rfl))⟩
theorem fX11_load_268 : zfl wzX11_load RX11 vwCl 268 9 1 := ⟨_, _, _, rfl, (fun w h => List.mem_cons_of_mem _ (zWuX9 w h)), by decide, List.mem_cons_of_mem _ (zWi_8 _ (List.mem_of_getElem? (i := 29) rfl))⟩
theorem kX11_load_109 : ∀ (s9 : State) (a9 : Array Value), (∀ w ∈ wzX11_load, w.before a9 s9 = true) → CallW rmX11_load s9 a9 RX11 RX11 109 yX11_needSort cX11_needSort 2 none wzX11_needSort rmX11_needSort 1 6 1 := zcV (zWi_21 _ (List.mem_of_getElem? (i := 2) rfl)) (zWi_13 _ (List.mem_of_getElem? (i := 18) rfl)) (zWi_26 _ (List.mem_of_getElem? (i := 10) rfl)) (zWi_12 _ (List.mem_of_getElem? (i := 12) rfl)) (zWi_1 _ (List.mem_of_getElem? (i := 44) rfl)) (by decide +kernel) rfl rfl ⟨Nat.le_of_ble_eq_true rfl, Nat.le_of_ble_eq_true rfl⟩
theorem kX11_load_93 : ∀ (s9 : State) (a9 : Array Value), (∀ w ∈ wzX11_load, w.before a9 s9 = true) → CallB rmX11_load s9 a9 RX11 93 yX11_within cX11_within 6 (some .boolean) wzX11_within rmX11_within 0 0 3 ∧ (Cond.static yX11_within).before a9 s9 = true := zcS (zWi_22 _ (List.mem_of_getElem? (i := 14) rfl)) (zWi_31 _ (List.mem_of_getElem? (i := 9) rfl)) (zWi_12 _ (List.mem_of_getElem? (i := 12) rfl)) (zWi_2 _ (List.mem_of_getElem? (i := 17) rfl)) (by decide +kernel) rfl rfl ⟨Nat.le_of_ble_eq_true rfl, Nat.le_of_ble_eq_true rfl⟩
theorem kX11_load_97 : ∀ (s9 : State) (a9 : Array Value), (∀ w ∈ wzX11_load, w.before a9 s9 = true) → CallB rmX11_load s9 a9 RX11 97 yX11_need cX11_need 1 none wzX11_need rmX11_need 1 6 1 ∧ (Cond.static yX11_need).before a9 s9 = true := zcS (zWi_22 _ (List.mem_of_getElem? (i := 15) rfl)) (zWi_31 _ (List.mem_of_getElem? (i := 6) rfl)) (zWi_12 _ (List.mem_of_getElem? (i := 12) rfl)) (zWi_1 _ (List.mem_of_getElem? (i := 40) rfl)) (by decide +kernel) rfl rfl ⟨Nat.le_of_ble_eq_true rfl, Nat.le_of_ble_eq_true rfl⟩
theorem kX11_load_259 : ∀ (s9 : State) (a9 : Array Value), (∀ w ∈ wzX11_load, w.before a9 s9 = true) → CallW rmX11_load s9 a9 RX11 RX9 259 yX9_hasRoom cX9_hasRoom 3 (some .boolean) wzX9_hasRoom rmX9_hasRoom 0 0 2 := zcV (zWi_21 _ (List.mem_of_getElem? (i := 23) rfl)) (zWi_17 _ (List.mem_of_getElem? (i := 15) rfl)) (zWi_29 _ (List.mem_of_getElem? (i := 40) rfl)) (zWi_12 _ (List.mem_of_getElem? (i := 21) rfl)) (zWi_5 _ (List.mem_of_getElem? (i := 49) rfl)) (by decide +kernel) rfl rfl ⟨Nat.le_of_ble_eq_true rfl, Nat.le_of_ble_eq_true rfl⟩
theorem kX11_load_264 : ∀ (s9 : State) (a9 : Array Value), (∀ w ∈ wzX11_load, w.before a9 s9 = true) → CallW rmX11_load s9 a9 RX11 RX9 264 yX9_loadOne cX9_loadOne 3 none wzX9_loadOne rmX9_loadOne 0 0 2 := zcV (zWi_21 _ (List.mem_of_getElem? (i := 24) rfl)) (zWi_17 _ (List.mem_of_getElem? (i := 18) rfl)) (zWi_29 _ (List.mem_of_getElem? (i := 42) rfl)) (zWi_12 _ (List.mem_of_getElem? (i := 21) rfl)) (zWi_6 _ (List.mem_of_getElem? (i := 2) rfl)) (by decide +kernel) rfl rfl ⟨Nat.le_of_ble_eq_true rfl, Nat.le_of_ble_eq_true rfl⟩
theorem fX11_made_59 : zfl wzX11_made RX11 vwCl 59 11 6 := ⟨_, _, _, rfl, (fun w h => List.mem_cons_of_mem _ (zWuX11 w h)), by decide, List.mem_cons_of_mem _ (zWi_9 _ (List.mem_of_getElem? (i := 1) rfl))⟩
theorem kX11_made_93 : ∀ (s9 : State) (a9 : Array Value), (∀ w ∈ wzX11_made, w.before a9 s9 = true) → CallB rmX11_made s9 a9 RX11 93 yX11_within cX11_within 6 (some .boolean) wzX11_within rmX11_within 0 0 3 ∧ (Cond.static yX11_within).before a9 s9 = true := zcS (zWi_22 _ (List.mem_of_getElem? (i := 14) rfl)) (zWi_31 _ (List.mem_of_getElem? (i := 9) rfl)) (zWi_12 _ (List.mem_of_getElem? (i := 12) rfl)) (zWi_2 _ (List.mem_of_getElem? (i := 17) rfl)) (by decide +kernel) rfl rfl ⟨Nat.le_of_ble_eq_true rfl, Nat.le_of_ble_eq_true rfl⟩
theorem kX11_made_97 : ∀ (s9 : State) (a9 : Array Value), (∀ w ∈ wzX11_made, w.before a9 s9 = true) → CallB rmX11_made s9 a9 RX11 97 yX11_need cX11_need 1 none wzX11_need rmX11_need 1 6 1 ∧ (Cond.static yX11_need).before a9 s9 = true := zcS (zWi_22 _ (List.mem_of_getElem? (i := 15) rfl)) (zWi_31 _ (List.mem_of_getElem? (i := 6) rfl)) (zWi_12 _ (List.mem_of_getElem? (i := 12) rfl)) (zWi_1 _ (List.mem_of_getElem? (i := 40) rfl)) (by decide +kernel) rfl rfl ⟨Nat.le_of_ble_eq_true rfl, Nat.le_of_ble_eq_true rfl⟩
theorem kX11_made_337 : ∀ (s9 : State) (a9 : Array Value), (∀ w ∈ wzX11_made, w.before a9 s9 = true) → CallW rmX11_made s9 a9 RX11 RX0 337 yX0_madeFrom cX0_madeFrom 3 (some .int) wzX0_madeFrom rmX0_madeFrom 0 0 1 := zcV (zWi_21 _ (List.mem_of_getElem? (i := 40) rfl)) (zWi_12 _ (List.mem_of_getElem? (i := 33) rfl)) (zWi_25 _ (List.mem_of_getElem? (i := 19) rfl)) (zWi_12 _ (List.mem_of_getElem? (i := 9) rfl)) (zWi_1 _ (List.mem_of_getElem? (i := 6) rfl)) (by decide +kernel) rfl rfl ⟨Nat.le_of_ble_eq_true rfl, Nat.le_of_ble_eq_true rfl⟩
theorem fX11_explain_68 : zfl wzX11_explain RX11 vwCl 68 11 7 := ⟨_, _, _, rfl, (fun w h => List.mem_cons_of_mem _ (zWuX11 w h)), by decide, List.mem_cons_of_mem _ (zWi_9 _ (List.mem_of_getElem? (i := 2) rfl))⟩
theorem fX11_explain_358 : zfl wzX11_explain RX11 vwCl 358 3 4 := ⟨_, _, _, rfl, (fun w h => List.mem_cons_of_mem _ (zWuX3 w h)), by decide, List.mem_cons_of_mem _ (zWi_8 _ (List.mem_of_getElem? (i := 39) rfl))⟩
theorem fX11_explain_361 : zfl wzX11_explain RX11 vwCl 361 3 5 := ⟨_, _, _, rfl, (fun w h => List.mem_cons_of_mem _ (zWuX3 w h)), by decide, List.mem_cons_of_mem _ (zWi_8 _ (List.mem_of_getElem? (i := 40) rfl))⟩
theorem fX11_explain_364 : zfl wzX11_explain RX11 vwCl 364 3 6 := ⟨_, _, _, rfl, (fun w h => List.mem_cons_of_mem _ (zWuX3 w h)), by decide, List.mem_cons_of_mem _ (zWi_8 _ (List.mem_of_getElem? (i := 41) rfl))⟩
theorem kX11_explain_93 : ∀ (s9 : State) (a9 : Array Value), (∀ w ∈ wzX11_explain, w.before a9 s9 = true) → CallB rmX11_explain s9 a9 RX11 93 yX11_within cX11_within 6 (some .boolean) wzX11_within rmX11_within 0 0 3 ∧ (Cond.static yX11_within).before a9 s9 = true := zcS (zWi_22 _ (List.mem_of_getElem? (i := 14) rfl)) (zWi_31 _ (List.mem_of_getElem? (i := 9) rfl)) (zWi_12 _ (List.mem_of_getElem? (i := 12) rfl)) (zWi_2 _ (List.mem_of_getElem? (i := 17) rfl)) (by decide +kernel) rfl rfl ⟨Nat.le_of_ble_eq_true rfl, Nat.le_of_ble_eq_true rfl⟩
theorem kX11_explain_97 : ∀ (s9 : State) (a9 : Array Value), (∀ w ∈ wzX11_explain, w.before a9 s9 = true) → CallB rmX11_explain s9 a9 RX11 97 yX11_need cX11_need 1 none wzX11_need rmX11_need 1 6 1 ∧ (Cond.static yX11_need).before a9 s9 = true := zcS (zWi_22 _ (List.mem_of_getElem? (i := 15) rfl)) (zWi_31 _ (List.mem_of_getElem? (i := 6) rfl)) (zWi_12 _ (List.mem_of_getElem? (i := 12) rfl)) (zWi_1 _ (List.mem_of_getElem? (i := 40) rfl)) (by decide +kernel) rfl rfl ⟨Nat.le_of_ble_eq_true rfl, Nat.le_of_ble_eq_true rfl⟩
theorem kX11_explain_355 : ∀ (s9 : State) (a9 : Array Value), (∀ w ∈ wzX11_explain, w.before a9 s9 = true) → CallW rmX11_explain s9 a9 RX11 RX3 355 yX3_weigh cX3_weigh 7 none wzX3_weigh rmX3_weigh 0 0 0 := zcV (zWi_21 _ (List.mem_of_getElem? (i := 44) rfl)) (zWi_16 _ (List.mem_of_getElem? (i := 3) rfl)) (zWi_28 _ (List.mem_of_getElem? (i := 33) rfl)) (zWi_12 _ (List.mem_of_getElem? (i := 15) rfl)) (zWi_4 _ (List.mem_of_getElem? (i := 37) rfl)) (by decide +kernel) rfl rfl ⟨Nat.le_of_ble_eq_true rfl, Nat.le_of_ble_eq_true rfl⟩
theorem fX11_most_77 : zfl wzX11_most RX11 vwCl 77 11 8 := ⟨_, _, _, rfl, (fun w h => List.mem_cons_of_mem _ (zWuX11 w h)), by decide, List.mem_cons_of_mem _ (zWi_9 _ (List.mem_of_getElem? (i := 3) rfl))⟩
theorem kX11_most_93 : ∀ (s9 : State) (a9 : Array Value), (∀ w ∈ wzX11_most, w.before a9 s9 = true) → CallB rmX11_most s9 a9 RX11 93 yX11_within cX11_within 6 (some .boolean) wzX11_within rmX11_within 0 0 3 ∧ (Cond.static yX11_within).before a9 s9 = true := zcS (zWi_22 _ (List.mem_of_getElem? (i := 14) rfl)) (zWi_31 _ (List.mem_of_getElem? (i := 9) rfl)) (zWi_12 _ (List.mem_of_getElem? (i := 12) rfl)) (zWi_2 _ (List.mem_of_getElem? (i := 17) rfl)) (by decide +kernel) rfl rfl ⟨Nat.le_of_ble_eq_true rfl, Nat.le_of_ble_eq_true rfl⟩
theorem kX11_most_97 : ∀ (s9 : State) (a9 : Array Value), (∀ w ∈ wzX11_most, w.before a9 s9 = true) → CallB rmX11_most s9 a9 RX11 97 yX11_need cX11_need 1 none wzX11_need rmX11_need 1 6 1 ∧ (Cond.static yX11_need).before a9 s9 = true := zcS (zWi_22 _ (List.mem_of_getElem? (i := 15) rfl)) (zWi_31 _ (List.mem_of_getElem? (i := 6) rfl)) (zWi_12 _ (List.mem_of_getElem? (i := 12) rfl)) (zWi_1 _ (List.mem_of_getElem? (i := 40) rfl)) (by decide +kernel) rfl rfl ⟨Nat.le_of_ble_eq_true rfl, Nat.le_of_ble_eq_true rfl⟩
theorem kX11_most_374 : ∀ (s9 : State) (a9 : Array Value), (∀ w ∈ wzX11_most, w.before a9 s9 = true) → CallW rmX11_most s9 a9 RX11 RX5 374 yX5_mostOf cX5_mostOf 2 (some .long) wzX5_mostOf rmX5_mostOf 0 0 1 := zcV (zWi_21 _ (List.mem_of_getElem? (i := 47) rfl)) (zWi_16 _ (List.mem_of_getElem? (i := 26) rfl)) (zWi_29 _ (List.mem_of_getElem? (i := 4) rfl)) (zWi_12 _ (List.mem_of_getElem? (i := 17) rfl)) (zWi_5 _ (List.mem_of_getElem? (i := 10) rfl)) (by decide +kernel) rfl rfl ⟨Nat.le_of_ble_eq_true rfl, Nat.le_of_ble_eq_true rfl⟩
theorem fX11_serve_10 : zfl wzX11_serve RX11 vwCl 10 11 0 := ⟨_, _, _, rfl, (fun w h => List.mem_cons_of_mem _ (zWuX11 w h)), by decide, List.mem_cons_of_mem _ (zWi_8 _ (List.mem_of_getElem? (i := 6) rfl))⟩
theorem fX11_serve_377 : zfl wzX11_serve RX11 vwCl 377 8 5 := ⟨_, _, _, rfl, (fun w h => List.mem_cons_of_mem _ (zWuX8 w h)), by decide, List.mem_cons_of_mem _ (zWi_8 _ (List.mem_of_getElem? (i := 42) rfl))⟩
theorem fX11_serve_77 : zfl wzX11_serve RX11 vwCl 77 11 8 := ⟨_, _, _, rfl, (fun w h => List.mem_cons_of_mem _ (zWuX11 w h)), by decide, List.mem_cons_of_mem _ (zWi_9 _ (List.mem_of_getElem? (i := 3) rfl))⟩
theorem kX11_serve_93 : ∀ (s9 : State) (a9 : Array Value), (∀ w ∈ wzX11_serve, w.before a9 s9 = true) → CallB rmX11_serve s9 a9 RX11 93 yX11_within cX11_within 6 (some .boolean) wzX11_within rmX11_within 0 0 3 ∧ (Cond.static yX11_within).before a9 s9 = true := zcS (zWi_22 _ (List.mem_of_getElem? (i := 14) rfl)) (zWi_31 _ (List.mem_of_getElem? (i := 9) rfl)) (zWi_12 _ (List.mem_of_getElem? (i := 12) rfl)) (zWi_2 _ (List.mem_of_getElem? (i := 17) rfl)) (by decide +kernel) rfl rfl ⟨Nat.le_of_ble_eq_true rfl, Nat.le_of_ble_eq_true rfl⟩
theorem kX11_serve_115 : ∀ (s9 : State) (a9 : Array Value), (∀ w ∈ wzX11_serve, w.before a9 s9 = true) → CallB rmX11_serve s9 a9 RX11 115 yX11_needThere cX11_needThere 1 none wzX11_needThere rmX11_needThere 1 6 1 ∧ (Cond.static yX11_needThere).before a9 s9 = true := zcS (zWi_21 _ (List.mem_of_getElem? (i := 3) rfl)) (zWi_31 _ (List.mem_of_getElem? (i := 7) rfl)) (zWi_12 _ (List.mem_of_getElem? (i := 12) rfl)) (zWi_1 _ (List.mem_of_getElem? (i := 45) rfl)) (by decide +kernel) rfl rfl ⟨Nat.le_of_ble_eq_true rfl, Nat.le_of_ble_eq_true rfl⟩
theorem kX11_serve_97 : ∀ (s9 : State) (a9 : Array Value), (∀ w ∈ wzX11_serve, w.before a9 s9 = true) → CallB rmX11_serve s9 a9 RX11 97 yX11_need cX11_need 1 none wzX11_need rmX11_need 1 6 1 ∧ (Cond.static yX11_need).before a9 s9 = true := zcS (zWi_22 _ (List.mem_of_getElem? (i := 15) rfl)) (zWi_31 _ (List.mem_of_getElem? (i := 6) rfl)) (zWi_12 _ (List.mem_of_getElem? (i := 12) rfl)) (zWi_1 _ (List.mem_of_getElem? (i := 40) rfl)) (by decide +kernel) rfl rfl ⟨Nat.le_of_ble_eq_true rfl, Nat.le_of_ble_eq_true rfl⟩
theorem kX11_serve_380 : ∀ (s9 : State) (a9 : Array Value), (∀ w ∈ wzX11_serve, w.before a9 s9 = true) → CallW rmX11_serve s9 a9 RX11 RX5 380 yX5_advice cX5_advice 7 (some .int) wzX5_advice rmX5_advice 0 0 2 := zcV (zWi_21 _ (List.mem_of_getElem? (i := 48) rfl)) (zWi_16 _ (List.mem_of_getElem? (i := 19) rfl)) (zWi_28 _ (List.mem_of_getElem? (i := 48) rfl)) (zWi_12 _ (List.mem_of_getElem? (i := 17) rfl)) (zWi_5 _ (List.mem_of_getElem? (i := 3) rfl)) (by decide +kernel) rfl rfl ⟨Nat.le_of_ble_eq_true rfl, Nat.le_of_ble_eq_true rfl⟩
theorem fX11_rounds_10 : zfl wzX11_rounds RX11 vwCl 10 11 0 := ⟨_, _, _, rfl, (fun w h => List.mem_cons_of_mem _ (zWuX11 w h)), by decide, List.mem_cons_of_mem _ (zWi_8 _ (List.mem_of_getElem? (i := 6) rfl))⟩
theorem fX11_rounds_390 : zfl wzX11_rounds RX11 vwCl 390 8 10 := ⟨_, _, _, rfl, (fun w h => List.mem_cons_of_mem _ (zWuX8 w h)), by decide, List.mem_cons_of_mem _ (zWi_8 _ (List.mem_of_getElem? (i := 44) rfl))⟩
theorem fX11_rounds_86 : zfl wzX11_rounds RX11 vwCl 86 11 9 := ⟨_, _, _, rfl, (fun w h => List.mem_cons_of_mem _ (zWuX11 w h)), by decide, List.mem_cons_of_mem _ (zWi_9 _ (List.mem_of_getElem? (i := 4) rfl))⟩
theorem kX11_rounds_93 : ∀ (s9 : State) (a9 : Array Value), (∀ w ∈ wzX11_rounds, w.before a9 s9 = true) → CallB rmX11_rounds s9 a9 RX11 93 yX11_within cX11_within 6 (some .boolean) wzX11_within rmX11_within 0 0 3 ∧ (Cond.static yX11_within).before a9 s9 = true := zcS (zWi_22 _ (List.mem_of_getElem? (i := 14) rfl)) (zWi_31 _ (List.mem_of_getElem? (i := 9) rfl)) (zWi_12 _ (List.mem_of_getElem? (i := 12) rfl)) (zWi_2 _ (List.mem_of_getElem? (i := 17) rfl)) (by decide +kernel) rfl rfl ⟨Nat.le_of_ble_eq_true rfl, Nat.le_of_ble_eq_true rfl⟩
theorem kX11_rounds_97 : ∀ (s9 : State) (a9 : Array Value), (∀ w ∈ wzX11_rounds, w.before a9 s9 = true) → CallB rmX11_rounds s9 a9 RX11 97 yX11_need cX11_need 1 none wzX11_need rmX11_need 1 6 1 ∧ (Cond.static yX11_need).before a9 s9 = true := zcS (zWi_22 _ (List.mem_of_getElem? (i := 15) rfl)) (zWi_31 _ (List.mem_of_getElem? (i := 6) rfl)) (zWi_12 _ (List.mem_of_getElem? (i := 12) rfl)) (zWi_1 _ (List.mem_of_getElem? (i := 40) rfl)) (by decide +kernel) rfl rfl ⟨Nat.le_of_ble_eq_true rfl, Nat.le_of_ble_eq_true rfl⟩
theorem kX11_rounds_393 : ∀ (s9 : State) (a9 : Array Value), (∀ w ∈ wzX11_rounds, w.before a9 s9 = true) → CallW rmX11_rounds s9 a9 RX11 RX1 393 yX1_leastDry cX1_leastDry 2 (some .int) wzX1_leastDry rmX1_leastDry 0 0 1 := zcV (zWi_22 _ (List.mem_of_getElem? (i := 0) rfl)) (zWi_15 _ (List.mem_of_getElem? (i := 45) rfl)) (zWi_25 _ (List.mem_of_getElem? (i := 29) rfl)) (zWi_12 _ (List.mem_of_getElem? (i := 10) rfl)) (zWi_4 _ (List.mem_of_getElem? (i := 28) rfl)) (by decide +kernel) rfl rfl ⟨Nat.le_of_ble_eq_true rfl, Nat.le_of_ble_eq_true rfl⟩
theorem kX11_rounds_396 : ∀ (s9 : State) (a9 : Array Value), (∀ w ∈ wzX11_rounds, w.before a9 s9 = true) → CallW rmX11_rounds s9 a9 RX11 RX1 396 yX1_filledOn cX1_filledOn 5 (some .int) wzX1_filledOn rmX1_filledOn 0 0 2 := zcV (zWi_22 _ (List.mem_of_getElem? (i := 1) rfl)) (zWi_15 _ (List.mem_of_getElem? (i := 40) rfl)) (zWi_25 _ (List.mem_of_getElem? (i := 25) rfl)) (zWi_12 _ (List.mem_of_getElem? (i := 10) rfl)) (zWi_4 _ (List.mem_of_getElem? (i := 23) rfl)) (by decide +kernel) rfl rfl ⟨Nat.le_of_ble_eq_true rfl, Nat.le_of_ble_eq_true rfl⟩
def sp_X11_passes (as : List zV) (M : zM) (Q : Option zV → zM → Prop) : Prop := ∃ (s a : Int), as = [zR 0, zI s, zI a] ∧ (ICg M) ∧ (ICs M) ∧ ((0 ≤ s ∧ s < M 2 0) → (a = -1 ∨ (0 ≤ a ∧ a < M 2 0)) → ∀ M', offX M M' → Q (some (zL (cnt3 M s (a + 1).toNat))) M') ∧ (¬ ((0 ≤ s ∧ s < M 2 0) ∧ (a = -1 ∨ (0 ≤ a ∧ a < M 2 0))) → Q (some (zR 3000)) M)
theorem us_X11_passes {s a : Int} {M : zM} {Q : Option zV → zM → Prop} (hg : ICg M) (hs : ICs M) (hQ : (0 ≤ s ∧ s < M 2 0) → (a = -1 ∨ (0 ≤ a ∧ a < M 2 0)) → ∀ M', offX M M' → Q (some (zL (cnt3 M s (a + 1).toNat))) M') (hT : ¬ ((0 ≤ s ∧ s < M 2 0) ∧ (a = -1 ∨ (0 ≤ a ∧ a < M 2 0))) → Q (some (zR 3000)) M) : sp_X11_passes [zR 0, zI s, zI a] M Q := ⟨s, a, rfl, hg, hs, hQ, hT⟩
set_option maxRecDepth 20000 in
set_option maxHeartbeats 4000000 in
theorem m_X11_passes (l : Launch) : zCx l yX11_passes wzX11_passes rmX11_passes 2 sp_X11_passes := by
  refine zMet.of RX11 (by decide +kernel) rfl rfl ?_
  intro E X as M Qp hX S hsp
  obtain ⟨s, a, rfl, hg, hs, hQ, hT⟩ := hsp
  refine ⟨Nat.le_of_ble_eq_true rfl, ?_⟩
  dsimp only [zpad, zargs]
  have h8 := hs.1
  have e2 : lrnU M (2 ^ (M 11 0).toNat) 2 = M 2 := lrnU_o _ (by decide)
  refine zr_aload_n (pc := 0) S dX11_passes_0 rfl ?_
  refine zr_iload_n (pc := 1) S dX11_passes_1 rfl ?_
  refine zr_invV (pc := 2) S [zI _] (m_X11_needSort _) kX11_passes_109 dX11_passes_2 rfl (Nat.le_of_ble_eq_true rfl) rfl (Nat.le_of_ble_eq_true rfl) ⟨Nat.le_of_ble_eq_true rfl, Nat.le_of_ble_eq_true rfl⟩ (us_X11_needSort (fun c2 => ?_) (fun c2 => zaft_thr (by omega) ⟨Nat.le_of_ble_eq_true rfl, Nat.le_of_ble_eq_true rfl⟩ (hT (fun z => c2 z.1))))
  dsimp only [zaft, Option.toList, List.cons_append, List.nil_append, Nat.add_zero]
  refine zr_iload_n (pc := 5) S dX11_passes_5 rfl ?_
  refine zr_iconst (pc := 6) S dX11_passes_6 (by unfold zrI; omega) ?_
  refine zr_icmp_eq (pc := 7) (tgt := 24) S dX11_passes_7 (by decide) (fun c7 => ?_) (fun c7 => ?_)
  · have ca : a = -1 ∨ (0 ≤ a ∧ a < M 2 0) := Or.inl c7
    refine zr_iconst (pc := 24) S dX11_passes_24 (by unfold zrI; omega) ?_
    refine zr_goto (pc := 25) (tgt := 29) S dX11_passes_25 (by decide) ?_
    refine zr_invS (pc := 29) S [zI _] (m_X11_needThere _) kX11_passes_115 dX11_passes_29 (Nat.le_of_ble_eq_true rfl) ⟨Nat.le_of_ble_eq_true rfl, Nat.le_of_ble_eq_true rfl⟩ (us_X11_needThere (fun c29 => ?_) (fun c29 => zaft_thr (by omega) ⟨Nat.le_of_ble_eq_true rfl, Nat.le_of_ble_eq_true rfl⟩ (by first | exact absurd c29 (by decide) | exact hT (fun z => z.2.elim c7 c21))))
    dsimp only [zaft, Option.toList, List.cons_append, List.nil_append, Nat.add_zero]
    have ca : a = -1 ∨ (0 ≤ a ∧ a < M 2 0) := by first | exact ca | exact absurd rfl c29
    refine zr_aload_n (pc := 32) S dX11_passes_32 rfl ?_
    refine zr_getR (pc := 33) S fX11_passes_50 dX11_passes_33 rfl (Nat.le_of_ble_eq_true rfl) rfl ?_
    refine zr_invV (pc := 36) S [] (m_X6_learn _) kX11_passes_206 dX11_passes_36 rfl (Nat.le_of_ble_eq_true rfl) rfl (Nat.le_of_ble_eq_true rfl) ⟨Nat.le_of_ble_eq_true rfl, Nat.le_of_ble_eq_true rfl⟩ (us_X6_learn hg hs ?_)
    dsimp only [zaft, Option.toList, List.cons_append, List.nil_append, Nat.add_zero]
    refine zr_aload_n (pc := 39) S dX11_passes_39 rfl ?_
    refine zr_getR (pc := 40) S fX11_passes_50 dX11_passes_40 rfl (Nat.le_of_ble_eq_true rfl) rfl ?_
    refine zr_iload_n (pc := 43) S dX11_passes_43 rfl ?_
    refine zr_invV (pc := 44) S [zI _] (m_X6_tell _) kX11_passes_209 dX11_passes_44 rfl (Nat.le_of_ble_eq_true rfl) rfl (Nat.le_of_ble_eq_true rfl) ⟨Nat.le_of_ble_eq_true rfl, Nat.le_of_ble_eq_true rfl⟩ (us_X6_tell (AG.g (lrn_ag M _) hg) (AG.s (lrn_ag M _) hs) c2.1 (by omega) (lrn_ok hg) ?_)
    dsimp only [zaft, Option.toList, List.cons_append, List.nil_append, Nat.add_zero]
    rintro r N ⟨rfl, hN, hT2⟩
    dsimp only [zaft, Option.toList, List.nil_append]
    refine zr_aload_n (pc := 47) S dX11_passes_47 rfl ?_
    refine zr_getR (pc := 48) S fX11_passes_50 dX11_passes_48 rfl (Nat.le_of_ble_eq_true rfl) rfl ?_
    refine zr_getR (pc := 51) S fX11_passes_212 dX11_passes_51 rfl (Nat.le_of_ble_eq_true rfl) rfl ?_
    refine zr_iload_n (pc := 54) S dX11_passes_54 rfl ?_
    refine zr_iconst (pc := 55) S dX11_passes_55 (by unfold zrI; omega) ?_
    refine zr_iadd (pc := 56) S dX11_passes_56 (by unfold zrI; omega) ?_
    refine zr_laload (pc := 57) S dX11_passes_57 rfl (Nat.le_of_ble_eq_true rfl) (by omega) (by omega) ?_
    rw [hT2 _ (by omega), ag_cnt3 (lrn_ag M _)]
    exact zr_lret (pc := 58) S dX11_passes_58 rfl ⟨Nat.le_of_ble_eq_true rfl, Nat.le_of_ble_eq_true rfl⟩ (hQ c2 ca _ (fun k hk => by rw [hN k (by omega) (by omega) (by omega) (by omega), lrnU_o k (by omega)]))
  · refine zr_aload_n (pc := 10) S dX11_passes_10 rfl ?_
    refine zr_getR (pc := 11) S fX11_passes_10 dX11_passes_11 rfl (Nat.le_of_ble_eq_true rfl) rfl ?_
    refine zr_getR (pc := 14) S fX11_passes_39 dX11_passes_14 rfl (Nat.le_of_ble_eq_true rfl) rfl ?_
    refine zr_iload_n (pc := 17) S dX11_passes_17 rfl ?_
    refine zr_invV (pc := 18) S [zI _] (m_X7_has _) kX11_passes_203 dX11_passes_18 rfl (Nat.le_of_ble_eq_true rfl) rfl (Nat.le_of_ble_eq_true rfl) ⟨Nat.le_of_ble_eq_true rfl, Nat.le_of_ble_eq_true rfl⟩ (us_X7_has ?_)
    dsimp only [zaft, Option.toList, List.cons_append, List.nil_append, Nat.add_zero]
    refine zr_if_eq (pc := 21) (tgt := 28) S dX11_passes_21 (by decide) (fun c21 => ?_) (fun c21 => ?_)
    · rw [b01_0] at c21
      refine zr_iconst (pc := 28) S dX11_passes_28 (by unfold zrI; omega) ?_
      refine zr_invS (pc := 29) S [zI _] (m_X11_needThere _) kX11_passes_115 dX11_passes_29 (Nat.le_of_ble_eq_true rfl) ⟨Nat.le_of_ble_eq_true rfl, Nat.le_of_ble_eq_true rfl⟩ (us_X11_needThere (fun c29 => ?_) (fun c29 => zaft_thr (by omega) ⟨Nat.le_of_ble_eq_true rfl, Nat.le_of_ble_eq_true rfl⟩ (by first | exact absurd c29 (by decide) | exact hT (fun z => z.2.elim c7 c21))))
      dsimp only [zaft, Option.toList, List.cons_append, List.nil_append, Nat.add_zero]
      have ca : a = -1 ∨ (0 ≤ a ∧ a < M 2 0) := by first | exact ca | exact absurd rfl c29
      refine zr_aload_n (pc := 32) S dX11_passes_32 rfl ?_
      refine zr_getR (pc := 33) S fX11_passes_50 dX11_passes_33 rfl (Nat.le_of_ble_eq_true rfl) rfl ?_
      refine zr_invV (pc := 36) S [] (m_X6_learn _) kX11_passes_206 dX11_passes_36 rfl (Nat.le_of_ble_eq_true rfl) rfl (Nat.le_of_ble_eq_true rfl) ⟨Nat.le_of_ble_eq_true rfl, Nat.le_of_ble_eq_true rfl⟩ (us_X6_learn hg hs ?_)
      dsimp only [zaft, Option.toList, List.cons_append, List.nil_append, Nat.add_zero]
      refine zr_aload_n (pc := 39) S dX11_passes_39 rfl ?_
      refine zr_getR (pc := 40) S fX11_passes_50 dX11_passes_40 rfl (Nat.le_of_ble_eq_true rfl) rfl ?_
      refine zr_iload_n (pc := 43) S dX11_passes_43 rfl ?_
      refine zr_invV (pc := 44) S [zI _] (m_X6_tell _) kX11_passes_209 dX11_passes_44 rfl (Nat.le_of_ble_eq_true rfl) rfl (Nat.le_of_ble_eq_true rfl) ⟨Nat.le_of_ble_eq_true rfl, Nat.le_of_ble_eq_true rfl⟩ (us_X6_tell (AG.g (lrn_ag M _) hg) (AG.s (lrn_ag M _) hs) c2.1 (by omega) (lrn_ok hg) ?_)
      dsimp only [zaft, Option.toList, List.cons_append, List.nil_append, Nat.add_zero]
      rintro r N ⟨rfl, hN, hT2⟩
      dsimp only [zaft, Option.toList, List.nil_append]
      refine zr_aload_n (pc := 47) S dX11_passes_47 rfl ?_
      refine zr_getR (pc := 48) S fX11_passes_50 dX11_passes_48 rfl (Nat.le_of_ble_eq_true rfl) rfl ?_
      refine zr_getR (pc := 51) S fX11_passes_212 dX11_passes_51 rfl (Nat.le_of_ble_eq_true rfl) rfl ?_
      refine zr_iload_n (pc := 54) S dX11_passes_54 rfl ?_
      refine zr_iconst (pc := 55) S dX11_passes_55 (by unfold zrI; omega) ?_
      refine zr_iadd (pc := 56) S dX11_passes_56 (by unfold zrI; omega) ?_
      refine zr_laload (pc := 57) S dX11_passes_57 rfl (Nat.le_of_ble_eq_true rfl) (by omega) (by omega) ?_
      rw [hT2 _ (by omega), ag_cnt3 (lrn_ag M _)]
      exact zr_lret (pc := 58) S dX11_passes_58 rfl ⟨Nat.le_of_ble_eq_true rfl, Nat.le_of_ble_eq_true rfl⟩ (hQ c2 ca _ (fun k hk => by rw [hN k (by omega) (by omega) (by omega) (by omega), lrnU_o k (by omega)]))
    · rw [b01_0, Classical.not_not] at c21
      have ca : a = -1 ∨ (0 ≤ a ∧ a < M 2 0) := Or.inr c21
      refine zr_iconst (pc := 24) S dX11_passes_24 (by unfold zrI; omega) ?_
      refine zr_goto (pc := 25) (tgt := 29) S dX11_passes_25 (by decide) ?_
      refine zr_invS (pc := 29) S [zI _] (m_X11_needThere _) kX11_passes_115 dX11_passes_29 (Nat.le_of_ble_eq_true rfl) ⟨Nat.le_of_ble_eq_true rfl, Nat.le_of_ble_eq_true rfl⟩ (us_X11_needThere (fun c29 => ?_) (fun c29 => zaft_thr (by omega) ⟨Nat.le_of_ble_eq_true rfl, Nat.le_of_ble_eq_true rfl⟩ (by first | exact absurd c29 (by decide) | exact hT (fun z => z.2.elim c7 c21))))
      dsimp only [zaft, Option.toList, List.cons_append, List.nil_append, Nat.add_zero]
      have ca : a = -1 ∨ (0 ≤ a ∧ a < M 2 0) := by first | exact ca | exact absurd rfl c29
      refine zr_aload_n (pc := 32) S dX11_passes_32 rfl ?_
      refine zr_getR (pc := 33) S fX11_passes_50 dX11_passes_33 rfl (Nat.le_of_ble_eq_true rfl) rfl ?_
      refine zr_invV (pc := 36) S [] (m_X6_learn _) kX11_passes_206 dX11_passes_36 rfl (Nat.le_of_ble_eq_true rfl) rfl (Nat.le_of_ble_eq_true rfl) ⟨Nat.le_of_ble_eq_true rfl, Nat.le_of_ble_eq_true rfl⟩ (us_X6_learn hg hs ?_)
      dsimp only [zaft, Option.toList, List.cons_append, List.nil_append, Nat.add_zero]
      refine zr_aload_n (pc := 39) S dX11_passes_39 rfl ?_
      refine zr_getR (pc := 40) S fX11_passes_50 dX11_passes_40 rfl (Nat.le_of_ble_eq_true rfl) rfl ?_
      refine zr_iload_n (pc := 43) S dX11_passes_43 rfl ?_
      refine zr_invV (pc := 44) S [zI _] (m_X6_tell _) kX11_passes_209 dX11_passes_44 rfl (Nat.le_of_ble_eq_true rfl) rfl (Nat.le_of_ble_eq_true rfl) ⟨Nat.le_of_ble_eq_true rfl, Nat.le_of_ble_eq_true rfl⟩ (us_X6_tell (AG.g (lrn_ag M _) hg) (AG.s (lrn_ag M _) hs) c2.1 (by omega) (lrn_ok hg) ?_)
      dsimp only [zaft, Option.toList, List.cons_append, List.nil_append, Nat.add_zero]
      rintro r N ⟨rfl, hN, hT2⟩
      dsimp only [zaft, Option.toList, List.nil_append]
      refine zr_aload_n (pc := 47) S dX11_passes_47 rfl ?_
      refine zr_getR (pc := 48) S fX11_passes_50 dX11_passes_48 rfl (Nat.le_of_ble_eq_true rfl) rfl ?_
      refine zr_getR (pc := 51) S fX11_passes_212 dX11_passes_51 rfl (Nat.le_of_ble_eq_true rfl) rfl ?_
      refine zr_iload_n (pc := 54) S dX11_passes_54 rfl ?_
      refine zr_iconst (pc := 55) S dX11_passes_55 (by unfold zrI; omega) ?_
      refine zr_iadd (pc := 56) S dX11_passes_56 (by unfold zrI; omega) ?_
      refine zr_laload (pc := 57) S dX11_passes_57 rfl (Nat.le_of_ble_eq_true rfl) (by omega) (by omega) ?_
      rw [hT2 _ (by omega), ag_cnt3 (lrn_ag M _)]
      exact zr_lret (pc := 58) S dX11_passes_58 rfl ⟨Nat.le_of_ble_eq_true rfl, Nat.le_of_ble_eq_true rfl⟩ (hQ c2 ca _ (fun k hk => by rw [hN k (by omega) (by omega) (by omega) (by omega), lrnU_o k (by omega)]))
def sp_X11_wrong (as : List zV) (M : zM) (Q : Option zV → zM → Prop) : Prop := ∃ (s : Int), as = [zR 0, zI s] ∧ (ICg M) ∧ (ICs M) ∧ ((0 ≤ s ∧ s < M 2 0) → ∀ M', offX M M' → Q (some (zL (wrong M s))) M') ∧ (¬ (0 ≤ s ∧ s < M 2 0) → Q (some (zR 3000)) M)
theorem us_X11_wrong {s : Int} {M : zM} {Q : Option zV → zM → Prop} (hg : ICg M) (hs : ICs M) (hQ : (0 ≤ s ∧ s < M 2 0) → ∀ M', offX M M' → Q (some (zL (wrong M s))) M') (hT : ¬ (0 ≤ s ∧ s < M 2 0) → Q (some (zR 3000)) M) : sp_X11_wrong [zR 0, zI s] M Q := ⟨s, rfl, hg, hs, hQ, hT⟩
set_option maxRecDepth 20000 in
set_option maxHeartbeats 4000000 in
theorem m_X11_wrong (l : Launch) : zCx l yX11_wrong wzX11_wrong rmX11_wrong 1 sp_X11_wrong := by
  refine zMet.of RX11 (by decide +kernel) rfl rfl ?_
  intro E X as M Qp hX S hsp
  obtain ⟨s, rfl, hg, hs, hQ, hT⟩ := hsp
  refine ⟨Nat.le_of_ble_eq_true rfl, ?_⟩
  dsimp only [zpad, zargs]
  have h8 := hs.1
  refine zr_aload_n (pc := 0) S dX11_wrong_0 rfl ?_
  refine zr_iload_n (pc := 1) S dX11_wrong_1 rfl ?_
  refine zr_invV (pc := 2) S [zI _] (m_X11_needSort _) kX11_wrong_109 dX11_wrong_2 rfl (Nat.le_of_ble_eq_true rfl) rfl (Nat.le_of_ble_eq_true rfl) ⟨Nat.le_of_ble_eq_true rfl, Nat.le_of_ble_eq_true rfl⟩ (us_X11_needSort (fun c2 => ?_) (fun c2 => zaft_thr (by omega) ⟨Nat.le_of_ble_eq_true rfl, Nat.le_of_ble_eq_true rfl⟩ (hT c2)))
  dsimp only [zaft, Option.toList, List.cons_append, List.nil_append, Nat.add_zero]
  refine zr_aload_n (pc := 5) S dX11_wrong_5 rfl ?_
  refine zr_getR (pc := 6) S fX11_wrong_50 dX11_wrong_6 rfl (Nat.le_of_ble_eq_true rfl) rfl ?_
  refine zr_invV (pc := 9) S [] (m_X6_learn _) kX11_wrong_206 dX11_wrong_9 rfl (Nat.le_of_ble_eq_true rfl) rfl (Nat.le_of_ble_eq_true rfl) ⟨Nat.le_of_ble_eq_true rfl, Nat.le_of_ble_eq_true rfl⟩ (us_X6_learn hg hs ?_)
  dsimp only [zaft, Option.toList, List.cons_append, List.nil_append, Nat.add_zero]
  refine zr_aload_n (pc := 12) S dX11_wrong_12 rfl ?_
  refine zr_getR (pc := 13) S fX11_wrong_50 dX11_wrong_13 rfl (Nat.le_of_ble_eq_true rfl) rfl ?_
  refine zr_iload_n (pc := 16) S dX11_wrong_16 rfl ?_
  refine zr_invV (pc := 17) S [zI _] (m_X6_wrongOf _) kX11_wrong_216 dX11_wrong_17 rfl (Nat.le_of_ble_eq_true rfl) rfl (Nat.le_of_ble_eq_true rfl) ⟨Nat.le_of_ble_eq_true rfl, Nat.le_of_ble_eq_true rfl⟩ (us_X6_wrongOf (AG.g (lrn_ag M _) hg) (AG.s (lrn_ag M _) hs) c2.1 (by omega) (lrn_ok hg) ?_)
  dsimp only [zaft, Option.toList, List.cons_append, List.nil_append, Nat.add_zero]
  rintro r N ⟨rfl, hN⟩
  dsimp only [zaft, Option.toList, List.nil_append]
  rw [ag_wrong (lrn_ag M _)]
  exact zr_lret (pc := 20) S dX11_wrong_20 rfl ⟨Nat.le_of_ble_eq_true rfl, Nat.le_of_ble_eq_true rfl⟩ (hQ c2 _ (fun k hk => by rw [hN k (by omega) (by omega) (by omega) (by omega), lrnU_o k (by omega)]))
def sp_X11_loss (as : List zV) (M : zM) (Q : Option zV → zM → Prop) : Prop := ∃ (g d e : Int), as = [zR 0, zI g, zI d, zI e] ∧ (ICg M) ∧ (ICs M) ∧ ((0 ≤ g ∧ g < M 11 0) → (-99 ≤ d ∧ d ≤ 99) → (-99 ≤ e ∧ e ≤ 99) → ∀ M', offX M M' → Q (some (zL (lossM M g.toNat d e))) M') ∧ (¬ (0 ≤ g ∧ g < M 11 0) → Q (some (zR 3000)) M) ∧ ((0 ≤ g ∧ g < M 11 0) → ¬ ((-99 ≤ d ∧ d ≤ 99) ∧ (-99 ≤ e ∧ e ≤ 99)) → Q (some (zR 3001)) M)
theorem us_X11_loss {g d e : Int} {M : zM} {Q : Option zV → zM → Prop} (hg : ICg M) (hs : ICs M) (hQ : (0 ≤ g ∧ g < M 11 0) → (-99 ≤ d ∧ d ≤ 99) → (-99 ≤ e ∧ e ≤ 99) → ∀ M', offX M M' → Q (some (zL (lossM M g.toNat d e))) M') (hT : ¬ (0 ≤ g ∧ g < M 11 0) → Q (some (zR 3000)) M) (hU : (0 ≤ g ∧ g < M 11 0) → ¬ ((-99 ≤ d ∧ d ≤ 99) ∧ (-99 ≤ e ∧ e ≤ 99)) → Q (some (zR 3001)) M) : sp_X11_loss [zR 0, zI g, zI d, zI e] M Q := ⟨g, d, e, rfl, hg, hs, hQ, hT, hU⟩
set_option maxRecDepth 20000 in
set_option maxHeartbeats 4000000 in
theorem m_X11_loss (l : Launch) : zCx l yX11_loss wzX11_loss rmX11_loss 3 sp_X11_loss := by
  refine zMet.of RX11 (by decide +kernel) rfl rfl ?_
  intro E X as M Qp hX S hsp
  obtain ⟨g, d, e, rfl, hg, hs, hQ, hT, hU⟩ := hsp
  refine ⟨Nat.le_of_ble_eq_true rfl, ?_⟩
  dsimp only [zpad, zargs]
  have h8 := hg.1
  refine zr_aload_n (pc := 0) S dX11_loss_0 rfl ?_
  refine zr_iload_n (pc := 1) S dX11_loss_1 rfl ?_
  refine zr_iload_n (pc := 2) S dX11_loss_2 rfl ?_
  refine zr_iload_n (pc := 3) S dX11_loss_3 rfl ?_
  refine zr_invV (pc := 4) S [zI _, zI _, zI _] (m_X11_needMove _) kX11_loss_219 dX11_loss_4 rfl (Nat.le_of_ble_eq_true rfl) rfl (Nat.le_of_ble_eq_true rfl) ⟨Nat.le_of_ble_eq_true rfl, Nat.le_of_ble_eq_true rfl⟩ (us_X11_needMove h8.1 (fun c2 c3 c4 => ?_) (fun c => zaft_thr (by omega) ⟨Nat.le_of_ble_eq_true rfl, Nat.le_of_ble_eq_true rfl⟩ (hT c)) (fun c c' => zaft_thr (by omega) ⟨Nat.le_of_ble_eq_true rfl, Nat.le_of_ble_eq_true rfl⟩ (hU c c')))
  dsimp only [zaft, Option.toList, List.cons_append, List.nil_append, Nat.add_zero]
  obtain ⟨n, rfl⟩ : ∃ n : Nat, g = n := ⟨g.toNat, by omega⟩
  refine zr_aload_n (pc := 7) S dX11_loss_7 rfl ?_
  refine zr_getR (pc := 8) S fX11_loss_50 dX11_loss_8 rfl (Nat.le_of_ble_eq_true rfl) rfl ?_
  refine zr_invV (pc := 11) S [] (m_X6_learn _) kX11_loss_206 dX11_loss_11 rfl (Nat.le_of_ble_eq_true rfl) rfl (Nat.le_of_ble_eq_true rfl) ⟨Nat.le_of_ble_eq_true rfl, Nat.le_of_ble_eq_true rfl⟩ (us_X6_learn hg hs ?_)
  dsimp only [zaft, Option.toList, List.cons_append, List.nil_append, Nat.add_zero]
  refine zr_aload_n (pc := 14) S dX11_loss_14 rfl ?_
  refine zr_getR (pc := 15) S fX11_loss_50 dX11_loss_15 rfl (Nat.le_of_ble_eq_true rfl) rfl ?_
  refine zr_iload_n (pc := 18) S dX11_loss_18 rfl ?_
  refine zr_iload_n (pc := 19) S dX11_loss_19 rfl ?_
  refine zr_iload_n (pc := 20) S dX11_loss_20 rfl ?_
  refine zr_invV (pc := 21) S [zI _, zI _, zI _] (m_X6_lossMoved _) kX11_loss_223 dX11_loss_21 rfl (Nat.le_of_ble_eq_true rfl) rfl (Nat.le_of_ble_eq_true rfl) ⟨Nat.le_of_ble_eq_true rfl, Nat.le_of_ble_eq_true rfl⟩ (us_X6_lossMoved (AG.g (lrn_ag M _) hg) (AG.s (lrn_ag M _) hs) (lrn_ok hg) (by omega) c3 c4 ?_)
  dsimp only [zaft, Option.toList, List.cons_append, List.nil_append, Nat.add_zero]
  rintro r N ⟨rfl, hN⟩
  dsimp only [zaft, Option.toList, List.nil_append]
  rw [ag_lossM (lrn_ag M _)]
  exact zr_lret (pc := 24) S dX11_loss_24 rfl ⟨Nat.le_of_ble_eq_true rfl, Nat.le_of_ble_eq_true rfl⟩ (hQ c2 c3 c4 _ (fun k hk => by rw [hN k (by omega) (by omega) (by omega) (by omega), lrnU_o k (by omega)]))
def sp_X11_best (as : List zV) (M : zM) (Q : Option zV → zM → Prop) : Prop := ∃ (g w : Int), as = [zR 0, zI g, zI w] ∧ (ICg M) ∧ (ICs M) ∧ ((0 ≤ g ∧ g < M 11 0) → (0 ≤ w ∧ w ≤ 2) → ∀ M', offX M M' → Q (some (zL (if w = 0 then (bst (lossM M g.toNat) 81).1 else if w = 1 then (bst (lossM M g.toNat) 81).2.1 else (bst (lossM M g.toNat) 81).2.2))) M') ∧ (¬ (0 ≤ g ∧ g < M 11 0) → Q (some (zR 3000)) M) ∧ ((0 ≤ g ∧ g < M 11 0) → ¬ (0 ≤ w ∧ w ≤ 2) → Q (some (zR 3001)) M)
theorem us_X11_best {g w : Int} {M : zM} {Q : Option zV → zM → Prop} (hg : ICg M) (hs : ICs M) (hQ : (0 ≤ g ∧ g < M 11 0) → (0 ≤ w ∧ w ≤ 2) → ∀ M', offX M M' → Q (some (zL (if w = 0 then (bst (lossM M g.toNat) 81).1 else if w = 1 then (bst (lossM M g.toNat) 81).2.1 else (bst (lossM M g.toNat) 81).2.2))) M') (hT : ¬ (0 ≤ g ∧ g < M 11 0) → Q (some (zR 3000)) M) (hU : (0 ≤ g ∧ g < M 11 0) → ¬ (0 ≤ w ∧ w ≤ 2) → Q (some (zR 3001)) M) : sp_X11_best [zR 0, zI g, zI w] M Q := ⟨g, w, rfl, hg, hs, hQ, hT, hU⟩
set_option maxRecDepth 20000 in
set_option maxHeartbeats 4000000 in
theorem m_X11_best (l : Launch) : zCx l yX11_best wzX11_best rmX11_best 2 sp_X11_best := by
  refine zMet.of RX11 (by decide +kernel) rfl rfl ?_
  intro E X as M Qp hX S hsp
  obtain ⟨g, w, rfl, hg, hs, hQ, hT, hU⟩ := hsp
  refine ⟨Nat.le_of_ble_eq_true rfl, ?_⟩
  dsimp only [zpad, zargs]
  have h8 := hg.1
  by_cases hgg : 0 ≤ g
  · obtain ⟨n, rfl⟩ : ∃ n : Nat, g = n := ⟨g.toNat, by omega⟩
    refine zr_aload_n (pc := 0) S dX11_best_0 rfl ?_
    refine zr_iload_n (pc := 1) S dX11_best_1 rfl ?_
    refine zr_invV (pc := 2) S [zI _] (m_X11_needGate _) kX11_best_188 dX11_best_2 rfl (Nat.le_of_ble_eq_true rfl) rfl (Nat.le_of_ble_eq_true rfl) ⟨Nat.le_of_ble_eq_true rfl, Nat.le_of_ble_eq_true rfl⟩ (us_X11_needGate h8.1 (fun c2 => ?_) (fun c2 => zaft_thr (by omega) ⟨Nat.le_of_ble_eq_true rfl, Nat.le_of_ble_eq_true rfl⟩ (hT c2)))
    dsimp only [zaft, Option.toList, List.cons_append, List.nil_append, Nat.add_zero]
    refine zr_iload_n (pc := 5) S dX11_best_5 rfl ?_
    refine zr_i2l (pc := 6) S dX11_best_6 ?_
    refine zr_lconst0 (pc := 7) S dX11_best_7 ?_
    refine zr_ldc2 (pc := 8) S (2) dX11_best_8 (List.mem_cons_of_mem _ (zWi_7 _ (List.mem_of_getElem? (i := 7) rfl))) (by unfold zrL; omega) ?_
    refine zr_invS (pc := 11) S [zL _, zL _, zL _] (m_X11_within _) kX11_best_93 dX11_best_11 (Nat.le_of_ble_eq_true rfl) ⟨Nat.le_of_ble_eq_true rfl, Nat.le_of_ble_eq_true rfl⟩ (us_X11_within ?_)
    dsimp only [zaft, Option.toList, List.cons_append, List.nil_append, Nat.add_zero]
    refine zr_invS (pc := 14) S [zI _] (m_X11_need _) kX11_best_97 dX11_best_14 (Nat.le_of_ble_eq_true rfl) ⟨Nat.le_of_ble_eq_true rfl, Nat.le_of_ble_eq_true rfl⟩ (us_X11_need (fun c14 => ?_) (fun c14 => zaft_thr (by omega) ⟨Nat.le_of_ble_eq_true rfl, Nat.le_of_ble_eq_true rfl⟩ (hU c2 (b01_0.mp c14))))
    dsimp only [zaft, Option.toList, List.cons_append, List.nil_append, Nat.add_zero]
    rw [b01_0, Classical.not_not] at c14
    refine zr_aload_n (pc := 17) S dX11_best_17 rfl ?_
    refine zr_getR (pc := 18) S fX11_best_50 dX11_best_18 rfl (Nat.le_of_ble_eq_true rfl) rfl ?_
    refine zr_iload_n (pc := 21) S dX11_best_21 rfl ?_
    refine zr_invV (pc := 22) S [zI _] (m_X6_findBest _) kX11_best_227 dX11_best_22 rfl (Nat.le_of_ble_eq_true rfl) rfl (Nat.le_of_ble_eq_true rfl) ⟨Nat.le_of_ble_eq_true rfl, Nat.le_of_ble_eq_true rfl⟩ (us_X6_findBest hg hs (by omega) ?_)
    dsimp only [zaft, Option.toList, List.cons_append, List.nil_append, Nat.add_zero]
    rintro r N ⟨rfl, hN⟩
    dsimp only [zaft, Option.toList, List.nil_append]
    have oN : offX M N := fun k hk => hN.1 k (by omega) (by omega) (by omega) (by omega) (by omega) (by omega)
    refine zr_iload_n (pc := 25) S dX11_best_25 rfl ?_
    refine zr_if_ne (pc := 26) (tgt := 38) S dX11_best_26 (by decide) (fun c26 => ?_) (fun c26 => ?_)
    · refine zr_iload_n (pc := 38) S dX11_best_38 rfl ?_
      refine zr_iconst (pc := 39) S dX11_best_39 (by unfold zrI; omega) ?_
      refine zr_icmp_ne (pc := 40) (tgt := 54) S dX11_best_40 (by decide) (fun c40 => ?_) (fun c40 => ?_)
      · refine zr_aload_n (pc := 54) S dX11_best_54 rfl ?_
        refine zr_getR (pc := 55) S fX11_best_50 dX11_best_55 rfl (Nat.le_of_ble_eq_true rfl) rfl ?_
        refine zr_getL (pc := 58) S fX11_best_236 dX11_best_58 rfl (Nat.le_of_ble_eq_true rfl) rfl ?_
        rw [hN.2.2.2.2]
        exact zr_lret (pc := 61) S dX11_best_61 rfl ⟨Nat.le_of_ble_eq_true rfl, Nat.le_of_ble_eq_true rfl⟩ (zql (hQ c2 c14 _ oN) (by first | rw [if_pos c26]; rfl | rw [if_neg c26, if_pos c40]; rfl | rw [if_neg c26, if_neg c40]; rfl))
      · refine zr_aload_n (pc := 43) S dX11_best_43 rfl ?_
        refine zr_getR (pc := 44) S fX11_best_50 dX11_best_44 rfl (Nat.le_of_ble_eq_true rfl) rfl ?_
        refine zr_getI (pc := 47) S fX11_best_233 dX11_best_47 rfl (Nat.le_of_ble_eq_true rfl) rfl ?_
        rw [hN.2.2.2.1]
        refine zr_i2l (pc := 50) S dX11_best_50 ?_
        refine zr_goto (pc := 51) (tgt := 61) S dX11_best_51 (by decide) ?_
        exact zr_lret (pc := 61) S dX11_best_61 rfl ⟨Nat.le_of_ble_eq_true rfl, Nat.le_of_ble_eq_true rfl⟩ (zql (hQ c2 c14 _ oN) (by first | rw [if_pos c26]; rfl | rw [if_neg c26, if_pos c40]; rfl | rw [if_neg c26, if_neg c40]; rfl))
    · refine zr_aload_n (pc := 29) S dX11_best_29 rfl ?_
      refine zr_getR (pc := 30) S fX11_best_50 dX11_best_30 rfl (Nat.le_of_ble_eq_true rfl) rfl ?_
      refine zr_getI (pc := 33) S fX11_best_230 dX11_best_33 rfl (Nat.le_of_ble_eq_true rfl) rfl ?_
      rw [hN.2.2.1]
      refine zr_i2l (pc := 36) S dX11_best_36 ?_
      exact zr_lret (pc := 37) S dX11_best_37 rfl ⟨Nat.le_of_ble_eq_true rfl, Nat.le_of_ble_eq_true rfl⟩ (zql (hQ c2 c14 _ oN) (by first | rw [if_pos c26]; rfl | rw [if_neg c26, if_pos c40]; rfl | rw [if_neg c26, if_neg c40]; rfl))
  · refine zr_aload_n (pc := 0) S dX11_best_0 rfl ?_
    refine zr_iload_n (pc := 1) S dX11_best_1 rfl ?_
    exact zr_invV (pc := 2) S [zI _] (m_X11_needGate _) kX11_best_188 dX11_best_2 rfl (Nat.le_of_ble_eq_true rfl) rfl (Nat.le_of_ble_eq_true rfl) ⟨Nat.le_of_ble_eq_true rfl, Nat.le_of_ble_eq_true rfl⟩ (us_X11_needGate h8.1 (fun c2 => absurd c2.1 hgg) (fun c2 => zaft_thr (by omega) ⟨Nat.le_of_ble_eq_true rfl, Nat.le_of_ble_eq_true rfl⟩ (hT c2)))
def sp_X11_move (as : List zV) (M : zM) (Q : Option zV → zM → Prop) : Prop := ∃ (g d e : Int), as = [zR 0, zI g, zI d, zI e] ∧ (ICg M) ∧ ((0 ≤ g ∧ g < M 11 0) → (-99 ≤ d ∧ d ≤ 99) → (-99 ≤ e ∧ e ≤ 99) → kept (M 13 g.toNat + d) ≤ kept (M 14 g.toNat + e) → Q (some (zI 1)) (zup (zup M 13 g.toNat (kept (M 13 g.toNat + d))) 14 g.toNat (kept (M 14 g.toNat + e)))) ∧ ((0 ≤ g ∧ g < M 11 0) → (-99 ≤ d ∧ d ≤ 99) → (-99 ≤ e ∧ e ≤ 99) → ¬ kept (M 13 g.toNat + d) ≤ kept (M 14 g.toNat + e) → Q (some (zI 0)) M) ∧ (¬ (0 ≤ g ∧ g < M 11 0) → Q (some (zR 3000)) M) ∧ ((0 ≤ g ∧ g < M 11 0) → ¬ ((-99 ≤ d ∧ d ≤ 99) ∧ (-99 ≤ e ∧ e ≤ 99)) → Q (some (zR 3001)) M)
theorem us_X11_move {g d e : Int} {M : zM} {Q : Option zV → zM → Prop} (hg : ICg M) (hQ : (0 ≤ g ∧ g < M 11 0) → (-99 ≤ d ∧ d ≤ 99) → (-99 ≤ e ∧ e ≤ 99) → kept (M 13 g.toNat + d) ≤ kept (M 14 g.toNat + e) → Q (some (zI 1)) (zup (zup M 13 g.toNat (kept (M 13 g.toNat + d))) 14 g.toNat (kept (M 14 g.toNat + e)))) (hF : (0 ≤ g ∧ g < M 11 0) → (-99 ≤ d ∧ d ≤ 99) → (-99 ≤ e ∧ e ≤ 99) → ¬ kept (M 13 g.toNat + d) ≤ kept (M 14 g.toNat + e) → Q (some (zI 0)) M) (hT : ¬ (0 ≤ g ∧ g < M 11 0) → Q (some (zR 3000)) M) (hU : (0 ≤ g ∧ g < M 11 0) → ¬ ((-99 ≤ d ∧ d ≤ 99) ∧ (-99 ≤ e ∧ e ≤ 99)) → Q (some (zR 3001)) M) : sp_X11_move [zR 0, zI g, zI d, zI e] M Q := ⟨g, d, e, rfl, hg, hQ, hF, hT, hU⟩
set_option maxRecDepth 20000 in
set_option maxHeartbeats 4000000 in
theorem m_X11_move (l : Launch) : zCx l yX11_move wzX11_move rmX11_move 3 sp_X11_move := by
  refine zMet.of RX11 (by decide +kernel) rfl rfl ?_
  intro E X as M Qp hX S hsp
  obtain ⟨g, d, e, rfl, hg, hQ, hF, hT, hU⟩ := hsp
  refine ⟨Nat.le_of_ble_eq_true rfl, ?_⟩
  dsimp only [zpad, zargs]
  have h8 := hg.1
  refine zr_aload_n (pc := 0) S dX11_move_0 rfl ?_
  refine zr_iload_n (pc := 1) S dX11_move_1 rfl ?_
  refine zr_iload_n (pc := 2) S dX11_move_2 rfl ?_
  refine zr_iload_n (pc := 3) S dX11_move_3 rfl ?_
  refine zr_invV (pc := 4) S [zI _, zI _, zI _] (m_X11_needMove _) kX11_move_219 dX11_move_4 rfl (Nat.le_of_ble_eq_true rfl) rfl (Nat.le_of_ble_eq_true rfl) ⟨Nat.le_of_ble_eq_true rfl, Nat.le_of_ble_eq_true rfl⟩ (us_X11_needMove h8.1 (fun c2 c3 c4 => ?_) (fun c => zaft_thr (by omega) ⟨Nat.le_of_ble_eq_true rfl, Nat.le_of_ble_eq_true rfl⟩ (hT c)) (fun c c' => zaft_thr (by omega) ⟨Nat.le_of_ble_eq_true rfl, Nat.le_of_ble_eq_true rfl⟩ (hU c c')))
  dsimp only [zaft, Option.toList, List.cons_append, List.nil_append, Nat.add_zero]
  have gv := hg.v c2.1 (by omega)
  refine zr_aload_n (pc := 7) S dX11_move_7 rfl ?_
  refine zr_getR (pc := 8) S fX11_move_10 dX11_move_8 rfl (Nat.le_of_ble_eq_true rfl) rfl ?_
  refine zr_getR (pc := 11) S fX11_move_43 dX11_move_11 rfl (Nat.le_of_ble_eq_true rfl) rfl ?_
  refine zr_getR (pc := 14) S fX11_move_194 dX11_move_14 rfl (Nat.le_of_ble_eq_true rfl) rfl ?_
  refine zr_iload_n (pc := 17) S dX11_move_17 rfl ?_
  refine zr_iaload (pc := 18) S dX11_move_18 rfl (Nat.le_of_ble_eq_true rfl) (by omega) (by omega) ?_
  refine zr_iload_n (pc := 19) S dX11_move_19 rfl ?_
  refine zr_iadd (pc := 20) S dX11_move_20 (by unfold zrI; omega) ?_
  refine zr_invS (pc := 21) S [zI _] (m_X2_kept _) kX11_move_240 dX11_move_21 (Nat.le_of_ble_eq_true rfl) ⟨Nat.le_of_ble_eq_true rfl, Nat.le_of_ble_eq_true rfl⟩ (us_X2_kept (by unfold zrI; omega) ?_)
  dsimp only [zaft, Option.toList, List.cons_append, List.nil_append, Nat.add_zero]
  refine zr_istore (pc := 24) S dX11_move_24 (by decide) ?_
  dsimp only [zst1, zst2, zset, zget, zlong]
  refine zr_aload_n (pc := 26) S dX11_move_26 rfl ?_
  refine zr_getR (pc := 27) S fX11_move_10 dX11_move_27 rfl (Nat.le_of_ble_eq_true rfl) rfl ?_
  refine zr_getR (pc := 30) S fX11_move_43 dX11_move_30 rfl (Nat.le_of_ble_eq_true rfl) rfl ?_
  refine zr_getR (pc := 33) S fX11_move_195 dX11_move_33 rfl (Nat.le_of_ble_eq_true rfl) rfl ?_
  refine zr_iload_n (pc := 36) S dX11_move_36 rfl ?_
  refine zr_iaload (pc := 37) S dX11_move_37 rfl (Nat.le_of_ble_eq_true rfl) (by omega) (by omega) ?_
  refine zr_iload_n (pc := 38) S dX11_move_38 rfl ?_
  refine zr_iadd (pc := 39) S dX11_move_39 (by unfold zrI; omega) ?_
  refine zr_invS (pc := 40) S [zI _] (m_X2_kept _) kX11_move_240 dX11_move_40 (Nat.le_of_ble_eq_true rfl) ⟨Nat.le_of_ble_eq_true rfl, Nat.le_of_ble_eq_true rfl⟩ (us_X2_kept (by unfold zrI; omega) ?_)
  dsimp only [zaft, Option.toList, List.cons_append, List.nil_append, Nat.add_zero]
  refine zr_istore (pc := 43) S dX11_move_43 (by decide) ?_
  dsimp only [zst1, zst2, zset, zget, zlong]
  refine zr_iload (pc := 45) S dX11_move_45 rfl ?_
  refine zr_iload (pc := 47) S dX11_move_47 rfl ?_
  refine zr_icmp_le (pc := 49) (tgt := 54) S dX11_move_49 (by decide) (fun c49 => ?_) (fun c49 => ?_)
  · have f := hQ c2 c3 c4 c49
    refine zr_aload_n (pc := 54) S dX11_move_54 rfl ?_
    refine zr_getR (pc := 55) S fX11_move_10 dX11_move_55 rfl (Nat.le_of_ble_eq_true rfl) rfl ?_
    refine zr_getR (pc := 58) S fX11_move_43 dX11_move_58 rfl (Nat.le_of_ble_eq_true rfl) rfl ?_
    refine zr_getR (pc := 61) S fX11_move_194 dX11_move_61 rfl (Nat.le_of_ble_eq_true rfl) rfl ?_
    refine zr_iload_n (pc := 64) S dX11_move_64 rfl ?_
    refine zr_iload (pc := 65) S dX11_move_65 rfl ?_
    refine zr_iastore (pc := 67) S dX11_move_67 rfl (Nat.le_of_ble_eq_true rfl) (by omega) (by omega) ?_
    refine zr_aload_n (pc := 68) S dX11_move_68 rfl ?_
    refine zr_getR (pc := 69) S fX11_move_10 dX11_move_69 rfl (Nat.le_of_ble_eq_true rfl) rfl ?_
    try simp only [zup_k, zup_e, ne_eq, Nat.reduceEqDiff, not_false_eq_true, zup_j]
    refine zr_getR (pc := 72) S fX11_move_43 dX11_move_72 rfl (Nat.le_of_ble_eq_true rfl) rfl ?_
    try simp only [zup_k, zup_e, ne_eq, Nat.reduceEqDiff, not_false_eq_true, zup_j]
    refine zr_getR (pc := 75) S fX11_move_195 dX11_move_75 rfl (Nat.le_of_ble_eq_true rfl) rfl ?_
    try simp only [zup_k, zup_e, ne_eq, Nat.reduceEqDiff, not_false_eq_true, zup_j]
    refine zr_iload_n (pc := 78) S dX11_move_78 rfl ?_
    refine zr_iload (pc := 79) S dX11_move_79 rfl ?_
    refine zr_iastore (pc := 81) S dX11_move_81 rfl (Nat.le_of_ble_eq_true rfl) (by omega) (by omega) ?_
    refine zr_iconst (pc := 82) S dX11_move_82 (by unfold zrI; omega) ?_
    exact zr_zret (pc := 83) S dX11_move_83 rfl (by first | omega | exact b01_r) ⟨Nat.le_of_ble_eq_true rfl, Nat.le_of_ble_eq_true rfl⟩ (f)
  · have f := hF c2 c3 c4 (by omega)
    refine zr_iconst (pc := 52) S dX11_move_52 (by unfold zrI; omega) ?_
    exact zr_zret (pc := 53) S dX11_move_53 rfl (by first | omega | exact b01_r) ⟨Nat.le_of_ble_eq_true rfl, Nat.le_of_ble_eq_true rfl⟩ (f)
/-- what a coin brings, by the way it is put in -/
def putT (w : Int) : Int := if w = 1 then 2 else 1
def sp_X11_put (as : List zV) (M : zM) (Q : Option zV → zM → Prop) : Prop := ∃ (B s w b r y : Int), as = [zR 0, zI s, zI w, zI b, zI r, zI y] ∧ (ICg M) ∧ (ICs M) ∧ (ICt B M) ∧ (B ≤ 999000) ∧ ((0 ≤ s ∧ s < M 2 0) → isCoin M s w b r → y = 3 → Q (some (zI s)) (zup M 20 s.toNat (M 20 s.toNat + 1))) ∧ ((0 ≤ s ∧ s < M 2 0) → isCoin M s w b r → (0 ≤ y ∧ y < 3) → (takes M w b r = -1 ∨ 12 ≤ M 17 6) → Q (some (zI (-1))) M) ∧ ((0 ≤ s ∧ s < M 2 0) → isCoin M s w b r → (0 ≤ y ∧ y < 3) → ¬ takes M w b r = -1 → M 17 6 < 12 → Q (some (zI (takes M w b r))) (slideIn M (if y = 2 then -1 else s) (takes M w b r) (putT y) (putT y * M 4 (takes M w b r).toNat))) ∧ (¬ (0 ≤ s ∧ s < M 2 0) → Q (some (zR 3000)) M) ∧ ((0 ≤ s ∧ s < M 2 0) → ¬ (isCoin M s w b r ∧ (0 ≤ y ∧ y ≤ 3)) → Q (some (zR 3001)) M)
theorem us_X11_put {B s w b r y : Int} {M : zM} {Q : Option zV → zM → Prop} (hg : ICg M) (hs : ICs M) (ht : ICt B M) (hB : B ≤ 999000) (hS : (0 ≤ s ∧ s < M 2 0) → isCoin M s w b r → y = 3 → Q (some (zI s)) (zup M 20 s.toNat (M 20 s.toNat + 1))) (hF : (0 ≤ s ∧ s < M 2 0) → isCoin M s w b r → (0 ≤ y ∧ y < 3) → (takes M w b r = -1 ∨ 12 ≤ M 17 6) → Q (some (zI (-1))) M) (hQ : (0 ≤ s ∧ s < M 2 0) → isCoin M s w b r → (0 ≤ y ∧ y < 3) → ¬ takes M w b r = -1 → M 17 6 < 12 → Q (some (zI (takes M w b r))) (slideIn M (if y = 2 then -1 else s) (takes M w b r) (putT y) (putT y * M 4 (takes M w b r).toNat))) (hT : ¬ (0 ≤ s ∧ s < M 2 0) → Q (some (zR 3000)) M) (hU : (0 ≤ s ∧ s < M 2 0) → ¬ (isCoin M s w b r ∧ (0 ≤ y ∧ y ≤ 3)) → Q (some (zR 3001)) M) : sp_X11_put [zR 0, zI s, zI w, zI b, zI r, zI y] M Q := ⟨B, s, w, b, r, y, rfl, hg, hs, ht, hB, hS, hF, hQ, hT, hU⟩
set_option maxRecDepth 20000 in
set_option maxHeartbeats 4000000 in
theorem m_X11_put (l : Launch) : zCx l yX11_put wzX11_put rmX11_put 3 sp_X11_put := by
  refine zMet.of RX11 (by decide +kernel) rfl rfl ?_
  intro E X as M Qp hX S hsp
  obtain ⟨B, s, w, b, r, y, rfl, hg, hs, ht, hB, hS, hF, hQ, hT, hU⟩ := hsp
  refine ⟨Nat.le_of_ble_eq_true rfl, ?_⟩
  dsimp only [zpad, zargs]
  have h8 := hs.1
  have tk := takes_r hg w b r
  have key : ¬ takes M w b r = -1 → M 17 6 < 12 → (0 ≤ s ∧ s < M 2 0) → ∀ v p : Int, (v = -1 ∨ v = s) → (p = 1 ∨ p = 2) → Qp (some (zI (takes M w b r))) (slideIn M v (takes M w b r) p (p * M 4 (takes M w b r).toNat)) → zK (zg E) rmX11_put 8 (Qp, 3, 6 * 3) X (0 + 1 + 1 + 1, 0 + 6 * 1 + 6 * 1 + 6 * 1) 127 [some (zR 0), some (zI s), some (zI w), some (zI b), some (zI r), some (zI y), some (zI (takes M w b r)), some (zI p)] [zI v, zR 17] M := by
    intro h1 h2 hh v p hv hp f
    have vv := hs.v (k := takes M w b r) (by omega) (by omega)
    have pr : -2147483648 ≤ p * M 4 (takes M w b r).toNat ∧ p * M 4 (takes M w b r).toNat < 2147483648 := by
      rcases hp with rfl | rfl <;> omega
    refine zr_iload (pc := 127) S dX11_put_127 rfl ?_
    refine zr_iload (pc := 129) S dX11_put_129 rfl ?_
    refine zr_iload (pc := 131) S dX11_put_131 rfl ?_
    refine zr_aload_n (pc := 133) S dX11_put_133 rfl ?_
    refine zr_getR (pc := 134) S fX11_put_10 dX11_put_134 rfl (Nat.le_of_ble_eq_true rfl) rfl ?_
    refine zr_getR (pc := 137) S fX11_put_39 dX11_put_137 rfl (Nat.le_of_ble_eq_true rfl) rfl ?_
    refine zr_getR (pc := 140) S fX11_put_281 dX11_put_140 rfl (Nat.le_of_ble_eq_true rfl) rfl ?_
    refine zr_iload (pc := 143) S dX11_put_143 rfl ?_
    refine zr_iaload (pc := 145) S dX11_put_145 rfl (Nat.le_of_ble_eq_true rfl) (by omega) (by omega) ?_
    refine zr_imul (pc := 146) S dX11_put_146 (by unfold zrI; exact pr) ?_
    refine zr_invV (pc := 147) S [zI _, zI _, zI _, zI _] (m_X9_slideIn _) kX11_put_284 dX11_put_147 rfl (Nat.le_of_ble_eq_true rfl) rfl (Nat.le_of_ble_eq_true rfl) ⟨Nat.le_of_ble_eq_true rfl, Nat.le_of_ble_eq_true rfl⟩ (us_X9_slideIn ht (by omega) (by omega) (by omega) (by omega) (by omega) h2 ?_)
    dsimp only [zaft, Option.toList, List.cons_append, List.nil_append, Nat.add_zero]
    refine zr_iload (pc := 150) S dX11_put_150 rfl ?_
    exact zr_iret (pc := 152) S dX11_put_152 rfl ⟨Nat.le_of_ble_eq_true rfl, Nat.le_of_ble_eq_true rfl⟩ (f)
  refine zr_aload_n (pc := 0) S dX11_put_0 rfl ?_
  refine zr_iload_n (pc := 1) S dX11_put_1 rfl ?_
  refine zr_invV (pc := 2) S [zI _] (m_X11_needSort _) kX11_put_109 dX11_put_2 rfl (Nat.le_of_ble_eq_true rfl) rfl (Nat.le_of_ble_eq_true rfl) ⟨Nat.le_of_ble_eq_true rfl, Nat.le_of_ble_eq_true rfl⟩ (us_X11_needSort (fun c2 => ?_) (fun c2 => zaft_thr (by omega) ⟨Nat.le_of_ble_eq_true rfl, Nat.le_of_ble_eq_true rfl⟩ (hT c2)))
  dsimp only [zaft, Option.toList, List.cons_append, List.nil_append, Nat.add_zero]
  refine zr_aload_n (pc := 5) S dX11_put_5 rfl ?_
  refine zr_getR (pc := 6) S fX11_put_10 dX11_put_6 rfl (Nat.le_of_ble_eq_true rfl) rfl ?_
  refine zr_getR (pc := 9) S fX11_put_39 dX11_put_9 rfl (Nat.le_of_ble_eq_true rfl) rfl ?_
  refine zr_iload_n (pc := 12) S dX11_put_12 rfl ?_
  refine zr_iload_n (pc := 13) S dX11_put_13 rfl ?_
  refine zr_iload_n (pc := 14) S dX11_put_14 rfl ?_
  refine zr_iload (pc := 15) S dX11_put_15 rfl ?_
  refine zr_invV (pc := 17) S [zI _, zI _, zI _, zI _] (m_X7_isCoin _) kX11_put_271 dX11_put_17 rfl (Nat.le_of_ble_eq_true rfl) rfl (Nat.le_of_ble_eq_true rfl) ⟨Nat.le_of_ble_eq_true rfl, Nat.le_of_ble_eq_true rfl⟩ (us_X7_isCoin hs c2.1 (by omega) ?_)
  dsimp only [zaft, Option.toList, List.cons_append, List.nil_append, Nat.add_zero]
  refine zr_invS (pc := 20) S [zI _] (m_X11_need _) kX11_put_97 dX11_put_20 (Nat.le_of_ble_eq_true rfl) ⟨Nat.le_of_ble_eq_true rfl, Nat.le_of_ble_eq_true rfl⟩ (us_X11_need (fun c20 => ?_) (fun c20 => zaft_thr (by omega) ⟨Nat.le_of_ble_eq_true rfl, Nat.le_of_ble_eq_true rfl⟩ (hU c2 (fun z => b01_0.mp c20 z.1))))
  dsimp only [zaft, Option.toList, List.cons_append, List.nil_append, Nat.add_zero]
  rw [b01_0, Classical.not_not] at c20
  refine zr_iload (pc := 23) S dX11_put_23 rfl ?_
  refine zr_i2l (pc := 25) S dX11_put_25 ?_
  refine zr_lconst0 (pc := 26) S dX11_put_26 ?_
  refine zr_ldc2 (pc := 27) S (3) dX11_put_27 (List.mem_cons_of_mem _ (zWi_7 _ (List.mem_of_getElem? (i := 11) rfl))) (by unfold zrL; omega) ?_
  refine zr_invS (pc := 30) S [zL _, zL _, zL _] (m_X11_within _) kX11_put_93 dX11_put_30 (Nat.le_of_ble_eq_true rfl) ⟨Nat.le_of_ble_eq_true rfl, Nat.le_of_ble_eq_true rfl⟩ (us_X11_within ?_)
  dsimp only [zaft, Option.toList, List.cons_append, List.nil_append, Nat.add_zero]
  refine zr_invS (pc := 33) S [zI _] (m_X11_need _) kX11_put_97 dX11_put_33 (Nat.le_of_ble_eq_true rfl) ⟨Nat.le_of_ble_eq_true rfl, Nat.le_of_ble_eq_true rfl⟩ (us_X11_need (fun c33 => ?_) (fun c33 => zaft_thr (by omega) ⟨Nat.le_of_ble_eq_true rfl, Nat.le_of_ble_eq_true rfl⟩ (hU c2 (fun z => b01_0.mp c33 z.2))))
  dsimp only [zaft, Option.toList, List.cons_append, List.nil_append, Nat.add_zero]
  rw [b01_0, Classical.not_not] at c33
  refine zr_iload (pc := 36) S dX11_put_36 rfl ?_
  refine zr_iconst (pc := 38) S dX11_put_38 (by unfold zrI; omega) ?_
  refine zr_icmp_ne (pc := 39) (tgt := 60) S dX11_put_39 (by decide) (fun c39 => ?_) (fun c39 => ?_)
  · refine zr_aload_n (pc := 60) S dX11_put_60 rfl ?_
    refine zr_getR (pc := 61) S fX11_put_50 dX11_put_61 rfl (Nat.le_of_ble_eq_true rfl) rfl ?_
    refine zr_iload_n (pc := 64) S dX11_put_64 rfl ?_
    refine zr_iload_n (pc := 65) S dX11_put_65 rfl ?_
    refine zr_iload (pc := 66) S dX11_put_66 rfl ?_
    refine zr_invV (pc := 68) S [zI _, zI _, zI _] (m_X6_takes _) kX11_put_196 dX11_put_68 rfl (Nat.le_of_ble_eq_true rfl) rfl (Nat.le_of_ble_eq_true rfl) ⟨Nat.le_of_ble_eq_true rfl, Nat.le_of_ble_eq_true rfl⟩ (us_X6_takes hg hs ?_)
    dsimp only [zaft, Option.toList, List.cons_append, List.nil_append, Nat.add_zero]
    refine zr_istore (pc := 71) S dX11_put_71 (by decide) ?_
    dsimp only [zst1, zst2, zset, zget, zlong]
    refine zr_iload (pc := 73) S dX11_put_73 rfl ?_
    refine zr_iconst (pc := 75) S dX11_put_75 (by unfold zrI; omega) ?_
    refine zr_icmp_eq (pc := 76) (tgt := 94) S dX11_put_76 (by decide) (fun c76 => ?_) (fun c76 => ?_)
    · have f := hF c2 c20 (by omega) (Or.inl c76)
      refine zr_iconst (pc := 94) S dX11_put_94 (by unfold zrI; omega) ?_
      exact zr_iret (pc := 95) S dX11_put_95 rfl ⟨Nat.le_of_ble_eq_true rfl, Nat.le_of_ble_eq_true rfl⟩ (f)
    · refine zr_aload_n (pc := 79) S dX11_put_79 rfl ?_
      refine zr_getR (pc := 80) S fX11_put_10 dX11_put_80 rfl (Nat.le_of_ble_eq_true rfl) rfl ?_
      refine zr_getR (pc := 83) S fX11_put_255 dX11_put_83 rfl (Nat.le_of_ble_eq_true rfl) rfl ?_
      refine zr_getI (pc := 86) S fX11_put_278 dX11_put_86 rfl (Nat.le_of_ble_eq_true rfl) rfl ?_
      refine zr_bipush (pc := 89) S dX11_put_89 ⟨by unfold zrI; omega, by decide⟩ ?_
      refine zr_icmp_lt (pc := 91) (tgt := 96) S dX11_put_91 (by decide) (fun c91 => ?_) (fun c91 => ?_)
      · have f := hQ c2 c20 (by omega) c76 c91
        refine zr_iload (pc := 96) S dX11_put_96 rfl ?_
        refine zr_iconst (pc := 98) S dX11_put_98 (by unfold zrI; omega) ?_
        refine zr_icmp_ne (pc := 99) (tgt := 106) S dX11_put_99 (by decide) (fun c99 => ?_) (fun c99 => ?_)
        · refine zr_iconst (pc := 106) S dX11_put_106 (by unfold zrI; omega) ?_
          refine zr_istore (pc := 107) S dX11_put_107 (by decide) ?_
          dsimp only [zst1, zst2, zset, zget, zlong]
          refine zr_aload_n (pc := 109) S dX11_put_109 rfl ?_
          refine zr_getR (pc := 110) S fX11_put_10 dX11_put_110 rfl (Nat.le_of_ble_eq_true rfl) rfl ?_
          refine zr_getR (pc := 113) S fX11_put_255 dX11_put_113 rfl (Nat.le_of_ble_eq_true rfl) rfl ?_
          refine zr_iload (pc := 116) S dX11_put_116 rfl ?_
          refine zr_iconst (pc := 118) S dX11_put_118 (by unfold zrI; omega) ?_
          refine zr_icmp_ne (pc := 119) (tgt := 126) S dX11_put_119 (by decide) (fun c119 => ?_) (fun c119 => ?_)
          · refine zr_iload_n (pc := 126) S dX11_put_126 rfl ?_
            first | exact key c76 c91 c2 _ _ (Or.inl rfl) (by omega) (by first | (unfold putT at f; rw [if_pos c99, if_pos c119] at f; exact f) | (unfold putT at f; rw [if_neg c99, if_pos c119] at f; exact f)) | exact key c76 c91 c2 _ _ (Or.inr rfl) (by omega) (by first | (unfold putT at f; rw [if_pos c99, if_neg c119] at f; exact f) | (unfold putT at f; rw [if_neg c99, if_neg c119] at f; exact f))
          · refine zr_iconst (pc := 122) S dX11_put_122 (by unfold zrI; omega) ?_
            refine zr_goto (pc := 123) (tgt := 127) S dX11_put_123 (by decide) ?_
            first | exact key c76 c91 c2 _ _ (Or.inl rfl) (by omega) (by first | (unfold putT at f; rw [if_pos c99, if_pos c119] at f; exact f) | (unfold putT at f; rw [if_neg c99, if_pos c119] at f; exact f)) | exact key c76 c91 c2 _ _ (Or.inr rfl) (by omega) (by first | (unfold putT at f; rw [if_pos c99, if_neg c119] at f; exact f) | (unfold putT at f; rw [if_neg c99, if_neg c119] at f; exact f))
        · refine zr_iconst (pc := 102) S dX11_put_102 (by unfold zrI; omega) ?_
          refine zr_goto (pc := 103) (tgt := 107) S dX11_put_103 (by decide) ?_
          refine zr_istore (pc := 107) S dX11_put_107 (by decide) ?_
          dsimp only [zst1, zst2, zset, zget, zlong]
          refine zr_aload_n (pc := 109) S dX11_put_109 rfl ?_
          refine zr_getR (pc := 110) S fX11_put_10 dX11_put_110 rfl (Nat.le_of_ble_eq_true rfl) rfl ?_
          refine zr_getR (pc := 113) S fX11_put_255 dX11_put_113 rfl (Nat.le_of_ble_eq_true rfl) rfl ?_
          refine zr_iload (pc := 116) S dX11_put_116 rfl ?_
          refine zr_iconst (pc := 118) S dX11_put_118 (by unfold zrI; omega) ?_
          refine zr_icmp_ne (pc := 119) (tgt := 126) S dX11_put_119 (by decide) (fun c119 => ?_) (fun c119 => ?_)
          · refine zr_iload_n (pc := 126) S dX11_put_126 rfl ?_
            first | exact key c76 c91 c2 _ _ (Or.inl rfl) (by omega) (by first | (unfold putT at f; rw [if_pos c99, if_pos c119] at f; exact f) | (unfold putT at f; rw [if_neg c99, if_pos c119] at f; exact f)) | exact key c76 c91 c2 _ _ (Or.inr rfl) (by omega) (by first | (unfold putT at f; rw [if_pos c99, if_neg c119] at f; exact f) | (unfold putT at f; rw [if_neg c99, if_neg c119] at f; exact f))
          · refine zr_iconst (pc := 122) S dX11_put_122 (by unfold zrI; omega) ?_
            refine zr_goto (pc := 123) (tgt := 127) S dX11_put_123 (by decide) ?_
            first | exact key c76 c91 c2 _ _ (Or.inl rfl) (by omega) (by first | (unfold putT at f; rw [if_pos c99, if_pos c119] at f; exact f) | (unfold putT at f; rw [if_neg c99, if_pos c119] at f; exact f)) | exact key c76 c91 c2 _ _ (Or.inr rfl) (by omega) (by first | (unfold putT at f; rw [if_pos c99, if_neg c119] at f; exact f) | (unfold putT at f; rw [if_neg c99, if_neg c119] at f; exact f))
      · have f := hF c2 c20 (by omega) (Or.inr c91)
        refine zr_iconst (pc := 94) S dX11_put_94 (by unfold zrI; omega) ?_
        exact zr_iret (pc := 95) S dX11_put_95 rfl ⟨Nat.le_of_ble_eq_true rfl, Nat.le_of_ble_eq_true rfl⟩ (f)
  · have f := hS c2 c20 c39
    have bb := ht.b c2.1 (by omega)
    refine zr_aload_n (pc := 42) S dX11_put_42 rfl ?_
    refine zr_getR (pc := 43) S fX11_put_10 dX11_put_43 rfl (Nat.le_of_ble_eq_true rfl) rfl ?_
    refine zr_getR (pc := 46) S fX11_put_255 dX11_put_46 rfl (Nat.le_of_ble_eq_true rfl) rfl ?_
    refine zr_getR (pc := 49) S fX11_put_275 dX11_put_49 rfl (Nat.le_of_ble_eq_true rfl) rfl ?_
    refine zr_iload_n (pc := 52) S dX11_put_52 rfl ?_
    refine zr_dup2 (pc := 53) S dX11_put_53 rfl rfl ?_
    refine zr_iaload (pc := 54) S dX11_put_54 rfl (Nat.le_of_ble_eq_true rfl) (by omega) (by omega) ?_
    refine zr_iconst (pc := 55) S dX11_put_55 (by unfold zrI; omega) ?_
    refine zr_iadd (pc := 56) S dX11_put_56 (by unfold zrI; omega) ?_
    refine zr_iastore (pc := 57) S dX11_put_57 rfl (Nat.le_of_ble_eq_true rfl) (by omega) (by omega) ?_
    refine zr_iload_n (pc := 58) S dX11_put_58 rfl ?_
    exact zr_iret (pc := 59) S dX11_put_59 rfl ⟨Nat.le_of_ble_eq_true rfl, Nat.le_of_ble_eq_true rfl⟩ (f)
end
