section
theorem mo_X11_sort {as : List zV} {M : zM} {Q Q' : Option zV → zM → Prop} (hv : ∀ (v : Int) N, Q (some (zI v)) N → Q' (some (zI v)) N) (hx : ∀ (k : Nat) N, 3000 ≤ k → Q (some (zR k)) N → Q' (some (zR k)) N) (g : sp_X11_sort as M Q) : sp_X11_sort as M Q' := by
  obtain ⟨v, a, b, zz9, c0, c1, c2⟩ := g
  exact ⟨v, a, b, zz9, c0, (by intros; exact hv _ _ (by apply c1 <;> assumption)), (by intros; exact hx _ _ (by decide) (by apply c2 <;> assumption))⟩
theorem mo_X11_span {as : List zV} {M : zM} {Q Q' : Option zV → zM → Prop} (hv : ∀ N, Q none N → Q' none N) (hx : ∀ (k : Nat) N, 3000 ≤ k → Q (some (zR k)) N → Q' (some (zR k)) N) (g : sp_X11_span as M Q) : sp_X11_span as M Q' := by
  obtain ⟨s, m, a, b, zz9, c0, c1, c2, c3⟩ := g
  exact ⟨s, m, a, b, zz9, c0, (by intros; exact hv _ (by apply c1 <;> assumption)), (by intros; exact hx _ _ (by decide) (by apply c2 <;> assumption)), (by intros; exact hx _ _ (by decide) (by apply c3 <;> assumption))⟩
theorem mo_X11_wear {as : List zV} {M : zM} {Q Q' : Option zV → zM → Prop} (hv : ∀ (v : Int) N, Q (some (zI v)) N → Q' (some (zI v)) N) (hx : ∀ (k : Nat) N, 3000 ≤ k → Q (some (zR k)) N → Q' (some (zR k)) N) (g : sp_X11_wear as M Q) : sp_X11_wear as M Q' := by
  obtain ⟨s, w, zz9, c0, c1, c2, c3⟩ := g
  exact ⟨s, w, zz9, c0, (by intros; exact hv _ _ (by apply c1 <;> assumption)), (by intros; exact hx _ _ (by decide) (by apply c2 <;> assumption)), (by intros; exact hx _ _ (by decide) (by apply c3 <;> assumption))⟩
theorem mo_X11_flow {as : List zV} {M : zM} {Q Q' : Option zV → zM → Prop} (hv : ∀ (v : Int) N, Q (some (zI v)) N → Q' (some (zI v)) N) (hx : ∀ (k : Nat) N, 3000 ≤ k → Q (some (zR k)) N → Q' (some (zR k)) N) (g : sp_X11_flow as M Q) : sp_X11_flow as M Q' := by
  obtain ⟨s, w, zz9, c0, c1, c2, c3⟩ := g
  exact ⟨s, w, zz9, c0, (by intros; exact hv _ _ (by apply c1 <;> assumption)), (by intros; exact hx _ _ (by decide) (by apply c2 <;> assumption)), (by intros; exact hx _ _ (by decide) (by apply c3 <;> assumption))⟩
theorem mo_X11_set {as : List zV} {M : zM} {Q Q' : Option zV → zM → Prop} (hv : ∀ (v : Int) N, Q (some (zI v)) N → Q' (some (zI v)) N) (hx : ∀ (k : Nat) N, 3000 ≤ k → Q (some (zR k)) N → Q' (some (zR k)) N) (g : sp_X11_set as M Q) : sp_X11_set as M Q' := by
  obtain ⟨w, v, zz9, c0, c1, c2⟩ := g
  exact ⟨w, v, zz9, (by intros; exact hv _ _ (by apply c0 <;> assumption)), (by intros; exact hx _ _ (by decide) (by apply c1 <;> assumption)), (by intros; exact hx _ _ (by decide) (by apply c2 <;> assumption))⟩
theorem mo_X11_good {as : List zV} {M : zM} {Q Q' : Option zV → zM → Prop} (hv : ∀ (v : Int) N, (v = 0 ∨ v = 1) → Q (some (zI v)) N → Q' (some (zI v)) N) (hx : ∀ (k : Nat) N, 3000 ≤ k → Q (some (zR k)) N → Q' (some (zR k)) N) (g : sp_X11_good as M Q) : sp_X11_good as M Q' := by
  obtain ⟨s, zz9, c0, c1, c2⟩ := g
  exact ⟨s, zz9, c0, (by intros; exact hv _ _ (by first | exact b01_r | omega) (by apply c1 <;> assumption)), (by intros; exact hx _ _ (by decide) (by apply c2 <;> assumption))⟩
theorem mo_X11_feed {as : List zV} {M : zM} {Q Q' : Option zV → zM → Prop} (hv : ∀ (v : Int) N, Q (some (zI v)) N → Q' (some (zI v)) N) (g : sp_X11_feed as M Q) : sp_X11_feed as M Q' := by
  obtain ⟨a, b, c, d, e, F, zz9, c0, c1, c2, c3⟩ := g
  exact ⟨a, b, c, d, e, F, zz9, c0, c1, (by intros; exact hv _ _ (by apply c2 <;> assumption)), (by intros; exact hv _ _ (by apply c3 <;> assumption))⟩
theorem mo_X11_text {as : List zV} {M : zM} {Q Q' : Option zV → zM → Prop} (hv : ∀ (v : Int) N, Q (some (zI v)) N → Q' (some (zI v)) N) (hx : ∀ (k : Nat) N, 3000 ≤ k → Q (some (zR k)) N → Q' (some (zR k)) N) (g : sp_X11_text as M Q) : sp_X11_text as M Q' := by
  obtain ⟨nn, F, zz9, c0, c1, c2, c3, c4⟩ := g
  exact ⟨nn, F, zz9, c0, c1, (by intros; exact hx _ _ (by decide) (by apply c2 <;> assumption)), (by intros; exact hv _ _ (by apply c3 <;> assumption)), (by intros; exact hv _ _ (by apply c4 <;> assumption))⟩
theorem mo_X11_fault {as : List zV} {M : zM} {Q Q' : Option zV → zM → Prop} (hv : ∀ (v : Int) N, Q (some (zI v)) N → Q' (some (zI v)) N) (g : sp_X11_fault as M Q) : sp_X11_fault as M Q' := by
  obtain ⟨w, zz9, c0⟩ := g
  exact ⟨w, zz9, (by intros; exact hv _ _ (by apply c0 <;> assumption))⟩
theorem mo_X11_gate {as : List zV} {M : zM} {Q Q' : Option zV → zM → Prop} (hv : ∀ (v : Int) N, Q (some (zI v)) N → Q' (some (zI v)) N) (hx : ∀ (k : Nat) N, 3000 ≤ k → Q (some (zR k)) N → Q' (some (zR k)) N) (g : sp_X11_gate as M Q) : sp_X11_gate as M Q' := by
  obtain ⟨g, w, zz9, c0, c1, c2, c3⟩ := g
  exact ⟨g, w, zz9, c0, (by intros; exact hv _ _ (by apply c1 <;> assumption)), (by intros; exact hx _ _ (by decide) (by apply c2 <;> assumption)), (by intros; exact hx _ _ (by decide) (by apply c3 <;> assumption))⟩
theorem mo_X11_taken {as : List zV} {M : zM} {Q Q' : Option zV → zM → Prop} (hv : ∀ (v : Int) N, Q (some (zI v)) N → Q' (some (zI v)) N) (hx : ∀ (k : Nat) N, 3000 ≤ k → Q (some (zR k)) N → Q' (some (zR k)) N) (g : sp_X11_taken as M Q) : sp_X11_taken as M Q' := by
  obtain ⟨w, b, r, zz9, c0, c1, c2, c3⟩ := g
  exact ⟨w, b, r, zz9, c0, c1, (by intros; exact hv _ _ (by apply c2 <;> assumption)), (by intros; exact hx _ _ (by decide) (by apply c3 <;> assumption))⟩
theorem mo_X11_coins {as : List zV} {M : zM} {Q Q' : Option zV → zM → Prop} (hv : ∀ (v : Int) N, Q (some (zL v)) N → Q' (some (zL v)) N) (hx : ∀ (k : Nat) N, 3000 ≤ k → Q (some (zR k)) N → Q' (some (zR k)) N) (g : sp_X11_coins as M Q) : sp_X11_coins as M Q' := by
  obtain ⟨s, zz9, c0, c1, c2⟩ := g
  exact ⟨s, zz9, c0, (by intros; exact hv _ _ (by apply c1 <;> assumption)), (by intros; exact hx _ _ (by decide) (by apply c2 <;> assumption))⟩
theorem mo_X11_passes {as : List zV} {M : zM} {Q Q' : Option zV → zM → Prop} (hv : ∀ (v : Int) N, Q (some (zL v)) N → Q' (some (zL v)) N) (hx : ∀ (k : Nat) N, 3000 ≤ k → Q (some (zR k)) N → Q' (some (zR k)) N) (g : sp_X11_passes as M Q) : sp_X11_passes as M Q' := by
  obtain ⟨s, a, zz9, c0, c1, c2, c3⟩ := g
  exact ⟨s, a, zz9, c0, c1, (by intros; exact hv _ _ (by apply c2 <;> assumption)), (by intros; exact hx _ _ (by decide) (by apply c3 <;> assumption))⟩
theorem mo_X11_wrong {as : List zV} {M : zM} {Q Q' : Option zV → zM → Prop} (hv : ∀ (v : Int) N, Q (some (zL v)) N → Q' (some (zL v)) N) (hx : ∀ (k : Nat) N, 3000 ≤ k → Q (some (zR k)) N → Q' (some (zR k)) N) (g : sp_X11_wrong as M Q) : sp_X11_wrong as M Q' := by
  obtain ⟨s, zz9, c0, c1, c2, c3⟩ := g
  exact ⟨s, zz9, c0, c1, (by intros; exact hv _ _ (by apply c2 <;> assumption)), (by intros; exact hx _ _ (by decide) (by apply c3 <;> assumption))⟩
theorem mo_X11_loss {as : List zV} {M : zM} {Q Q' : Option zV → zM → Prop} (hv : ∀ (v : Int) N, Q (some (zL v)) N → Q' (some (zL v)) N) (hx : ∀ (k : Nat) N, 3000 ≤ k → Q (some (zR k)) N → Q' (some (zR k)) N) (g : sp_X11_loss as M Q) : sp_X11_loss as M Q' := by
  obtain ⟨g, d, e, zz9, c0, c1, c2, c3, c4⟩ := g
  exact ⟨g, d, e, zz9, c0, c1, (by intros; exact hv _ _ (by apply c2 <;> assumption)), (by intros; exact hx _ _ (by decide) (by apply c3 <;> assumption)), (by intros; exact hx _ _ (by decide) (by apply c4 <;> assumption))⟩
theorem mo_X11_best {as : List zV} {M : zM} {Q Q' : Option zV → zM → Prop} (hv : ∀ (v : Int) N, Q (some (zL v)) N → Q' (some (zL v)) N) (hx : ∀ (k : Nat) N, 3000 ≤ k → Q (some (zR k)) N → Q' (some (zR k)) N) (g : sp_X11_best as M Q) : sp_X11_best as M Q' := by
  obtain ⟨g, w, zz9, c0, c1, c2, c3, c4⟩ := g
  exact ⟨g, w, zz9, c0, c1, (by intros; exact hv _ _ (by apply c2 <;> assumption)), (by intros; exact hx _ _ (by decide) (by apply c3 <;> assumption)), (by intros; exact hx _ _ (by decide) (by apply c4 <;> assumption))⟩
theorem mo_X11_move {as : List zV} {M : zM} {Q Q' : Option zV → zM → Prop} (hv : ∀ (v : Int) N, (v = 0 ∨ v = 1) → Q (some (zI v)) N → Q' (some (zI v)) N) (hx : ∀ (k : Nat) N, 3000 ≤ k → Q (some (zR k)) N → Q' (some (zR k)) N) (g : sp_X11_move as M Q) : sp_X11_move as M Q' := by
  obtain ⟨g, d, e, zz9, c0, c1, c2, c3, c4⟩ := g
  exact ⟨g, d, e, zz9, c0, (by intros; exact hv _ _ (by first | exact b01_r | omega) (by apply c1 <;> assumption)), (by intros; exact hv _ _ (by first | exact b01_r | omega) (by apply c2 <;> assumption)), (by intros; exact hx _ _ (by decide) (by apply c3 <;> assumption)), (by intros; exact hx _ _ (by decide) (by apply c4 <;> assumption))⟩
theorem mo_X11_offer {as : List zV} {M : zM} {Q Q' : Option zV → zM → Prop} (hv : ∀ (v : Int) N, Q (some (zI v)) N → Q' (some (zI v)) N) (hx : ∀ (k : Nat) N, 3000 ≤ k → Q (some (zR k)) N → Q' (some (zR k)) N) (g : sp_X11_offer as M Q) : sp_X11_offer as M Q' := by
  obtain ⟨p, zz9, c0, c1, c2⟩ := g
  exact ⟨p, zz9, c0, (by intros; exact hv _ _ (by apply c1 <;> assumption)), (by intros; exact hx _ _ (by decide) (by apply c2 <;> assumption))⟩
theorem mo_X11_price {as : List zV} {M : zM} {Q Q' : Option zV → zM → Prop} (hv : ∀ (v : Int) N, Q (some (zI v)) N → Q' (some (zI v)) N) (hx : ∀ (k : Nat) N, 3000 ≤ k → Q (some (zR k)) N → Q' (some (zR k)) N) (g : sp_X11_price as M Q) : sp_X11_price as M Q' := by
  obtain ⟨g, p, zz9, c0, c1, c2, c3⟩ := g
  exact ⟨g, p, zz9, c0, (by intros; exact hv _ _ (by apply c1 <;> assumption)), (by intros; exact hx _ _ (by decide) (by apply c2 <;> assumption)), (by intros; exact hx _ _ (by decide) (by apply c3 <;> assumption))⟩
theorem mo_X11_load {as : List zV} {M : zM} {Q Q' : Option zV → zM → Prop} (hv : ∀ (v : Int) N, Q (some (zI v)) N → Q' (some (zI v)) N) (hx : ∀ (k : Nat) N, 3000 ≤ k → Q (some (zR k)) N → Q' (some (zR k)) N) (g : sp_X11_load as M Q) : sp_X11_load as M Q' := by
  obtain ⟨B, t, s, m, zz9, c0, c1, c2, c3, c4, c5, c6⟩ := g
  exact ⟨B, t, s, m, zz9, c0, c1, c2, (by intros; exact hv _ _ (by apply c3 <;> assumption)), (by intros; exact hv _ _ (by apply c4 <;> assumption)), (by intros; exact hx _ _ (by decide) (by apply c5 <;> assumption)), (by intros; exact hx _ _ (by decide) (by apply c6 <;> assumption))⟩
theorem mo_X11_put {as : List zV} {M : zM} {Q Q' : Option zV → zM → Prop} (hv : ∀ (v : Int) N, Q (some (zI v)) N → Q' (some (zI v)) N) (hx : ∀ (k : Nat) N, 3000 ≤ k → Q (some (zR k)) N → Q' (some (zR k)) N) (g : sp_X11_put as M Q) : sp_X11_put as M Q' := by
  obtain ⟨B, s, w, b, r, y, zz9, c0, c1, c2, c3, c4, c5, c6, c7, c8⟩ := g
  exact ⟨B, s, w, b, r, y, zz9, c0, c1, c2, c3, (by intros; exact hv _ _ (by apply c4 <;> assumption)), (by intros; exact hv _ _ (by apply c5 <;> assumption)), (by intros; exact hv _ _ (by apply c6 <;> assumption)), (by intros; exact hx _ _ (by decide) (by apply c7 <;> assumption)), (by intros; exact hx _ _ (by decide) (by apply c8 <;> assumption))⟩
theorem mo_X11_credit {as : List zV} {M : zM} {Q Q' : Option zV → zM → Prop} (hv : ∀ (v : Int) N, Q (some (zI v)) N → Q' (some (zI v)) N) (g : sp_X11_credit as M Q) : sp_X11_credit as M Q' := by
  obtain ⟨B, zz9, c0, c1⟩ := g
  exact ⟨B, zz9, c0, (by intros; exact hv _ _ (by apply c1 <;> assumption))⟩
theorem mo_X11_sale {as : List zV} {M : zM} {Q Q' : Option zV → zM → Prop} (hv : ∀ (v : Int) N, Q (some (zI v)) N → Q' (some (zI v)) N) (hx : ∀ (k : Nat) N, 3000 ≤ k → Q (some (zR k)) N → Q' (some (zR k)) N) (g : sp_X11_sale as M Q) : sp_X11_sale as M Q' := by
  obtain ⟨B, g, zz9, c0, c1, c2, c3, c4, c5, c6, c7⟩ := g
  exact ⟨B, g, zz9, c0, c1, c2, c3, c4, (by intros; exact hv _ _ (by apply c5 <;> assumption)), (by intros; exact hv _ _ (by apply c6 <;> assumption)), (by intros; exact hx _ _ (by decide) (by apply c7 <;> assumption))⟩
theorem mo_X11_refund {as : List zV} {M : zM} {Q Q' : Option zV → zM → Prop} (hv : ∀ (v : Int) N, Q (some (zI v)) N → Q' (some (zI v)) N) (g : sp_X11_refund as M Q) : sp_X11_refund as M Q' := by
  obtain ⟨B, zz9, c0, c1, c2⟩ := g
  exact ⟨B, zz9, c0, c1, (by intros; exact hv _ _ (by apply c2 <;> assumption))⟩
theorem mo_X11_given {as : List zV} {M : zM} {Q Q' : Option zV → zM → Prop} (hv : ∀ (v : Int) N, Q (some (zI v)) N → Q' (some (zI v)) N) (g : sp_X11_given as M Q) : sp_X11_given as M Q' := by
  obtain ⟨i, zz9, c0, c1⟩ := g
  exact ⟨i, zz9, c0, (by intros; exact hv _ _ (by apply c1 <;> assumption))⟩
theorem mo_X11_tube {as : List zV} {M : zM} {Q Q' : Option zV → zM → Prop} (hv : ∀ (v : Int) N, Q (some (zI v)) N → Q' (some (zI v)) N) (hx : ∀ (k : Nat) N, 3000 ≤ k → Q (some (zR k)) N → Q' (some (zR k)) N) (g : sp_X11_tube as M Q) : sp_X11_tube as M Q' := by
  obtain ⟨B, t, w, zz9, c0, c1, c2, c3, c4⟩ := g
  exact ⟨B, t, w, zz9, c0, c1, (by intros; exact hv _ _ (by apply c2 <;> assumption)), (by intros; exact hx _ _ (by decide) (by apply c3 <;> assumption)), (by intros; exact hx _ _ (by decide) (by apply c4 <;> assumption))⟩
theorem mo_X11_bag {as : List zV} {M : zM} {Q Q' : Option zV → zM → Prop} (hv : ∀ (v : Int) N, Q (some (zI v)) N → Q' (some (zI v)) N) (hx : ∀ (k : Nat) N, 3000 ≤ k → Q (some (zR k)) N → Q' (some (zR k)) N) (g : sp_X11_bag as M Q) : sp_X11_bag as M Q' := by
  obtain ⟨s, zz9, c0, c1, c2⟩ := g
  exact ⟨s, zz9, c0, (by intros; exact hv _ _ (by apply c1 <;> assumption)), (by intros; exact hx _ _ (by decide) (by apply c2 <;> assumption))⟩
theorem mo_X11_empty {as : List zV} {M : zM} {Q Q' : Option zV → zM → Prop} (hv : ∀ (v : Int) N, Q (some (zI v)) N → Q' (some (zI v)) N) (hx : ∀ (k : Nat) N, 3000 ≤ k → Q (some (zR k)) N → Q' (some (zR k)) N) (g : sp_X11_empty as M Q) : sp_X11_empty as M Q' := by
  obtain ⟨B, t, zz9, c0, c1, c2, c3, c4⟩ := g
  exact ⟨B, t, zz9, c0, c1, c2, (by intros; exact hv _ _ (by apply c3 <;> assumption)), (by intros; exact hx _ _ (by decide) (by apply c4 <;> assumption))⟩
theorem mo_X11_lacks {as : List zV} {M : zM} {Q Q' : Option zV → zM → Prop} (hv : ∀ (v : Int) N, Q (some (zI v)) N → Q' (some (zI v)) N) (hx : ∀ (k : Nat) N, 3000 ≤ k → Q (some (zR k)) N → Q' (some (zR k)) N) (g : sp_X11_lacks as M Q) : sp_X11_lacks as M Q' := by
  obtain ⟨B, g, w, zz9, c0, c1, c2, c3, c4, c5, c6⟩ := g
  exact ⟨B, g, w, zz9, c0, c1, c2, c3, (by intros; exact hv _ _ (by apply c4 <;> assumption)), (by intros; exact hx _ _ (by decide) (by apply c5 <;> assumption)), (by intros; exact hx _ _ (by decide) (by apply c6 <;> assumption))⟩
theorem mo_X11_made {as : List zV} {M : zM} {Q Q' : Option zV → zM → Prop} (hv : ∀ (v : Int) N, Q (some (zI v)) N → Q' (some (zI v)) N) (hx : ∀ (k : Nat) N, 3000 ≤ k → Q (some (zR k)) N → Q' (some (zR k)) N) (g : sp_X11_made as M Q) : sp_X11_made as M Q' := by
  obtain ⟨p, zz9, c0, c1, c2⟩ := g
  exact ⟨p, zz9, c0, (by intros; exact hv _ _ (by apply c1 <;> assumption)), (by intros; exact hx _ _ (by decide) (by apply c2 <;> assumption))⟩
theorem mo_X11_wheel {as : List zV} {M : zM} {Q Q' : Option zV → zM → Prop} (hv : ∀ (v : Int) N, Q (some (zI v)) N → Q' (some (zI v)) N) (hx : ∀ (k : Nat) N, 3000 ≤ k → Q (some (zR k)) N → Q' (some (zR k)) N) (g : sp_X11_wheel as M Q) : sp_X11_wheel as M Q' := by
  obtain ⟨B, s, w, zz9, c0, c1, c2, c3, c4, c5⟩ := g
  exact ⟨B, s, w, zz9, c0, c1, c2, (by intros; exact hv _ _ (by apply c3 <;> assumption)), (by intros; exact hx _ _ (by decide) (by apply c4 <;> assumption)), (by intros; exact hx _ _ (by decide) (by apply c5 <;> assumption))⟩
theorem mo_X11_cost {as : List zV} {M : zM} {Q Q' : Option zV → zM → Prop} (hv : ∀ (v : Int) N, Q (some (zI v)) N → Q' (some (zI v)) N) (hx : ∀ (k : Nat) N, 3000 ≤ k → Q (some (zR k)) N → Q' (some (zR k)) N) (g : sp_X11_cost as M Q) : sp_X11_cost as M Q' := by
  obtain ⟨k, c, zz9, c0, c1, c2⟩ := g
  exact ⟨k, c, zz9, (by intros; exact hv _ _ (by apply c0 <;> assumption)), (by intros; exact hx _ _ (by decide) (by apply c1 <;> assumption)), (by intros; exact hx _ _ (by decide) (by apply c2 <;> assumption))⟩
theorem mo_X11_explain {as : List zV} {M : zM} {Q Q' : Option zV → zM → Prop} (hv : ∀ (v : Int) N, Q (some (zI v)) N → Q' (some (zI v)) N) (hx : ∀ (k : Nat) N, 3000 ≤ k → Q (some (zR k)) N → Q' (some (zR k)) N) (g : sp_X11_explain as M Q) : sp_X11_explain as M Q' := by
  obtain ⟨B, w, zz9, c0, c1, c2, c3, c4, c5, c6, c7⟩ := g
  exact ⟨B, w, zz9, c0, c1, c2, c3, c4, c5, (by intros; exact hv _ _ (by apply c6 <;> assumption)), (by intros; exact hx _ _ (by decide) (by apply c7 <;> assumption))⟩
theorem mo_X11_buyer {as : List zV} {M : zM} {Q Q' : Option zV → zM → Prop} (hv : ∀ (v : Int) N, Q (some (zI v)) N → Q' (some (zI v)) N) (hx : ∀ (k : Nat) N, 3000 ≤ k → Q (some (zR k)) N → Q' (some (zR k)) N) (g : sp_X11_buyer as M Q) : sp_X11_buyer as M Q' := by
  obtain ⟨g, a, b, c, d, h, zz9, c0, c1, c2, c3, c4, c5⟩ := g
  exact ⟨g, a, b, c, d, h, zz9, c0, c1, (by intros; exact hv _ _ (by apply c2 <;> assumption)), (by intros; exact hv _ _ (by apply c3 <;> assumption)), (by intros; exact hx _ _ (by decide) (by apply c4 <;> assumption)), (by intros; exact hx _ _ (by decide) (by apply c5 <;> assumption))⟩
theorem mo_X11_most {as : List zV} {M : zM} {Q Q' : Option zV → zM → Prop} (hv : ∀ (v : Int) N, Q (some (zL v)) N → Q' (some (zL v)) N) (hx : ∀ (k : Nat) N, 3000 ≤ k → Q (some (zR k)) N → Q' (some (zR k)) N) (g : sp_X11_most as M Q) : sp_X11_most as M Q' := by
  obtain ⟨B, n, zz9, c0, c1, c2, c3, c4⟩ := g
  exact ⟨B, n, zz9, c0, c1, c2, (by intros; exact hv _ _ (by apply c3 <;> assumption)), (by intros; exact hx _ _ (by decide) (by apply c4 <;> assumption))⟩
theorem mo_X11_serve {as : List zV} {M : zM} {Q Q' : Option zV → zM → Prop} (hv : ∀ (v : Int) N, Q (some (zI v)) N → Q' (some (zI v)) N) (hx : ∀ (k : Nat) N, 3000 ≤ k → Q (some (zR k)) N → Q' (some (zR k)) N) (g : sp_X11_serve as M Q) : sp_X11_serve as M Q' := by
  obtain ⟨B, n, b, zz9, c0, c1, c2, c3, c4, c5⟩ := g
  exact ⟨B, n, b, zz9, c0, c1, c2, (by intros; exact hv _ _ (by apply c3 <;> assumption)), (by intros; exact hx _ _ (by decide) (by apply c4 <;> assumption)), (by intros; exact hx _ _ (by decide) (by apply c5 <;> assumption))⟩
theorem mo_X11_machine {as : List zV} {M : zM} {Q Q' : Option zV → zM → Prop} (hv : ∀ (v : Int) N, Q (some (zI v)) N → Q' (some (zI v)) N) (hx : ∀ (k : Nat) N, 3000 ≤ k → Q (some (zR k)) N → Q' (some (zR k)) N) (g : sp_X11_machine as M Q) : sp_X11_machine as M Q' := by
  obtain ⟨a, b, zz9, c0, c1, c2⟩ := g
  exact ⟨a, b, zz9, c0, (by intros; exact hv _ _ (by apply c1 <;> assumption)), (by intros; exact hx _ _ (by decide) (by apply c2 <;> assumption))⟩
theorem mo_X11_rounds {as : List zV} {M : zM} {Q Q' : Option zV → zM → Prop} (hv : ∀ (v : Int) N, Q (some (zI v)) N → Q' (some (zI v)) N) (hx : ∀ (k : Nat) N, 3000 ≤ k → Q (some (zR k)) N → Q' (some (zR k)) N) (g : sp_X11_rounds as M Q) : sp_X11_rounds as M Q' := by
  obtain ⟨h, d, zz9, c0, c1, c2, c3, c4⟩ := g
  exact ⟨h, d, zz9, c0, (by intros; exact hv _ _ (by apply c1 <;> assumption)), (by intros; exact hv _ _ (by apply c2 <;> assumption)), (by intros; exact hv _ _ (by apply c3 <;> assumption)), (by intros; exact hx _ _ (by decide) (by apply c4 <;> assumption))⟩
theorem mo_X11_tray {as : List zV} {M : zM} {Q Q' : Option zV → zM → Prop} (hv : ∀ N, Q none N → Q' none N) (hx : ∀ (k : Nat) N, 3000 ≤ k → Q (some (zR k)) N → Q' (some (zR k)) N) (g : sp_X11_tray as M Q) : sp_X11_tray as M Q' := by
  obtain ⟨t, s, m, zz9, c0, c1, c2, c3⟩ := g
  exact ⟨t, s, m, zz9, c0, (by intros; exact hv _ (by apply c1 <;> assumption)), (by intros; exact hx _ _ (by decide) (by apply c2 <;> assumption)), (by intros; exact hx _ _ (by decide) (by apply c3 <;> assumption))⟩
theorem mo_X11_write {as : List zV} {M : zM} {Q Q' : Option zV → zM → Prop} (hv : ∀ (v : Int) N, Q (some (zL v)) N → Q' (some (zL v)) N) (hx : ∀ (k : Nat) N, 3000 ≤ k → Q (some (zR k)) N → Q' (some (zR k)) N) (g : sp_X11_write as M Q) : sp_X11_write as M Q' := by
  obtain ⟨t, p, v, zz9, c0, c1, c2, c3, c4⟩ := g
  exact ⟨t, p, v, zz9, c0, (by intros; exact hv _ _ (by apply c1 <;> assumption)), (by intros; exact hx _ _ (by decide) (by apply c2 <;> assumption)), (by intros; exact hx _ _ (by decide) (by apply c3 <;> assumption)), (by intros; exact hx _ _ (by decide) (by apply c4 <;> assumption))⟩
theorem mo_X11_pour {as : List zV} {M : zM} {Q Q' : Option zV → zM → Prop} (hv : ∀ (v : Int) N, Q (some (zI v)) N → Q' (some (zI v)) N) (hx : ∀ (k : Nat) N, 3000 ≤ k → Q (some (zR k)) N → Q' (some (zR k)) N) (g : sp_X11_pour as M Q) : sp_X11_pour as M Q' := by
  obtain ⟨B, u, t, zz9, c0, c1, c2, c3, c4, c5, c6, c7, c8⟩ := g
  exact ⟨B, u, t, zz9, c0, c1, c2, c3, (by intros; exact hv _ _ (by apply c4 <;> assumption)), (by intros; exact hv _ _ (by apply c5 <;> assumption)), (by intros; exact hx _ _ (by decide) (by apply c6 <;> assumption)), (by intros; exact hx _ _ (by decide) (by apply c7 <;> assumption)), (by intros; exact hx _ _ (by decide) (by apply c8 <;> assumption))⟩
theorem mo_X11_image {as : List zV} {M : zM} {Q Q' : Option zV → zM → Prop} (hv : ∀ N, Q none N → Q' none N) (hx : ∀ (k : Nat) N, 3000 ≤ k → Q (some (zR k)) N → Q' (some (zR k)) N) (g : sp_X11_image as M Q) : sp_X11_image as M Q' := by
  obtain ⟨i, zz9, c0, c1, c2⟩ := g
  exact ⟨i, zz9, c0, (by intros; exact hv _ (by apply c1 <;> assumption)), (by intros; exact hx _ _ (by decide) (by apply c2 <;> assumption))⟩
theorem mo_X11_restore {as : List zV} {M : zM} {Q Q' : Option zV → zM → Prop} (hv : ∀ N, Q none N → Q' none N) (hx : ∀ (k : Nat) N, 3000 ≤ k → Q (some (zR k)) N → Q' (some (zR k)) N) (g : sp_X11_restore as M Q) : sp_X11_restore as M Q' := by
  obtain ⟨i, zz9, c0, c1, c2, c3⟩ := g
  exact ⟨i, zz9, c0, (by intros; exact hv _ (by apply c1 <;> assumption)), (by intros; exact hx _ _ (by decide) (by apply c2 <;> assumption)), (by intros; exact hx _ _ (by decide) (by apply c3 <;> assumption))⟩
theorem mo_X11_count {as : List zV} {M : zM} {Q Q' : Option zV → zM → Prop} (hv : ∀ (v : Int) N, Q (some (zI v)) N → Q' (some (zI v)) N) (g : sp_X11_count as M Q) : sp_X11_count as M Q' := by
  obtain ⟨w, zz9, c0⟩ := g
  exact ⟨w, zz9, (by intros; exact hv _ _ (by apply c0 <;> assumption))⟩
theorem mo_X12_sort {as : List zV} {M : zM} {Q Q' : Option zV → zM → Prop} (hv : ∀ (v : Int) N, Q (some (zI v)) N → Q' (some (zI v)) N) (g : sp_X12_sort as M Q) : sp_X12_sort as M Q' := by
  obtain ⟨v, a, b, zz9, c0, c1, c2, c3⟩ := g
  exact ⟨v, a, b, zz9, c0, (by intros; exact hv _ _ (by apply c1 <;> assumption)), (by intros; exact hv _ _ (by apply c2 <;> assumption)), (by intros; exact hv _ _ (by apply c3 <;> assumption))⟩
theorem mo_X12_span {as : List zV} {M : zM} {Q Q' : Option zV → zM → Prop} (hv : ∀ N, Q none N → Q' none N) (g : sp_X12_span as M Q) : sp_X12_span as M Q' := by
  obtain ⟨s, m, a, b, zz9, c0, c1, c2, c3⟩ := g
  exact ⟨s, m, a, b, zz9, c0, (by intros; exact hv _ (by apply c1 <;> assumption)), (by intros; exact hv _ (by apply c2 <;> assumption)), (by intros; exact hv _ (by apply c3 <;> assumption))⟩
theorem mo_X12_wear {as : List zV} {M : zM} {Q Q' : Option zV → zM → Prop} (hv : ∀ (v : Int) N, Q (some (zI v)) N → Q' (some (zI v)) N) (g : sp_X12_wear as M Q) : sp_X12_wear as M Q' := by
  obtain ⟨s, w, zz9, c0, c1, c2, c3⟩ := g
  exact ⟨s, w, zz9, c0, (by intros; exact hv _ _ (by apply c1 <;> assumption)), (by intros; exact hv _ _ (by apply c2 <;> assumption)), (by intros; exact hv _ _ (by apply c3 <;> assumption))⟩
theorem mo_X12_flow {as : List zV} {M : zM} {Q Q' : Option zV → zM → Prop} (hv : ∀ (v : Int) N, Q (some (zI v)) N → Q' (some (zI v)) N) (g : sp_X12_flow as M Q) : sp_X12_flow as M Q' := by
  obtain ⟨s, w, zz9, c0, c1, c2, c3⟩ := g
  exact ⟨s, w, zz9, c0, (by intros; exact hv _ _ (by apply c1 <;> assumption)), (by intros; exact hv _ _ (by apply c2 <;> assumption)), (by intros; exact hv _ _ (by apply c3 <;> assumption))⟩
theorem mo_X12_set {as : List zV} {M : zM} {Q Q' : Option zV → zM → Prop} (hv : ∀ (v : Int) N, Q (some (zI v)) N → Q' (some (zI v)) N) (g : sp_X12_set as M Q) : sp_X12_set as M Q' := by
  obtain ⟨w, v, zz9, c0, c1, c2⟩ := g
  exact ⟨w, v, zz9, (by intros; exact hv _ _ (by apply c0 <;> assumption)), (by intros; exact hv _ _ (by apply c1 <;> assumption)), (by intros; exact hv _ _ (by apply c2 <;> assumption))⟩
theorem mo_X12_good {as : List zV} {M : zM} {Q Q' : Option zV → zM → Prop} (hv : ∀ (v : Int) N, (v = 0 ∨ v = 1) → Q (some (zI v)) N → Q' (some (zI v)) N) (g : sp_X12_good as M Q) : sp_X12_good as M Q' := by
  obtain ⟨s, zz9, c0, c1, c2⟩ := g
  exact ⟨s, zz9, c0, (by intros; exact hv _ _ (by first | exact b01_r | omega) (by apply c1 <;> assumption)), (by intros; exact hv _ _ (by first | exact b01_r | omega) (by apply c2 <;> assumption))⟩
theorem mo_X12_feed {as : List zV} {M : zM} {Q Q' : Option zV → zM → Prop} (hv : ∀ (v : Int) N, Q (some (zI v)) N → Q' (some (zI v)) N) (g : sp_X12_feed as M Q) : sp_X12_feed as M Q' := by
  obtain ⟨a, b, c, d, e, zz9, c0, c1, c2⟩ := g
  exact ⟨a, b, c, d, e, zz9, c0, (by intros; exact hv _ _ (by apply c1 <;> assumption)), (by intros; exact hv _ _ (by apply c2 <;> assumption))⟩
theorem mo_X12_text {as : List zV} {M : zM} {Q Q' : Option zV → zM → Prop} (hv : ∀ (v : Int) N, Q (some (zI v)) N → Q' (some (zI v)) N) (g : sp_X12_text as M Q) : sp_X12_text as M Q' := by
  obtain ⟨nn, zz9, c0, c1, c2, c3⟩ := g
  exact ⟨nn, zz9, c0, (by intros; exact hv _ _ (by apply c1 <;> assumption)), (by intros; exact hv _ _ (by apply c2 <;> assumption)), (by intros; exact hv _ _ (by apply c3 <;> assumption))⟩
theorem mo_X12_fault {as : List zV} {M : zM} {Q Q' : Option zV → zM → Prop} (hv : ∀ (v : Int) N, Q (some (zI v)) N → Q' (some (zI v)) N) (g : sp_X12_fault as M Q) : sp_X12_fault as M Q' := by
  obtain ⟨w, zz9, c0⟩ := g
  exact ⟨w, zz9, (by intros; exact hv _ _ (by apply c0 <;> assumption))⟩
theorem mo_X12_gate {as : List zV} {M : zM} {Q Q' : Option zV → zM → Prop} (hv : ∀ (v : Int) N, Q (some (zI v)) N → Q' (some (zI v)) N) (g : sp_X12_gate as M Q) : sp_X12_gate as M Q' := by
  obtain ⟨g, w, zz9, c0, c1, c2, c3⟩ := g
  exact ⟨g, w, zz9, c0, (by intros; exact hv _ _ (by apply c1 <;> assumption)), (by intros; exact hv _ _ (by apply c2 <;> assumption)), (by intros; exact hv _ _ (by apply c3 <;> assumption))⟩
theorem mo_X12_taken {as : List zV} {M : zM} {Q Q' : Option zV → zM → Prop} (hv : ∀ (v : Int) N, Q (some (zI v)) N → Q' (some (zI v)) N) (g : sp_X12_taken as M Q) : sp_X12_taken as M Q' := by
  obtain ⟨w, b, r, zz9, c0, c1, c2, c3, c4, c5⟩ := g
  exact ⟨w, b, r, zz9, c0, c1, c2, c3, (by intros; exact hv _ _ (by apply c4 <;> assumption)), (by intros; exact hv _ _ (by apply c5 <;> assumption))⟩
theorem mo_X12_coins {as : List zV} {M : zM} {Q Q' : Option zV → zM → Prop} (hv : ∀ (v : Int) N, Q (some (zL v)) N → Q' (some (zL v)) N) (g : sp_X12_coins as M Q) : sp_X12_coins as M Q' := by
  obtain ⟨s, zz9, c0, c1, c2⟩ := g
  exact ⟨s, zz9, c0, (by intros; exact hv _ _ (by apply c1 <;> assumption)), (by intros; exact hv _ _ (by apply c2 <;> assumption))⟩
theorem mo_X12_passes {as : List zV} {M : zM} {Q Q' : Option zV → zM → Prop} (hv : ∀ (v : Int) N, Q (some (zL v)) N → Q' (some (zL v)) N) (g : sp_X12_passes as M Q) : sp_X12_passes as M Q' := by
  obtain ⟨s, a, zz9, c0, c1, c2, c3, c4, c5⟩ := g
  exact ⟨s, a, zz9, c0, c1, c2, c3, (by intros; exact hv _ _ (by apply c4 <;> assumption)), (by intros; exact hv _ _ (by apply c5 <;> assumption))⟩
theorem mo_X12_wrong {as : List zV} {M : zM} {Q Q' : Option zV → zM → Prop} (hv : ∀ (v : Int) N, Q (some (zL v)) N → Q' (some (zL v)) N) (g : sp_X12_wrong as M Q) : sp_X12_wrong as M Q' := by
  obtain ⟨s, zz9, c0, c1, c2, c3, c4, c5⟩ := g
  exact ⟨s, zz9, c0, c1, c2, c3, (by intros; exact hv _ _ (by apply c4 <;> assumption)), (by intros; exact hv _ _ (by apply c5 <;> assumption))⟩
theorem mo_X12_loss {as : List zV} {M : zM} {Q Q' : Option zV → zM → Prop} (hv : ∀ (v : Int) N, Q (some (zL v)) N → Q' (some (zL v)) N) (g : sp_X12_loss as M Q) : sp_X12_loss as M Q' := by
  obtain ⟨g, d, e, zz9, c0, c1, c2, c3, c4, c5⟩ := g
  exact ⟨g, d, e, zz9, c0, c1, c2, (by intros; exact hv _ _ (by apply c3 <;> assumption)), (by intros; exact hv _ _ (by apply c4 <;> assumption)), (by intros; exact hv _ _ (by apply c5 <;> assumption))⟩
theorem mo_X12_best {as : List zV} {M : zM} {Q Q' : Option zV → zM → Prop} (hv : ∀ (v : Int) N, Q (some (zL v)) N → Q' (some (zL v)) N) (g : sp_X12_best as M Q) : sp_X12_best as M Q' := by
  obtain ⟨g, w, zz9, c0, c1, c2, c3, c4, c5, c6⟩ := g
  exact ⟨g, w, zz9, c0, c1, c2, c3, (by intros; exact hv _ _ (by apply c4 <;> assumption)), (by intros; exact hv _ _ (by apply c5 <;> assumption)), (by intros; exact hv _ _ (by apply c6 <;> assumption))⟩
theorem mo_X12_move {as : List zV} {M : zM} {Q Q' : Option zV → zM → Prop} (hv : ∀ (v : Int) N, (v = 0 ∨ v = 1) → Q (some (zI v)) N → Q' (some (zI v)) N) (g : sp_X12_move as M Q) : sp_X12_move as M Q' := by
  obtain ⟨g, d, e, zz9, c0, c1, c2, c3, c4⟩ := g
  exact ⟨g, d, e, zz9, c0, (by intros; exact hv _ _ (by first | exact b01_r | omega) (by apply c1 <;> assumption)), (by intros; exact hv _ _ (by first | exact b01_r | omega) (by apply c2 <;> assumption)), (by intros; exact hv _ _ (by first | exact b01_r | omega) (by apply c3 <;> assumption)), (by intros; exact hv _ _ (by first | exact b01_r | omega) (by apply c4 <;> assumption))⟩
theorem mo_X12_offer {as : List zV} {M : zM} {Q Q' : Option zV → zM → Prop} (hv : ∀ (v : Int) N, Q (some (zI v)) N → Q' (some (zI v)) N) (g : sp_X12_offer as M Q) : sp_X12_offer as M Q' := by
  obtain ⟨p, zz9, c0, c1, c2, c3⟩ := g
  exact ⟨p, zz9, c0, (by intros; exact hv _ _ (by apply c1 <;> assumption)), (by intros; exact hv _ _ (by apply c2 <;> assumption)), (by intros; exact hv _ _ (by apply c3 <;> assumption))⟩
theorem mo_X12_price {as : List zV} {M : zM} {Q Q' : Option zV → zM → Prop} (hv : ∀ (v : Int) N, Q (some (zI v)) N → Q' (some (zI v)) N) (g : sp_X12_price as M Q) : sp_X12_price as M Q' := by
  obtain ⟨g, p, zz9, c0, c1, c2, c3⟩ := g
  exact ⟨g, p, zz9, c0, (by intros; exact hv _ _ (by apply c1 <;> assumption)), (by intros; exact hv _ _ (by apply c2 <;> assumption)), (by intros; exact hv _ _ (by apply c3 <;> assumption))⟩
theorem mo_X12_load {as : List zV} {M : zM} {Q Q' : Option zV → zM → Prop} (hv : ∀ (v : Int) N, Q (some (zI v)) N → Q' (some (zI v)) N) (g : sp_X12_load as M Q) : sp_X12_load as M Q' := by
  obtain ⟨u, s, m, zz9, c0, c1, c2, c3, c4, c5⟩ := g
  exact ⟨u, s, m, zz9, c0, c1, (by intros; exact hv _ _ (by apply c2 <;> assumption)), (by intros; exact hv _ _ (by apply c3 <;> assumption)), (by intros; exact hv _ _ (by apply c4 <;> assumption)), (by intros; exact hv _ _ (by apply c5 <;> assumption))⟩
theorem mo_X12_put {as : List zV} {M : zM} {Q Q' : Option zV → zM → Prop} (hv : ∀ (v : Int) N, Q (some (zI v)) N → Q' (some (zI v)) N) (g : sp_X12_put as M Q) : sp_X12_put as M Q' := by
  obtain ⟨s, w, b, r, y, zz9, c0, c1, c2, c3, c4, c5, c6, c7, c8, c9, c10⟩ := g
  exact ⟨s, w, b, r, y, zz9, c0, c1, c2, c3, c4, c5, (by intros; exact hv _ _ (by apply c6 <;> assumption)), (by intros; exact hv _ _ (by apply c7 <;> assumption)), (by intros; exact hv _ _ (by apply c8 <;> assumption)), (by intros; exact hv _ _ (by apply c9 <;> assumption)), (by intros; exact hv _ _ (by apply c10 <;> assumption))⟩
theorem mo_X12_credit {as : List zV} {M : zM} {Q Q' : Option zV → zM → Prop} (hv : ∀ (v : Int) N, Q (some (zI v)) N → Q' (some (zI v)) N) (g : sp_X12_credit as M Q) : sp_X12_credit as M Q' := by
  obtain ⟨B, zz9, c0, c1⟩ := g
  exact ⟨B, zz9, c0, (by intros; exact hv _ _ (by apply c1 <;> assumption))⟩
theorem mo_X12_sale {as : List zV} {M : zM} {Q Q' : Option zV → zM → Prop} (hv : ∀ (v : Int) N, Q (some (zI v)) N → Q' (some (zI v)) N) (g : sp_X12_sale as M Q) : sp_X12_sale as M Q' := by
  obtain ⟨B, g, zz9, c0, c1, c2, c3, c4, c5, c6, c7, c8⟩ := g
  exact ⟨B, g, zz9, c0, c1, c2, c3, c4, c5, (by intros; exact hv _ _ (by apply c6 <;> assumption)), (by intros; exact hv _ _ (by apply c7 <;> assumption)), (by intros; exact hv _ _ (by apply c8 <;> assumption))⟩
theorem mo_X12_refund {as : List zV} {M : zM} {Q Q' : Option zV → zM → Prop} (hv : ∀ (v : Int) N, Q (some (zI v)) N → Q' (some (zI v)) N) (g : sp_X12_refund as M Q) : sp_X12_refund as M Q' := by
  obtain ⟨zz9, c0, c1, c2, c3⟩ := g
  exact ⟨zz9, c0, c1, c2, (by intros; exact hv _ _ (by apply c3 <;> assumption))⟩
theorem mo_X12_given {as : List zV} {M : zM} {Q Q' : Option zV → zM → Prop} (hv : ∀ (v : Int) N, Q (some (zI v)) N → Q' (some (zI v)) N) (g : sp_X12_given as M Q) : sp_X12_given as M Q' := by
  obtain ⟨i, zz9, c0, c1⟩ := g
  exact ⟨i, zz9, c0, (by intros; exact hv _ _ (by apply c1 <;> assumption))⟩
theorem mo_X12_tube {as : List zV} {M : zM} {Q Q' : Option zV → zM → Prop} (hv : ∀ (v : Int) N, Q (some (zI v)) N → Q' (some (zI v)) N) (g : sp_X12_tube as M Q) : sp_X12_tube as M Q' := by
  obtain ⟨B, t, w, zz9, c0, c1, c2, c3, c4⟩ := g
  exact ⟨B, t, w, zz9, c0, c1, (by intros; exact hv _ _ (by apply c2 <;> assumption)), (by intros; exact hv _ _ (by apply c3 <;> assumption)), (by intros; exact hv _ _ (by apply c4 <;> assumption))⟩
theorem mo_X12_bag {as : List zV} {M : zM} {Q Q' : Option zV → zM → Prop} (hv : ∀ (v : Int) N, Q (some (zI v)) N → Q' (some (zI v)) N) (g : sp_X12_bag as M Q) : sp_X12_bag as M Q' := by
  obtain ⟨s, zz9, c0, c1, c2⟩ := g
  exact ⟨s, zz9, c0, (by intros; exact hv _ _ (by apply c1 <;> assumption)), (by intros; exact hv _ _ (by apply c2 <;> assumption))⟩
theorem mo_X12_empty {as : List zV} {M : zM} {Q Q' : Option zV → zM → Prop} (hv : ∀ (v : Int) N, Q (some (zI v)) N → Q' (some (zI v)) N) (g : sp_X12_empty as M Q) : sp_X12_empty as M Q' := by
  obtain ⟨u, zz9, c0, c1, c2, c3⟩ := g
  exact ⟨u, zz9, c0, c1, (by intros; exact hv _ _ (by apply c2 <;> assumption)), (by intros; exact hv _ _ (by apply c3 <;> assumption))⟩
theorem mo_X12_lacks {as : List zV} {M : zM} {Q Q' : Option zV → zM → Prop} (hv : ∀ (v : Int) N, Q (some (zI v)) N → Q' (some (zI v)) N) (g : sp_X12_lacks as M Q) : sp_X12_lacks as M Q' := by
  obtain ⟨B, g, w, zz9, c0, c1, c2, c3, c4, c5, c6, c7⟩ := g
  exact ⟨B, g, w, zz9, c0, c1, c2, c3, c4, (by intros; exact hv _ _ (by apply c5 <;> assumption)), (by intros; exact hv _ _ (by apply c6 <;> assumption)), (by intros; exact hv _ _ (by apply c7 <;> assumption))⟩
theorem mo_X12_made {as : List zV} {M : zM} {Q Q' : Option zV → zM → Prop} (hv : ∀ (v : Int) N, Q (some (zI v)) N → Q' (some (zI v)) N) (g : sp_X12_made as M Q) : sp_X12_made as M Q' := by
  obtain ⟨p, zz9, c0, c1, c2⟩ := g
  exact ⟨p, zz9, c0, (by intros; exact hv _ _ (by apply c1 <;> assumption)), (by intros; exact hv _ _ (by apply c2 <;> assumption))⟩
theorem mo_X12_wheel {as : List zV} {M : zM} {Q Q' : Option zV → zM → Prop} (hv : ∀ (v : Int) N, Q (some (zI v)) N → Q' (some (zI v)) N) (g : sp_X12_wheel as M Q) : sp_X12_wheel as M Q' := by
  obtain ⟨B, s, w, zz9, c0, c1, c2, c3, c4, c5, c6⟩ := g
  exact ⟨B, s, w, zz9, c0, c1, c2, c3, (by intros; exact hv _ _ (by apply c4 <;> assumption)), (by intros; exact hv _ _ (by apply c5 <;> assumption)), (by intros; exact hv _ _ (by apply c6 <;> assumption))⟩
theorem mo_X12_cost {as : List zV} {M : zM} {Q Q' : Option zV → zM → Prop} (hv : ∀ (v : Int) N, Q (some (zI v)) N → Q' (some (zI v)) N) (g : sp_X12_cost as M Q) : sp_X12_cost as M Q' := by
  obtain ⟨k, c, zz9, c0, c1, c2⟩ := g
  exact ⟨k, c, zz9, (by intros; exact hv _ _ (by apply c0 <;> assumption)), (by intros; exact hv _ _ (by apply c1 <;> assumption)), (by intros; exact hv _ _ (by apply c2 <;> assumption))⟩
theorem mo_X12_explain {as : List zV} {M : zM} {Q Q' : Option zV → zM → Prop} (hv : ∀ (v : Int) N, Q (some (zI v)) N → Q' (some (zI v)) N) (g : sp_X12_explain as M Q) : sp_X12_explain as M Q' := by
  obtain ⟨B, w, zz9, c0, c1, c2, c3, c4, c5, c6, c7, c8, c9, c10⟩ := g
  exact ⟨B, w, zz9, c0, c1, c2, c3, c4, c5, c6, c7, c8, (by intros; exact hv _ _ (by apply c9 <;> assumption)), (by intros; exact hv _ _ (by apply c10 <;> assumption))⟩
theorem mo_X12_buyer {as : List zV} {M : zM} {Q Q' : Option zV → zM → Prop} (hv : ∀ (v : Int) N, Q (some (zI v)) N → Q' (some (zI v)) N) (g : sp_X12_buyer as M Q) : sp_X12_buyer as M Q' := by
  obtain ⟨g, a, b, c, d, h, zz9, c0, c1, c2, c3, c4, c5, c6⟩ := g
  exact ⟨g, a, b, c, d, h, zz9, c0, c1, c2, (by intros; exact hv _ _ (by apply c3 <;> assumption)), (by intros; exact hv _ _ (by apply c4 <;> assumption)), (by intros; exact hv _ _ (by apply c5 <;> assumption)), (by intros; exact hv _ _ (by apply c6 <;> assumption))⟩
theorem mo_X12_most {as : List zV} {M : zM} {Q Q' : Option zV → zM → Prop} (hv : ∀ (v : Int) N, Q (some (zL v)) N → Q' (some (zL v)) N) (g : sp_X12_most as M Q) : sp_X12_most as M Q' := by
  obtain ⟨B, n, zz9, c0, c1, c2, c3, c4, c5, c6⟩ := g
  exact ⟨B, n, zz9, c0, c1, c2, c3, c4, (by intros; exact hv _ _ (by apply c5 <;> assumption)), (by intros; exact hv _ _ (by apply c6 <;> assumption))⟩
theorem mo_X12_serve {as : List zV} {M : zM} {Q Q' : Option zV → zM → Prop} (hv : ∀ (v : Int) N, Q (some (zI v)) N → Q' (some (zI v)) N) (g : sp_X12_serve as M Q) : sp_X12_serve as M Q' := by
  obtain ⟨B, n, b, zz9, c0, c1, c2, c3, c4, c5, c6, c7⟩ := g
  exact ⟨B, n, b, zz9, c0, c1, c2, c3, c4, (by intros; exact hv _ _ (by apply c5 <;> assumption)), (by intros; exact hv _ _ (by apply c6 <;> assumption)), (by intros; exact hv _ _ (by apply c7 <;> assumption))⟩
theorem mo_X12_machine {as : List zV} {M : zM} {Q Q' : Option zV → zM → Prop} (hv : ∀ (v : Int) N, Q (some (zI v)) N → Q' (some (zI v)) N) (g : sp_X12_machine as M Q) : sp_X12_machine as M Q' := by
  obtain ⟨a, b, zz9, c0, c1, c2, c3⟩ := g
  exact ⟨a, b, zz9, c0, (by intros; exact hv _ _ (by apply c1 <;> assumption)), (by intros; exact hv _ _ (by apply c2 <;> assumption)), (by intros; exact hv _ _ (by apply c3 <;> assumption))⟩
theorem mo_X12_rounds {as : List zV} {M : zM} {Q Q' : Option zV → zM → Prop} (hv : ∀ (v : Int) N, Q (some (zI v)) N → Q' (some (zI v)) N) (g : sp_X12_rounds as M Q) : sp_X12_rounds as M Q' := by
  obtain ⟨h, d, zz9, c0, c1, c2, c3, c4⟩ := g
  exact ⟨h, d, zz9, c0, (by intros; exact hv _ _ (by apply c1 <;> assumption)), (by intros; exact hv _ _ (by apply c2 <;> assumption)), (by intros; exact hv _ _ (by apply c3 <;> assumption)), (by intros; exact hv _ _ (by apply c4 <;> assumption))⟩
theorem mo_X12_tray {as : List zV} {M : zM} {Q Q' : Option zV → zM → Prop} (hv : ∀ N, Q none N → Q' none N) (g : sp_X12_tray as M Q) : sp_X12_tray as M Q' := by
  obtain ⟨t, s, m, zz9, c0, c1, c2⟩ := g
  exact ⟨t, s, m, zz9, (by intros; exact hv _ (by apply c0 <;> assumption)), (by intros; exact hv _ (by apply c1 <;> assumption)), (by intros; exact hv _ (by apply c2 <;> assumption))⟩
theorem mo_X12_write {as : List zV} {M : zM} {Q Q' : Option zV → zM → Prop} (hv : ∀ (v : Int) N, Q (some (zL v)) N → Q' (some (zL v)) N) (g : sp_X12_write as M Q) : sp_X12_write as M Q' := by
  obtain ⟨t, p, v, zz9, c0, c1, c2, c3, c4, c5⟩ := g
  exact ⟨t, p, v, zz9, c0, c1, (by intros; exact hv _ _ (by apply c2 <;> assumption)), (by intros; exact hv _ _ (by apply c3 <;> assumption)), (by intros; exact hv _ _ (by apply c4 <;> assumption)), (by intros; exact hv _ _ (by apply c5 <;> assumption))⟩
theorem mo_X12_pour {as : List zV} {M : zM} {Q Q' : Option zV → zM → Prop} (hv : ∀ (v : Int) N, Q (some (zI v)) N → Q' (some (zI v)) N) (g : sp_X12_pour as M Q) : sp_X12_pour as M Q' := by
  obtain ⟨t, u, zz9, c0, c1, c2, c3, c4, c5, c6, c7⟩ := g
  exact ⟨t, u, zz9, c0, c1, c2, (by intros; exact hv _ _ (by apply c3 <;> assumption)), (by intros; exact hv _ _ (by apply c4 <;> assumption)), (by intros; exact hv _ _ (by apply c5 <;> assumption)), (by intros; exact hv _ _ (by apply c6 <;> assumption)), (by intros; exact hv _ _ (by apply c7 <;> assumption))⟩
theorem mo_X12_image {as : List zV} {M : zM} {Q Q' : Option zV → zM → Prop} (hv : ∀ N, Q none N → Q' none N) (g : sp_X12_image as M Q) : sp_X12_image as M Q' := by
  obtain ⟨i, zz9, c0, c1⟩ := g
  exact ⟨i, zz9, (by intros; exact hv _ (by apply c0 <;> assumption)), (by intros; exact hv _ (by apply c1 <;> assumption))⟩
theorem mo_X12_restore {as : List zV} {M : zM} {Q Q' : Option zV → zM → Prop} (hv : ∀ N, Q none N → Q' none N) (g : sp_X12_restore as M Q) : sp_X12_restore as M Q' := by
  obtain ⟨i, zz9, c0, c1, c2⟩ := g
  exact ⟨i, zz9, (by intros; exact hv _ (by apply c0 <;> assumption)), (by intros; exact hv _ (by apply c1 <;> assumption)), (by intros; exact hv _ (by apply c2 <;> assumption))⟩
theorem mo_X12_count {as : List zV} {M : zM} {Q Q' : Option zV → zM → Prop} (hv : ∀ (v : Int) N, Q (some (zI v)) N → Q' (some (zI v)) N) (g : sp_X12_count as M Q) : sp_X12_count as M Q' := by
  obtain ⟨w, zz9, c0⟩ := g
  exact ⟨w, zz9, (by intros; exact hv _ _ (by apply c0 <;> assumption))⟩
end
