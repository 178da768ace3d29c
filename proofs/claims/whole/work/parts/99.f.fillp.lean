section
/-- the machines to be filled, day by day -/
def pth (V : zM) : Nat → Nat → Nat → Int
  | 0, _, _ => 0
  | d + 1, c, 0 => ff V d c
  | d + 1, c, i + 1 => pth V d (nxU V c (ff V d c).toNat (nM V)) i
def pw (V : zM) (P : Nat → Int) (d c day m k : Nat) : Int := if k < day then P k else if k = day then (m : Int) else pth V d (nxU V c m (nM V)) (k - day - 1)
def FI (V : zM) (B : Int) (F P : Nat → Int) (d c day h dry m : Nat) (b : Int) (best : Nat → Int) : Prop :=
  (0 < m ∧ (B = -1 ∨ (dry : Int) + (mnU (dryW V d c) m : Nat) < B) ∧ b = (dry : Int) + (mnU (dryW V d c) m : Nat) ∧ ∀ k, k < h → best k = pw V P d c day (ffU (dryW V d c) (mnU (dryW V d c) m) m).toNat k) ∨ (¬ (0 < m ∧ (B = -1 ∨ (dry : Int) + (mnU (dryW V d c) m : Nat) < B)) ∧ b = B ∧ ∀ k, k < h → best k = F k)
def FR (V : zM) (B : Int) (F P : Nat → Int) (d c day h dry : Nat) (b : Int) (best : Nat → Int) : Prop :=
  ((B = -1 ∨ (dry : Int) + (lst V d c : Nat) < B) ∧ b = (dry : Int) + (lst V d c : Nat) ∧ ∀ k, k < h → best k = if k < day then P k else pth V d c (k - day)) ∨ (¬ (B = -1 ∨ (dry : Int) + (lst V d c : Nat) < B) ∧ b = B ∧ ∀ k, k < h → best k = F k)
theorem ffU_new {f : Nat → Nat} {m : Nat} (h : f m < mnU f m) : ffU f (f m) (m + 1) = m := by
  have e : ffU f (f m) m = -1 := by
    have r := ffU_r f (f m) m
    apply Classical.byContradiction
    intro z
    have key : ∀ n, n ≤ m → ffU f (f m) n = -1 := fun n => by
      induction n with
      | zero => intro _; rfl
      | succ n ih =>
        intro hn
        have := mnU_le (f := f) (i := n) m (by omega)
        simp only [ffU]
        rw [if_pos (ih (by omega)), if_neg (by omega)]
    exact z (key m (Nat.le_refl _))
  simp only [ffU]
  rw [if_pos e, if_pos trivial]
theorem ffU_old {f : Nat → Nat} {m : Nat} (h63 : ∀ i, f i < 63) (hm : 0 < m) (h : mnU f m ≤ f m) : ffU f (mnU f m) (m + 1) = ffU f (mnU f m) m := by
  have ne : ffU f (mnU f m) m ≠ -1 := fun z => by
    rcases mnU_at (f := f) m with g | ⟨i, h2, h3⟩
    · have := mnU_le (f := f) (i := 0) m hm
      have := h63 0
      omega
    · exact ffU_n m z i h2 h3
  exact ffU_i ne (m + 1) (by omega)
theorem FI_0 {V : zM} {B : Int} {F P : Nat → Int} {d c day h dry : Nat} : FI V B F P d c day h dry 0 B F := Or.inr ⟨fun z => by omega, rfl, fun _ _ => rfl⟩
theorem FI_s {V : zM} {B b b' : Int} {F P P' best best' : Nat → Int} {d c day h dry m : Nat} (h63 : ∀ i, dryW V d c i < 63) (hi : FI V B F P d c day h dry m b best) (hP : ∀ k, k < day → P' k = P k) (hPd : P' day = m) (hr : FR V b best P' d (nxU V c m (nM V)) (day + 1) h (dry + drU V c m (nM V)) b' best') (hB : B = -1 ∨ 0 ≤ B) : FI V B F P d c day h dry (m + 1) b' best' := by
  have ef : drU V c m (nM V) + lst V d (nxU V c m (nM V)) = dryW V d c m := rfl
  have e63 := h63 m
  have m63 := mnU_63 (dryW V d c) m
  have em : mnU (dryW V d c) (m + 1) = min (mnU (dryW V d c) m) (dryW V d c m) := rfl
  have m0 : m = 0 → mnU (dryW V d c) m = 63 := fun z => by rw [z]; rfl
  have pwn : ∀ k, (if k < day + 1 then P' k else pth V d (nxU V c m (nM V)) (k - (day + 1))) = pw V P d c day m k := fun k => by
    unfold pw
    by_cases c1 : k < day
    · rw [if_pos (by omega), if_pos c1, hP k c1]
    · rw [if_neg c1]
      by_cases c2 : k = day
      · rw [if_pos (by omega), if_pos c2, c2, hPd]
      · rw [if_neg (by omega), if_neg c2, show k - (day + 1) = k - day - 1 by omega]
  rcases hr with ⟨r1, r2, r3⟩ | ⟨r1, r2, r3⟩
  · -- the new one is better
    have lt : dryW V d c m < mnU (dryW V d c) m := by
      rcases hi with ⟨i1, i2, i3, i4⟩ | ⟨i1, i3, i4⟩
      · omega
      · by_cases z : m = 0
        · have := m0 z; omega
        · have : ¬ (B = -1 ∨ (dry : Int) + (mnU (dryW V d c) m : Nat) < B) := fun y => i1 ⟨by omega, y⟩
          omega
    have e1 : mnU (dryW V d c) (m + 1) = dryW V d c m := by omega
    refine Or.inl ⟨by omega, ?_, ?_, fun k hk => ?_⟩
    · rw [e1]
      rcases hi with ⟨i1, i2, i3, i4⟩ | ⟨i1, i3, i4⟩ <;> omega
    · rw [e1, r2]; omega
    · rw [e1, ffU_new lt, Int.toNat_natCast, r3 k hk, pwn k]
  · rcases hi with ⟨i1, i2, i3, i4⟩ | ⟨i1, i3, i4⟩
    · have le : mnU (dryW V d c) m ≤ dryW V d c m := by omega
      have e1 : mnU (dryW V d c) (m + 1) = mnU (dryW V d c) m := by omega
      refine Or.inl ⟨by omega, by rw [e1]; exact i2, by rw [e1, r2]; exact i3, fun k hk => ?_⟩
      rw [e1, ffU_old h63 i1 le, r3 k hk, i4 k hk]
    · refine Or.inr ⟨fun z => ?_, by rw [r2, i3], fun k hk => by rw [r3 k hk, i4 k hk]⟩
      rw [em] at z
      by_cases z0 : m = 0
      · have := m0 z0; omega
      · have : ¬ (B = -1 ∨ (dry : Int) + (mnU (dryW V d c) m : Nat) < B) := fun y => i1 ⟨by omega, y⟩
        omega
theorem FI_e {V : zM} {B b : Int} {F P best : Nat → Int} {d c day h dry : Nat} (hm : ICm V) (h1 : 1 ≤ nM V) (hd : d < 8) (hi : FI V B F P d c day h dry (nM V) b best) : FR V B F P (d + 1) c day h dry b best := by
  have el : mnU (dryW V d c) (nM V) = lst V (d + 1) c := rfl
  have ef : ffU (dryW V d c) (lst V (d + 1) c) (nM V) = ff V d c := rfl
  have fr := ff_r hm h1 (c := c) hd
  unfold FI at hi
  rw [el, ef] at hi
  rcases hi with ⟨i1, i2, i3, i4⟩ | ⟨i1, i3, i4⟩
  · refine Or.inl ⟨i2, i3, fun k hk => ?_⟩
    rw [i4 k hk]
    unfold pw
    by_cases c1 : k < day
    · rw [if_pos c1, if_pos c1]
    · rw [if_neg c1, if_neg c1]
      by_cases c2 : k = day
      · rw [if_pos c2, c2, Nat.sub_self]
        show _ = ff V d c
        omega
      · rw [if_neg c2]
        obtain ⟨j, hj⟩ : ∃ j, k - day = j + 1 := ⟨k - day - 1, by omega⟩
        rw [hj, show j + 1 - 1 = j by omega]
        rfl
  · exact Or.inr ⟨fun z => i1 ⟨by omega, z⟩, i3, i4⟩
theorem pth_c {V : zM} {h : Nat} : ∀ d i c0, (i : Nat) < d → d ≤ h → c0 = cdD V h (h - d) → pth V d c0 i = ff V (h - (h - d + i) - 1) (cdD V h (h - d + i))
  | 0, i, _, hi, _, _ => absurd hi (by omega)
  | d + 1, 0, c0, hi, hh, hc => by
    show ff V d c0 = _
    rw [Nat.add_zero, hc, show h - (h - (d + 1)) - 1 = d by omega]
  | d + 1, i + 1, c0, hi, hh, hc => by
    show pth V d (nxU V c0 (ff V d c0).toNat (nM V)) i = _
    have e : nxU V c0 (ff V d c0).toNat (nM V) = cdD V h (h - d) := by
      rw [show h - d = h - (d + 1) + 1 by omega, hc]
      show _ = nxU V (cdD V h (h - (d + 1))) (ff V (h - (h - (d + 1)) - 1) (cdD V h (h - (d + 1)))).toNat (nM V)
      rw [show h - (h - (d + 1)) - 1 = d by omega]
    have := pth_c (V := V) (h := h) d i (nxU V c0 (ff V d c0).toNat (nM V)) (by omega) (by omega) e
    rw [this, show h - d + i = h - (d + 1) + (i + 1) by omega]
end
