section
set_option maxRecDepth 20000 in
set_option maxHeartbeats 4000000 in
theorem law_head {E : zE} {X : zX} {L i : Nat} {xs : Nat → Int32} {M : zM} (S : zS (zg E) X cL_law 8 wzLaw RL (some .boolean)) (hs : zSc (zg E) X L xs) (hL : L ≤ 3584) (hi : i ≤ 512) (g : RR (24 * (i : Int)) M) (hT : 7 * i + 7 ≤ L → ∀ M', RR (24 * (i : Int) + 24) M' → zK (zg E) room_1 8 (lawQ, 601024, 7293034) X (1000 + 10 * i + 10, 100000 + 60 * i + 60) 2987 [some (zR 2000), some (zR 0), some (zR 180), some (zR 201), some (zI (7 * (i : Int))), none, none, none] [] M') : zK (zg E) room_1 8 (lawQ, 601024, 7293034) X (1000 + 10 * i, 100000 + 60 * i) 23 [some (zR 2000), some (zR 0), some (zR 180), some (zR 201), some (zI (7 * (i : Int))), none, none, none] [] M := by
  refine zr_iload (pc := 23) S dL_law_23 rfl ?_
  refine zr_aload_n (pc := 25) S dL_law_25 rfl ?_
  refine zr_slen (pc := 26) S hs dL_law_26 hL ?_
  refine zr_bipush (pc := 27) S dL_law_27 ⟨by unfold zrI; omega, by decide⟩ ?_
  refine zr_isub (pc := 29) S dL_law_29 (by unfold zrI; omega) ?_
  refine zr_icmp_gt (pc := 30) (tgt := 2993) S dL_law_30 (by decide) (fun c => ?_) (fun c => ?_)
  · refine zr_iconst (pc := 2993) S dL_law_2993 (by unfold zrI; omega) ?_
    exact zr_zret (pc := 2994) S dL_law_2994 rfl (Or.inr rfl) ⟨by show _ ≤ 601024; omega, by show _ ≤ 7293034; omega⟩ rfl
  have h7 : 7 * i + 7 ≤ L := by omega
  have hT := hT h7
  have hbb : (1000 + 10 * i, 100000 + 60 * i).1 ≤ 100000 ∧ (1000 + 10 * i, 100000 + 60 * i).2 ≤ 1000000 := ⟨by show 1000 + 10 * i ≤ 100000; omega, by show 100000 + 60 * i ≤ 1000000; omega⟩
  refine zr_aload_n (pc := 33) S dL_law_33 rfl ?_
  refine zr_iload (pc := 34) S dL_law_34 rfl ?_
  refine zr_sld (pc := 36) S hs dL_law_36 (by omega) (by omega) ?_
  refine zr_bipush (pc := 37) S dL_law_37 ⟨by unfold zrI; omega, by decide⟩ ?_
  refine zr_iandm (pc := 39) S 6 dL_law_39 (by decide) rfl ?_
  generalize (xs (7 * (i : Int)).toNat).toInt % 2 ^ 6 = w
  by_cases w0 : w = 0
  · refine zr_tswIn (pc := 40) (tgt := 232) (off := 192) S dL_law_40 (by omega) (by omega) (by rw [w0]; rfl) (by decide) ?_
    exact ca_sort S hs (by omega) (by omega) hL g (by omega) hbb hT
  by_cases w1 : w = 1
  · refine zr_tswIn (pc := 40) (tgt := 312) (off := 272) S dL_law_40 (by omega) (by omega) (by rw [w1]; rfl) (by decide) ?_
    exact ca_span S hs (by omega) (by omega) hL g (by omega) hbb hT
  by_cases w2 : w = 2
  · refine zr_tswIn (pc := 40) (tgt := 384) (off := 344) S dL_law_40 (by omega) (by omega) (by rw [w2]; rfl) (by decide) ?_
    exact ca_wear S hs (by omega) (by omega) hL g (by omega) hbb hT
  by_cases w3 : w = 3
  · refine zr_tswIn (pc := 40) (tgt := 452) (off := 412) S dL_law_40 (by omega) (by omega) (by rw [w3]; rfl) (by decide) ?_
    exact ca_flow S hs (by omega) (by omega) hL g (by omega) hbb hT
  by_cases w4 : w = 4
  · refine zr_tswIn (pc := 40) (tgt := 520) (off := 480) S dL_law_40 (by omega) (by omega) (by rw [w4]; rfl) (by decide) ?_
    exact ca_set S hs (by omega) (by omega) hL g (by omega) hbb hT
  by_cases w5 : w = 5
  · refine zr_tswIn (pc := 40) (tgt := 588) (off := 548) S dL_law_40 (by omega) (by omega) (by rw [w5]; rfl) (by decide) ?_
    exact ca_good S hs (by omega) (by omega) hL g (by omega) hbb hT
  by_cases w6 : w = 6
  · refine zr_tswIn (pc := 40) (tgt := 651) (off := 611) S dL_law_40 (by omega) (by omega) (by rw [w6]; rfl) (by decide) ?_
    exact ca_feed S hs (by omega) (by omega) hL g (by omega) hbb hT
  by_cases w7 : w = 7
  · refine zr_tswIn (pc := 40) (tgt := 724) (off := 684) S dL_law_40 (by omega) (by omega) (by rw [w7]; rfl) (by decide) ?_
    exact ca_text S hs (by omega) (by omega) hL g (by omega) hbb hT
  by_cases w8 : w = 8
  · refine zr_tswIn (pc := 40) (tgt := 780) (off := 740) S dL_law_40 (by omega) (by omega) (by rw [w8]; rfl) (by decide) ?_
    exact ca_fault S hs (by omega) (by omega) hL g (by omega) hbb hT
  by_cases w9 : w = 9
  · refine zr_tswIn (pc := 40) (tgt := 805) (off := 765) S dL_law_40 (by omega) (by omega) (by rw [w9]; rfl) (by decide) ?_
    exact ca_gate S hs (by omega) (by omega) hL g (by omega) hbb hT
  by_cases w10 : w = 10
  · refine zr_tswIn (pc := 40) (tgt := 873) (off := 833) S dL_law_40 (by omega) (by omega) (by rw [w10]; rfl) (by decide) ?_
    exact ca_taken S hs (by omega) (by omega) hL g (by omega) hbb hT
  by_cases w11 : w = 11
  · refine zr_tswIn (pc := 40) (tgt := 953) (off := 913) S dL_law_40 (by omega) (by omega) (by rw [w11]; rfl) (by decide) ?_
    exact ca_coins S hs (by omega) (by omega) hL g (by omega) hbb hT
  by_cases w12 : w = 12
  · refine zr_tswIn (pc := 40) (tgt := 1008) (off := 968) S dL_law_40 (by omega) (by omega) (by rw [w12]; rfl) (by decide) ?_
    exact ca_passes S hs (by omega) (by omega) hL g (by omega) hbb hT
  by_cases w13 : w = 13
  · refine zr_tswIn (pc := 40) (tgt := 1075) (off := 1035) S dL_law_40 (by omega) (by omega) (by rw [w13]; rfl) (by decide) ?_
    exact ca_wrong S hs (by omega) (by omega) hL g (by omega) hbb hT
  by_cases w14 : w = 14
  · refine zr_tswIn (pc := 40) (tgt := 1130) (off := 1090) S dL_law_40 (by omega) (by omega) (by rw [w14]; rfl) (by decide) ?_
    exact ca_loss S hs (by omega) (by omega) hL g (by omega) hbb hT
  by_cases w15 : w = 15
  · refine zr_tswIn (pc := 40) (tgt := 1209) (off := 1169) S dL_law_40 (by omega) (by omega) (by rw [w15]; rfl) (by decide) ?_
    exact ca_best S hs (by omega) (by omega) hL g (by omega) hbb hT
  by_cases w16 : w = 16
  · refine zr_tswIn (pc := 40) (tgt := 1276) (off := 1236) S dL_law_40 (by omega) (by omega) (by rw [w16]; rfl) (by decide) ?_
    exact ca_move S hs (by omega) (by omega) hL g (by omega) hbb hT
  by_cases w17 : w = 17
  · refine zr_tswIn (pc := 40) (tgt := 1363) (off := 1323) S dL_law_40 (by omega) (by omega) (by rw [w17]; rfl) (by decide) ?_
    exact ca_offer S hs (by omega) (by omega) hL g (by omega) hbb hT
  by_cases w18 : w = 18
  · refine zr_tswIn (pc := 40) (tgt := 1419) (off := 1379) S dL_law_40 (by omega) (by omega) (by rw [w18]; rfl) (by decide) ?_
    exact ca_price S hs (by omega) (by omega) hL g (by omega) hbb hT
  by_cases w19 : w = 19
  · refine zr_tswIn (pc := 40) (tgt := 1487) (off := 1447) S dL_law_40 (by omega) (by omega) (by rw [w19]; rfl) (by decide) ?_
    exact ca_load S hs (by omega) (by omega) hL g (by omega) hbb hT
  by_cases w20 : w = 20
  · refine zr_tswIn (pc := 40) (tgt := 1567) (off := 1527) S dL_law_40 (by omega) (by omega) (by rw [w20]; rfl) (by decide) ?_
    exact ca_put S hs (by omega) (by omega) hL g (by omega) hbb hT
  by_cases w21 : w = 21
  · refine zr_tswIn (pc := 40) (tgt := 1671) (off := 1631) S dL_law_40 (by omega) (by omega) (by rw [w21]; rfl) (by decide) ?_
    exact ca_credit S hs (by omega) (by omega) hL g (by omega) hbb hT
  by_cases w22 : w = 22
  · refine zr_tswIn (pc := 40) (tgt := 1684) (off := 1644) S dL_law_40 (by omega) (by omega) (by rw [w22]; rfl) (by decide) ?_
    exact ca_sale S hs (by omega) (by omega) hL g (by omega) hbb hT
  by_cases w23 : w = 23
  · refine zr_tswIn (pc := 40) (tgt := 1740) (off := 1700) S dL_law_40 (by omega) (by omega) (by rw [w23]; rfl) (by decide) ?_
    exact ca_refund S hs (by omega) (by omega) hL g (by omega) hbb hT
  by_cases w24 : w = 24
  · refine zr_tswIn (pc := 40) (tgt := 1753) (off := 1713) S dL_law_40 (by omega) (by omega) (by rw [w24]; rfl) (by decide) ?_
    exact ca_given S hs (by omega) (by omega) hL g (by omega) hbb hT
  by_cases w25 : w = 25
  · refine zr_tswIn (pc := 40) (tgt := 1778) (off := 1738) S dL_law_40 (by omega) (by omega) (by rw [w25]; rfl) (by decide) ?_
    exact ca_tube S hs (by omega) (by omega) hL g (by omega) hbb hT
  by_cases w26 : w = 26
  · refine zr_tswIn (pc := 40) (tgt := 1846) (off := 1806) S dL_law_40 (by omega) (by omega) (by rw [w26]; rfl) (by decide) ?_
    exact ca_bag S hs (by omega) (by omega) hL g (by omega) hbb hT
  by_cases w27 : w = 27
  · refine zr_tswIn (pc := 40) (tgt := 1902) (off := 1862) S dL_law_40 (by omega) (by omega) (by rw [w27]; rfl) (by decide) ?_
    exact ca_empty S hs (by omega) (by omega) hL g (by omega) hbb hT
  by_cases w28 : w = 28
  · refine zr_tswIn (pc := 40) (tgt := 1958) (off := 1918) S dL_law_40 (by omega) (by omega) (by rw [w28]; rfl) (by decide) ?_
    exact ca_lacks S hs (by omega) (by omega) hL g (by omega) hbb hT
  by_cases w29 : w = 29
  · refine zr_tswIn (pc := 40) (tgt := 2026) (off := 1986) S dL_law_40 (by omega) (by omega) (by rw [w29]; rfl) (by decide) ?_
    exact ca_made S hs (by omega) (by omega) hL g (by omega) hbb hT
  by_cases w30 : w = 30
  · refine zr_tswIn (pc := 40) (tgt := 2082) (off := 2042) S dL_law_40 (by omega) (by omega) (by rw [w30]; rfl) (by decide) ?_
    exact ca_wheel S hs (by omega) (by omega) hL g (by omega) hbb hT
  by_cases w31 : w = 31
  · refine zr_tswIn (pc := 40) (tgt := 2150) (off := 2110) S dL_law_40 (by omega) (by omega) (by rw [w31]; rfl) (by decide) ?_
    exact ca_cost S hs (by omega) (by omega) hL g (by omega) hbb hT
  by_cases w32 : w = 32
  · refine zr_tswIn (pc := 40) (tgt := 2218) (off := 2178) S dL_law_40 (by omega) (by omega) (by rw [w32]; rfl) (by decide) ?_
    exact ca_explain S hs (by omega) (by omega) hL g (by omega) hbb hT
  by_cases w33 : w = 33
  · refine zr_tswIn (pc := 40) (tgt := 2274) (off := 2234) S dL_law_40 (by omega) (by omega) (by rw [w33]; rfl) (by decide) ?_
    exact ca_buyer S hs (by omega) (by omega) hL g (by omega) hbb hT
  by_cases w34 : w = 34
  · refine zr_tswIn (pc := 40) (tgt := 2392) (off := 2352) S dL_law_40 (by omega) (by omega) (by rw [w34]; rfl) (by decide) ?_
    exact ca_most S hs (by omega) (by omega) hL g (by omega) hbb hT
  by_cases w35 : w = 35
  · refine zr_tswIn (pc := 40) (tgt := 2447) (off := 2407) S dL_law_40 (by omega) (by omega) (by rw [w35]; rfl) (by decide) ?_
    exact ca_serve S hs (by omega) (by omega) hL g (by omega) hbb hT
  by_cases w36 : w = 36
  · refine zr_tswIn (pc := 40) (tgt := 2515) (off := 2475) S dL_law_40 (by omega) (by omega) (by rw [w36]; rfl) (by decide) ?_
    exact ca_machine S hs (by omega) (by omega) hL g (by omega) hbb hT
  by_cases w37 : w = 37
  · refine zr_tswIn (pc := 40) (tgt := 2583) (off := 2543) S dL_law_40 (by omega) (by omega) (by rw [w37]; rfl) (by decide) ?_
    exact ca_rounds S hs (by omega) (by omega) hL g (by omega) hbb hT
  by_cases w38 : w = 38
  · refine zr_tswIn (pc := 40) (tgt := 2651) (off := 2611) S dL_law_40 (by omega) (by omega) (by rw [w38]; rfl) (by decide) ?_
    exact ca_tray S hs (by omega) (by omega) hL g (by omega) hbb hT
  by_cases w39 : w = 39
  · refine zr_tswIn (pc := 40) (tgt := 2711) (off := 2671) S dL_law_40 (by omega) (by omega) (by rw [w39]; rfl) (by decide) ?_
    exact ca_write S hs (by omega) (by omega) hL g (by omega) hbb hT
  by_cases w40 : w = 40
  · refine zr_tswIn (pc := 40) (tgt := 2822) (off := 2782) S dL_law_40 (by omega) (by omega) (by rw [w40]; rfl) (by decide) ?_
    exact ca_pour S hs (by omega) (by omega) hL g (by omega) hbb hT
  by_cases w41 : w = 41
  · refine zr_tswIn (pc := 40) (tgt := 2890) (off := 2850) S dL_law_40 (by omega) (by omega) (by rw [w41]; rfl) (by decide) ?_
    exact ca_image S hs (by omega) (by omega) hL g (by omega) hbb hT
  by_cases w42 : w = 42
  · refine zr_tswIn (pc := 40) (tgt := 2926) (off := 2886) S dL_law_40 (by omega) (by omega) (by rw [w42]; rfl) (by decide) ?_
    exact ca_restore S hs (by omega) (by omega) hL g (by omega) hbb hT
  by_cases w43 : w = 43
  · refine zr_tswIn (pc := 40) (tgt := 2962) (off := 2922) S dL_law_40 (by omega) (by omega) (by rw [w43]; rfl) (by decide) ?_
    exact ca_count S hs (by omega) (by omega) hL g (by omega) hbb hT
  refine zr_tswOut (pc := 40) (tgt := 2987) S dL_law_40 (by omega) (by decide) ?_
  exact zr_wd ⟨by show 1000 + 10 * i ≤ _; omega, by show 100000 + 60 * i ≤ _; omega⟩ (hT M (g.w (by omega)))
theorem lp_law {E : zE} {X : zX} {L : Nat} {xs : Nat → Int32} (S : zS (zg E) X cL_law 8 wzLaw RL (some .boolean)) (hs : zSc (zg E) X L xs) (hL : L ≤ 3584) : ∀ (n i : Nat) (M : zM), i ≤ 512 → L ≤ 7 * (i + n) + 6 → RR (24 * (i : Int)) M → zK (zg E) room_1 8 (lawQ, 601024, 7293034) X (1000 + 10 * i, 100000 + 60 * i) 23 [some (zR 2000), some (zR 0), some (zR 180), some (zR 201), some (zI (7 * (i : Int))), none, none, none] [] M
  | 0, i, M, hi, hn, g => law_head S hs hL hi g (fun h => absurd h (by omega))
  | n + 1, i, M, hi, hn, g => law_head S hs hL hi g (fun h M' g' => by
    refine zr_iinc (pc := 2987) S dL_law_2987 rfl (by unfold zrI; omega) (by decide) ?_
    dsimp only [zst1, zst2, zset, zget, zlong]
    refine zr_goto (pc := 2990) (tgt := 23) S dL_law_2990 (by decide) ?_
    have ih := lp_law S hs hL n (i + 1) M' (by omega) (by omega) (by rw [show 24 * ((i + 1 : Nat) : Int) = 24 * (i : Int) + 24 by omega]; exact g')
    rw [show 7 * ((i + 1 : Nat) : Int) = 7 * (i : Int) + 7 by omega, show 1000 + 10 * (i + 1) = 1000 + 10 * i + 10 by omega, show 100000 + 60 * (i + 1) = 100000 + 60 * i + 60 by omega] at ih
    exact ih)
end
