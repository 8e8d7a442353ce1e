set_option maxRecDepth 100000 in
set_option maxHeartbeats 4000000 in
theorem lw_loop {X : zX} {E : zE} (hL : zsl E ≤ 3072) : ∀ (k : Nat) (N : Int) (μ : zM), 0 ≤ N → 6 * N ≤ (zsl E : Int) → (zsl E : Int) - 6 * N < k → zRel N μ → MW X E cL_law RL room_1 (some .boolean) zLp 18 [zR 9002, zR 0, zR 393, zI (6 * N)] [] μ := by
  intro k
  induction k with
  | zero => intro N μ h0 h1 h2 h; exact absurd h2 (by omega)
  | succ k ih =>
    intro N μ h0 h1 h2 h
    have hN : N ≤ 100000 := by omega
    refine z_iload_3 dL_law_18 ?_
    refine z_aload_0 dL_law_19 ?_
    refine z_slen (by omega) dL_law_20 ?_
    refine z_bipush dL_law_21 (by decide) ?_
    refine z_isub dL_law_23 (by omega) ?_
    refine z_icmpgt (tgt := 1305) dL_law_24 (by decide) (fun _ => ?_) (fun h3 => ?_)
    · refine z_iconst dL_law_1305 (by decide) ?_
      exact z_zret (Or.inr rfl) dL_law_1306 (show some (zI 1) = some (zI 1) from rfl)
    · have back : ∀ ξ, zRel (N + 1) ξ → MW X E cL_law RL room_1 (some .boolean) zLp 1299 [zR 9002, zR 0, zR 393, zI (6 * N)] [] ξ := fun ξ hx => by
        refine z_iinc_3 rfl dL_law_1299 (by omega) ?_
        refine z_goto (tgt := 18) dL_law_1302 (by decide) ?_
        have q := ih (N + 1) ξ (by omega) (by omega) (by omega) hx
        rw [show 6 * (N + 1) = 6 * N + 6 by omega] at q
        exact q
      refine z_aload_0 dL_law_27 ?_
      refine z_iload_3 dL_law_28 ?_
      refine z_sld (by omega) (by omega) dL_law_29 ?_
      refine z_bipush dL_law_30 (by decide) ?_
      refine z_iand dL_law_32 ?_
      generalize zand ((zsx E (6 * N).toNat).toInt) 63 = w
      by_cases hs_0 : w = 0
      · subst hs_0
        exact z_tabIn (tgt := 192) dL_law_33 (by decide) (by decide) rfl (by decide) (lw_wall h hN (by omega) (by omega) hL back)
      by_cases hs_1 : w = 1
      · subst hs_1
        exact z_tabIn (tgt := 241) dL_law_33 (by decide) (by decide) rfl (by decide) (lw_board h hN (by omega) (by omega) hL back)
      by_cases hs_2 : w = 2
      · subst hs_2
        exact z_tabIn (tgt := 274) dL_law_33 (by decide) (by decide) rfl (by decide) (lw_put h hN (by omega) (by omega) hL back)
      by_cases hs_3 : w = 3
      · subst hs_3
        exact z_tabIn (tgt := 307) dL_law_33 (by decide) (by decide) rfl (by decide) (lw_bed h hN (by omega) (by omega) hL back)
      by_cases hs_4 : w = 4
      · subst hs_4
        exact z_tabIn (tgt := 330) dL_law_33 (by decide) (by decide) rfl (by decide) (lw_sleeper h hN (by omega) (by omega) hL back)
      by_cases hs_5 : w = 5
      · subst hs_5
        exact z_tabIn (tgt := 393) dL_law_33 (by decide) (by decide) rfl (by decide) (lw_lie h hN (by omega) (by omega) hL back)
      by_cases hs_6 : w = 6
      · subst hs_6
        exact z_tabIn (tgt := 426) dL_law_33 (by decide) (by decide) rfl (by decide) (lw_sound h hN (by omega) (by omega) hL back)
      by_cases hs_7 : w = 7
      · subst hs_7
        exact z_tabIn (tgt := 489) dL_law_33 (by decide) (by decide) rfl (by decide) (lw_still h hN (by omega) (by omega) hL back)
      by_cases hs_8 : w = 8
      · subst hs_8
        exact z_tabIn (tgt := 502) dL_law_33 (by decide) (by decide) rfl (by decide) (lw_type h hN (by omega) (by omega) hL back)
      by_cases hs_9 : w = 9
      · subst hs_9
        exact z_tabIn (tgt := 565) dL_law_33 (by decide) (by decide) rfl (by decide) (lw_clear h hN (by omega) (by omega) hL back)
      by_cases hs_10 : w = 10
      · subst hs_10
        exact z_tabIn (tgt := 578) dL_law_33 (by decide) (by decide) rfl (by decide) (lw_house h hN (by omega) (by omega) hL back)
      by_cases hs_11 : w = 11
      · subst hs_11
        exact z_tabIn (tgt := 591) dL_law_33 (by decide) (by decide) rfl (by decide) (lw_distance h hN (by omega) (by omega) hL back)
      by_cases hs_12 : w = 12
      · subst hs_12
        exact z_tabIn (tgt := 624) dL_law_33 (by decide) (by decide) rfl (by decide) (lw_heard h hN (by omega) (by omega) hL back)
      by_cases hs_13 : w = 13
      · subst hs_13
        exact z_tabIn (tgt := 677) dL_law_33 (by decide) (by decide) rfl (by decide) (lw_slept h hN (by omega) (by omega) hL back)
      by_cases hs_14 : w = 14
      · subst hs_14
        exact z_tabIn (tgt := 700) dL_law_33 (by decide) (by decide) rfl (by decide) (lw_is h hN (by omega) (by omega) hL back)
      by_cases hs_15 : w = 15
      · subst hs_15
        exact z_tabIn (tgt := 733) dL_law_33 (by decide) (by decide) rfl (by decide) (lw_wakes h hN (by omega) (by omega) hL back)
      by_cases hs_16 : w = 16
      · subst hs_16
        exact z_tabIn (tgt := 766) dL_law_33 (by decide) (by decide) rfl (by decide) (lw_woke h hN (by omega) (by omega) hL back)
      by_cases hs_17 : w = 17
      · subst hs_17
        exact z_tabIn (tgt := 799) dL_law_33 (by decide) (by decide) rfl (by decide) (lw_night h hN (by omega) (by omega) hL back)
      by_cases hs_18 : w = 18
      · subst hs_18
        exact z_tabIn (tgt := 822) dL_law_33 (by decide) (by decide) rfl (by decide) (lw_way h hN (by omega) (by omega) hL back)
      by_cases hs_19 : w = 19
      · subst hs_19
        exact z_tabIn (tgt := 865) dL_law_33 (by decide) (by decide) rfl (by decide) (lw_rule h hN (by omega) (by omega) hL back)
      by_cases hs_20 : w = 20
      · subst hs_20
        exact z_tabIn (tgt := 924) dL_law_33 (by decide) (by decide) rfl (by decide) (lw_free h hN (by omega) (by omega) hL back)
      by_cases hs_21 : w = 21
      · subst hs_21
        exact z_tabIn (tgt := 937) dL_law_33 (by decide) (by decide) rfl (by decide) (lw_best h hN (by omega) (by omega) hL back)
      by_cases hs_22 : w = 22
      · subst hs_22
        exact z_tabIn (tgt := 986) dL_law_33 (by decide) (by decide) rfl (by decide) (lw_cost h hN (by omega) (by omega) hL back)
      by_cases hs_23 : w = 23
      · subst hs_23
        exact z_tabIn (tgt := 999) dL_law_33 (by decide) (by decide) rfl (by decide) (lw_order h hN (by omega) (by omega) hL back)
      by_cases hs_24 : w = 24
      · subst hs_24
        exact z_tabIn (tgt := 1022) dL_law_33 (by decide) (by decide) rfl (by decide) (lw_worth h hN (by omega) (by omega) hL back)
      by_cases hs_25 : w = 25
      · subst hs_25
        exact z_tabIn (tgt := 1055) dL_law_33 (by decide) (by decide) rfl (by decide) (lw_screw h hN (by omega) (by omega) hL back)
      by_cases hs_26 : w = 26
      · subst hs_26
        exact z_tabIn (tgt := 1068) dL_law_33 (by decide) (by decide) rfl (by decide) (lw_rooms h hN (by omega) (by omega) hL back)
      by_cases hs_27 : w = 27
      · subst hs_27
        exact z_tabIn (tgt := 1081) dL_law_33 (by decide) (by decide) rfl (by decide) (lw_temper h hN (by omega) (by omega) hL back)
      by_cases hs_28 : w = 28
      · subst hs_28
        exact z_tabIn (tgt := 1114) dL_law_33 (by decide) (by decide) rfl (by decide) (lw_quarrel h hN (by omega) (by omega) hL back)
      by_cases hs_29 : w = 29
      · subst hs_29
        exact z_tabIn (tgt := 1137) dL_law_33 (by decide) (by decide) rfl (by decide) (lw_tent h hN (by omega) (by omega) hL back)
      by_cases hs_30 : w = 30
      · subst hs_30
        exact z_tabIn (tgt := 1170) dL_law_33 (by decide) (by decide) rfl (by decide) (lw_part h hN (by omega) (by omega) hL back)
      by_cases hs_31 : w = 31
      · subst hs_31
        exact z_tabIn (tgt := 1193) dL_law_33 (by decide) (by decide) rfl (by decide) (lw_image h hN (by omega) (by omega) hL back)
      by_cases hs_32 : w = 32
      · subst hs_32
        exact z_tabIn (tgt := 1216) dL_law_33 (by decide) (by decide) rfl (by decide) (lw_from h hN (by omega) (by omega) hL back)
      by_cases hs_33 : w = 33
      · subst hs_33
        exact z_tabIn (tgt := 1239) dL_law_33 (by decide) (by decide) rfl (by decide) (lw_status h hN (by omega) (by omega) hL back)
      by_cases hs_34 : w = 34
      · subst hs_34
        exact z_tabIn (tgt := 1262) dL_law_33 (by decide) (by decide) rfl (by decide) (lw_count h hN (by omega) (by omega) hL back)
      by_cases hs_35 : w = 35
      · subst hs_35
        exact z_tabIn (tgt := 1285) dL_law_33 (by decide) (by decide) rfl (by decide) (lw_digest h hN (by omega) (by omega) hL back)
      exact z_tabOut (tgt := 1299) dL_law_33 (by omega) (by decide) (back μ (zRel_up h (by omega)))
