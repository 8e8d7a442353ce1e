set_option maxRecDepth 100000 in
set_option maxHeartbeats 4000000 in
theorem k_X12_best {l : Launch} {E : zE} {μ : zM} (hm : zMpre μ) (hq : μ 393 18 = 0) {rules s : Int} : Ct l E yX12_best cX12_best 3 (some .int) ({ frames := 7, cells := 0, slots := 0, locals := 167 }) [zR 393, zI rules, zI s] μ (fun r ν => (¬ (s = -1 ∨ (0 ≤ s ∧ s < zBV (μ 394) 3 3)) ∧ r = some (zI (-10)) ∧ ν = zup μ 398 0 (μ 398 0 + zq1 μ)) ∨ ((s = -1 ∨ (0 ≤ s ∧ s < zBV (μ 394) 3 3)) ∧ (zPB (zBV (μ 394)) rules).1 ≠ 1 ∧ r = some (zI (-20)) ∧ ∃ ζ, zMf μ ζ ∧ ν = zup ζ 398 1 (ζ 398 1 + zq1 ζ)) ∨ ((s = -1 ∨ (0 ≤ s ∧ s < zBV (μ 394) 3 3)) ∧ (zPB (zBV (μ 394)) rules).1 = 1 ∧ r = some (zI (zif (s = -1) (zPB (zBV (μ 394)) rules).2.1 (zrw (zPB (zBV (μ 394)) rules).2.2.2 (zBV (μ 394) 3 0) (zBV (μ 394) 3 3) s))) ∧ zMf μ ν)) := by
  refine Ct.of RX12 [zR 393, zI rules, zI s] (by decide +kernel) rfl ⟨rfl, rfl⟩ rfl (Nat.le_of_ble_eq_true rfl) (fun X hX hc0 ha0 => ?_)
  subst hX
  refine z_iload_2 dX12_best_0 ?_
  refine z_iconst dX12_best_1 (by decide) ?_
  refine z_icmpeq (tgt := 21) dX12_best_2 (by decide) (fun h_2 => ?_) (fun h_2 => ?_)
  · refine z_aload_0 dX12_best_21 ?_
    refine z_iload_1 dX12_best_22 ?_
    refine z_callV1 (k_X12_findBest hm hq) m_X12_findBest zl_393 l_X12_336 (Nat.le_of_ble_eq_true rfl) ⟨Nat.le_of_ble_eq_true rfl, Nat.le_of_ble_eq_true rfl⟩ ⟨rfl, rfl⟩ dX12_best_23 (fun r μ1 hp => ?_)
    obtain ⟨rfl, hb, hmf⟩ := hp
    obtain ⟨ζ, hζ9⟩ : ∃ z, z = μ1 := ⟨_, rfl⟩
    subst hζ9
    refine z_ifne (tgt := 37) dX12_best_26 (by decide) (fun h_26 => ?_) (fun h_26 => ?_)
    · replace h_26 := zb_n.mp h_26
      obtain ⟨b1, b2⟩ := hb h_26
      have npb := hm.1.2.1.1
      have pcm : zBV (μ 394) 3 3 = μ 394 2 := rfl
      refine z_iload_2 dX12_best_37 ?_
      refine z_iconst dX12_best_38 (by decide) ?_
      refine z_icmpne (tgt := 49) dX12_best_39 (by decide) (fun h_39 => ?_) (fun h_39 => ?_)
      · refine z_aload_0 dX12_best_49 ?_
        refine z_getF 418 25 rfl f_X12_83 zl_393 rfl rfl dX12_best_50 ?_
        refine z_iload_2 dX12_best_53 ?_
        refine z_iald zl_418 (by omega) (by omega) dX12_best_54 ?_
        exact z_iret dX12_best_55 (Or.inr (Or.inr ⟨by first | exact Or.inl h_2 | exact Or.inr h_10, h_26, congrArg (fun z => (some (zI z) : Option zAV)) (by first | exact (zif_t h_39).symm | (rw [zif_f h_39]; exact b2 s (by omega) (by omega))), hmf⟩))
      · refine z_aload_0 dX12_best_42 ?_
        refine z_getI 39 rfl f_X12_320 zl_393 rfl dX12_best_43 ?_
        rw [b1]
        refine z_goto (tgt := 55) dX12_best_46 (by decide) ?_
        exact z_iret dX12_best_55 (Or.inr (Or.inr ⟨by first | exact Or.inl h_2 | exact Or.inr h_10, h_26, congrArg (fun z => (some (zI z) : Option zAV)) (by first | exact (zif_t h_39).symm | (rw [zif_f h_39]; exact b2 s (by omega) (by omega))), hmf⟩))
    · replace h_26 := zb_0.mp h_26
      refine z_aload_0 dX12_best_29 ?_
      refine z_iconst dX12_best_30 (by decide) ?_
      refine z_bipush dX12_best_31 (by decide) ?_
      refine z_callV2 (k_X12_refuses (zMf_pre hm hmf) (by decide) (by decide)) m_X12_refuses zl_393 l_X12_100 (Nat.le_of_ble_eq_true rfl) ⟨Nat.le_of_ble_eq_true rfl, Nat.le_of_ble_eq_true rfl⟩ ⟨rfl, rfl⟩ dX12_best_33 (fun r μ1 hp => ?_)
      obtain ⟨rfl, hv⟩ := hp
      replace hv := hv.symm
      subst hv
      exact z_iret dX12_best_36 (Or.inr (Or.inl ⟨by first | exact Or.inl h_2 | exact Or.inr h_10, h_26, rfl, ζ, hmf, rfl⟩))
  · refine z_aload_0 dX12_best_5 ?_
    refine z_iload_2 dX12_best_6 ?_
    refine z_callV1 (k_X12_isSleeper hm) m_X12_isSleeper zl_393 l_X12_141 (Nat.le_of_ble_eq_true rfl) ⟨Nat.le_of_ble_eq_true rfl, Nat.le_of_ble_eq_true rfl⟩ ⟨rfl, rfl⟩ dX12_best_7 (fun r μ1 hp => ?_)
    obtain ⟨rfl, hv⟩ := hp
    replace hv := hv.symm
    subst hv
    refine z_ifne (tgt := 21) dX12_best_10 (by decide) (fun h_10 => ?_) (fun h_10 => ?_)
    · replace h_10 := zb_n.mp h_10
      refine z_aload_0 dX12_best_21 ?_
      refine z_iload_1 dX12_best_22 ?_
      refine z_callV1 (k_X12_findBest hm hq) m_X12_findBest zl_393 l_X12_336 (Nat.le_of_ble_eq_true rfl) ⟨Nat.le_of_ble_eq_true rfl, Nat.le_of_ble_eq_true rfl⟩ ⟨rfl, rfl⟩ dX12_best_23 (fun r μ1 hp => ?_)
      obtain ⟨rfl, hb, hmf⟩ := hp
      obtain ⟨ζ, hζ9⟩ : ∃ z, z = μ1 := ⟨_, rfl⟩
      subst hζ9
      refine z_ifne (tgt := 37) dX12_best_26 (by decide) (fun h_26 => ?_) (fun h_26 => ?_)
      · replace h_26 := zb_n.mp h_26
        obtain ⟨b1, b2⟩ := hb h_26
        have npb := hm.1.2.1.1
        have pcm : zBV (μ 394) 3 3 = μ 394 2 := rfl
        refine z_iload_2 dX12_best_37 ?_
        refine z_iconst dX12_best_38 (by decide) ?_
        refine z_icmpne (tgt := 49) dX12_best_39 (by decide) (fun h_39 => ?_) (fun h_39 => ?_)
        · refine z_aload_0 dX12_best_49 ?_
          refine z_getF 418 25 rfl f_X12_83 zl_393 rfl rfl dX12_best_50 ?_
          refine z_iload_2 dX12_best_53 ?_
          refine z_iald zl_418 (by omega) (by omega) dX12_best_54 ?_
          exact z_iret dX12_best_55 (Or.inr (Or.inr ⟨by first | exact Or.inl h_2 | exact Or.inr h_10, h_26, congrArg (fun z => (some (zI z) : Option zAV)) (by first | exact (zif_t h_39).symm | (rw [zif_f h_39]; exact b2 s (by omega) (by omega))), hmf⟩))
        · refine z_aload_0 dX12_best_42 ?_
          refine z_getI 39 rfl f_X12_320 zl_393 rfl dX12_best_43 ?_
          rw [b1]
          refine z_goto (tgt := 55) dX12_best_46 (by decide) ?_
          exact z_iret dX12_best_55 (Or.inr (Or.inr ⟨by first | exact Or.inl h_2 | exact Or.inr h_10, h_26, congrArg (fun z => (some (zI z) : Option zAV)) (by first | exact (zif_t h_39).symm | (rw [zif_f h_39]; exact b2 s (by omega) (by omega))), hmf⟩))
      · replace h_26 := zb_0.mp h_26
        refine z_aload_0 dX12_best_29 ?_
        refine z_iconst dX12_best_30 (by decide) ?_
        refine z_bipush dX12_best_31 (by decide) ?_
        refine z_callV2 (k_X12_refuses (zMf_pre hm hmf) (by decide) (by decide)) m_X12_refuses zl_393 l_X12_100 (Nat.le_of_ble_eq_true rfl) ⟨Nat.le_of_ble_eq_true rfl, Nat.le_of_ble_eq_true rfl⟩ ⟨rfl, rfl⟩ dX12_best_33 (fun r μ1 hp => ?_)
        obtain ⟨rfl, hv⟩ := hp
        replace hv := hv.symm
        subst hv
        exact z_iret dX12_best_36 (Or.inr (Or.inl ⟨by first | exact Or.inl h_2 | exact Or.inr h_10, h_26, rfl, ζ, hmf, rfl⟩))
    · replace h_10 := zb_0.mp h_10
      refine z_aload_0 dX12_best_13 ?_
      refine z_iconst dX12_best_14 (by decide) ?_
      refine z_bipush dX12_best_15 (by decide) ?_
      refine z_callV2 (k_X12_refuses hm (by decide) (by decide)) m_X12_refuses zl_393 l_X12_100 (Nat.le_of_ble_eq_true rfl) ⟨Nat.le_of_ble_eq_true rfl, Nat.le_of_ble_eq_true rfl⟩ ⟨rfl, rfl⟩ dX12_best_17 (fun r μ1 hp => ?_)
      obtain ⟨rfl, hv⟩ := hp
      replace hv := hv.symm
      subst hv
      exact z_iret dX12_best_20 (Or.inl ⟨fun q => q.elim h_2 h_10, rfl, rfl⟩)
set_option maxRecDepth 100000 in
set_option maxHeartbeats 4000000 in
theorem k_X12_cost {l : Launch} {E : zE} {μ : zM} (hm : zMpre μ) (hq : μ 393 18 = 0) : Ct l E yX12_cost cX12_cost 2 (some .int) ({ frames := 7, cells := 0, slots := 0, locals := 167 }) [zR 393] μ (fun r ν => (((zPB (zBV (μ 394)) 0).1 ≠ 1 ∨ (zPB (zBV (μ 394)) 1).1 ≠ 1) ∧ r = some (zI (-3)) ∧ ∃ ζ, zMf μ ζ ∧ ν = zup ζ 398 1 (ζ 398 1 + zq1 ζ)) ∨ ((zPB (zBV (μ 394)) 0).1 = 1 ∧ (zPB (zBV (μ 394)) 1).1 = 1 ∧ r = some (zI ((zPB (zBV (μ 394)) 0).2.1 - (zPB (zBV (μ 394)) 1).2.1)) ∧ zMf μ ν)) := by
  refine Ct.of RX12 [zR 393, zU] (by decide +kernel) rfl ⟨rfl, rfl⟩ rfl (Nat.le_of_ble_eq_true rfl) (fun X hX hc0 ha0 => ?_)
  subst hX
  refine z_aload_0 dX12_cost_0 ?_
  refine z_iconst dX12_cost_1 (by decide) ?_
  refine z_callV1 (k_X12_findBest (rules := 0) hm hq) m_X12_findBest zl_393 l_X12_336 (Nat.le_of_ble_eq_true rfl) ⟨Nat.le_of_ble_eq_true rfl, Nat.le_of_ble_eq_true rfl⟩ ⟨rfl, rfl⟩ dX12_cost_2 (fun r μ1 hp => ?_)
  obtain ⟨rfl, hb, hmf⟩ := hp
  obtain ⟨ζ, hζ9⟩ : ∃ z, z = μ1 := ⟨_, rfl⟩
  subst hζ9
  refine z_ifne (tgt := 13) dX12_cost_5 (by decide) (fun h_5 => ?_) (fun h_5 => ?_)
  · replace h_5 := zb_n.mp h_5
    obtain ⟨b1, b2⟩ := hb h_5
    have h94 : ζ 394 = μ 394 := hmf.2 394 (by decide) (by decide)
    refine z_aload_0 dX12_cost_13 ?_
    refine z_getI 39 rfl f_X12_320 zl_393 rfl dX12_cost_14 ?_
    rw [b1]
    refine z_istore_1 rfl dX12_cost_17 ?_
    refine z_aload_0 dX12_cost_18 ?_
    refine z_iconst dX12_cost_19 (by decide) ?_
    refine z_callV1 (k_X12_findBest (rules := 1) (zMf_pre hm hmf) (by rw [hmf.1 18 (by decide) (by decide) (by decide) (by decide) (by decide) (by decide)]; exact hq)) m_X12_findBest zl_393 l_X12_336 (Nat.le_of_ble_eq_true rfl) ⟨Nat.le_of_ble_eq_true rfl, Nat.le_of_ble_eq_true rfl⟩ ⟨rfl, rfl⟩ dX12_cost_20 (fun r μ1 hp => ?_)
    obtain ⟨rfl, hb2, hmf2⟩ := hp
    obtain ⟨ζ2, hζ9⟩ : ∃ z, z = μ1 := ⟨_, rfl⟩
    subst hζ9
    rw [h94] at hb2
    rw [h94]
    have hmf3 : zMf μ ζ2 := zMf_t hmf hmf2
    refine z_ifeq (tgt := 35) dX12_cost_23 (by decide) (fun h_23 => ?_) (fun h_23 => ?_)
    · replace h_23 := zb_0.mp h_23
      refine z_aload_0 dX12_cost_35 ?_
      refine z_callV0 (k_X12_no (zMf_pre hm hmf3)) m_X12_no zl_393 l_X12_124 (Nat.le_of_ble_eq_true rfl) ⟨Nat.le_of_ble_eq_true rfl, Nat.le_of_ble_eq_true rfl⟩ ⟨rfl, rfl⟩ dX12_cost_36 (fun r μ1 hp => ?_)
      obtain ⟨rfl, hv⟩ := hp
      replace hv := hv.symm
      subst hv
      exact z_iret dX12_cost_39 (by first | exact Or.inr ⟨h_5, h_23, rfl, hmf3⟩ | exact Or.inl ⟨Or.inr h_23, rfl, ζ2, hmf3, rfl⟩)
    · replace h_23 := zb_n.mp h_23
      obtain ⟨d1, d2⟩ := hb2 h_23
      refine z_iload_1 dX12_cost_26 ?_
      refine z_aload_0 dX12_cost_27 ?_
      refine z_getI 39 rfl f_X12_320 zl_393 rfl dX12_cost_28 ?_
      rw [d1]
      have pb1 := zPB_b (rules := 0) hm.1
      have pb2 := zPB_b (rules := 1) hm.1
      refine z_isub dX12_cost_31 (by omega) ?_
      refine z_goto (tgt := 39) dX12_cost_32 (by decide) ?_
      exact z_iret dX12_cost_39 (by first | exact Or.inr ⟨h_5, h_23, rfl, hmf3⟩ | exact Or.inl ⟨Or.inr h_23, rfl, ζ2, hmf3, rfl⟩)
  · replace h_5 := zb_0.mp h_5
    refine z_aload_0 dX12_cost_8 ?_
    refine z_callV0 (k_X12_no (zMf_pre hm hmf)) m_X12_no zl_393 l_X12_124 (Nat.le_of_ble_eq_true rfl) ⟨Nat.le_of_ble_eq_true rfl, Nat.le_of_ble_eq_true rfl⟩ ⟨rfl, rfl⟩ dX12_cost_9 (fun r μ1 hp => ?_)
    obtain ⟨rfl, hv⟩ := hp
    replace hv := hv.symm
    subst hv
    exact z_iret dX12_cost_12 (Or.inl ⟨Or.inl h_5, rfl, ζ, hmf, rfl⟩)
set_option maxRecDepth 100000 in
set_option maxHeartbeats 4000000 in
theorem k_X12_order {l : Launch} {E : zE} {μ : zM} (hm : zMpre μ) (hq : μ 393 18 = 0) {s : Int} : Ct l E yX12_order cX12_order 7 (some .int) ({ frames := 6, cells := 0, slots := 0, locals := 142 }) [zR 393, zI s] μ (fun r ν => (¬ (s = -1 ∨ (0 ≤ s ∧ s < zBV (μ 394) 3 3)) ∧ r = some (zI (-2)) ∧ ν = zup μ 398 0 (μ 398 0 + zq1 μ)) ∨ ((s = -1 ∨ (0 ≤ s ∧ s < zBV (μ 394) 3 3)) ∧ (zBV (μ 394) 3 3) = 0 ∧ r = some (zI (-3)) ∧ ν = zup μ 398 1 (μ 398 1 + zq1 μ)) ∨ ((s = -1 ∨ (0 ≤ s ∧ s < zBV (μ 394) 3 3)) ∧ (zBV (μ 394) 3 3) ≠ 0 ∧ r = some (zI (zif (s = -1) (zPG (zBV (μ 394))).2.1 (zrw (zPG (zBV (μ 394))).2.2.2 (zBV (μ 394) 3 3) (zBV (μ 394) 3 3) s))) ∧ zMf μ ν)) := by
  refine Ct.of RX12 [zR 393, zI s, zU, zU, zU, zU, zU] (by decide +kernel) rfl ⟨rfl, rfl⟩ rfl (Nat.le_of_ble_eq_true rfl) (fun X hX hc0 ha0 => ?_)
  subst hX
  have np := hm.1.2.1.1
  have nb := hm.1.1.2.1
  have pcm : zBV (μ 394) 3 3 = μ 394 2 := rfl
  have bcm : zBV (μ 394) 3 0 = μ 394 1 := rfl
  have tb := zpo_b (b := (zBV (μ 394) 3 3)) (n := (zBV (μ 394) 3 3).toNat) np.1 (by omega) (by omega)
  have J34 : (s = -1 ∨ (0 ≤ s ∧ s < zBV (μ 394) 3 3)) → (zBV (μ 394) 3 3) ≠ 0 → MW X E cX12_order RX12 ({ frames := 6, cells := 0, slots := 0, locals := 142 }) (some .int) (fun r ν => (¬ (s = -1 ∨ (0 ≤ s ∧ s < zBV (μ 394) 3 3)) ∧ r = some (zI (-2)) ∧ ν = zup μ 398 0 (μ 398 0 + zq1 μ)) ∨ ((s = -1 ∨ (0 ≤ s ∧ s < zBV (μ 394) 3 3)) ∧ (zBV (μ 394) 3 3) = 0 ∧ r = some (zI (-3)) ∧ ν = zup μ 398 1 (μ 398 1 + zq1 μ)) ∨ ((s = -1 ∨ (0 ≤ s ∧ s < zBV (μ 394) 3 3)) ∧ (zBV (μ 394) 3 3) ≠ 0 ∧ r = some (zI (zif (s = -1) (zPG (zBV (μ 394))).2.1 (zrw (zPG (zBV (μ 394))).2.2.2 (zBV (μ 394) 3 3) (zBV (μ 394) 3 3) s))) ∧ zMf μ ν)) 34 [zR 393, zI s, zI (zBV (μ 394) 3 3), zU, zU, zU, zU] [] μ := by
    intro hHI h0
    have J203 : ∀ (ξ : zM) (u9 v9 : zAV), ξ 393 41 = (zPG (zBV (μ 394))).1 → ((zPG (zBV (μ 394))).1 = 1 → ξ 393 39 = (zPG (zBV (μ 394))).2.1 ∧ ∀ k, 0 ≤ k → k < (zBV (μ 394) 3 3) → ξ 418 k = zrw (zPG (zBV (μ 394))).2.2.2 (zBV (μ 394) 3 3) (zBV (μ 394) 3 3) k) → zBk 2 (μ 394) (ξ 394) → (∀ k, 0 ≤ k → k < (zBV (μ 394) 3 3) → ξ 419 k = (zBV (μ 394)) 6 k) → (∀ k, k ≠ 31 → k ≠ 32 → k ≠ 33 → k ≠ 39 → k ≠ 40 → k ≠ 41 → ξ 393 k = μ 393 k) → (∀ x : Nat, x ≠ 393 → x ≠ 394 → (x < 402 ∨ 419 < x) → ξ x = μ x) → MW X E cX12_order RX12 ({ frames := 6, cells := 0, slots := 0, locals := 142 }) (some .int) (fun r ν => (¬ (s = -1 ∨ (0 ≤ s ∧ s < zBV (μ 394) 3 3)) ∧ r = some (zI (-2)) ∧ ν = zup μ 398 0 (μ 398 0 + zq1 μ)) ∨ ((s = -1 ∨ (0 ≤ s ∧ s < zBV (μ 394) 3 3)) ∧ (zBV (μ 394) 3 3) = 0 ∧ r = some (zI (-3)) ∧ ν = zup μ 398 1 (μ 398 1 + zq1 μ)) ∨ ((s = -1 ∨ (0 ≤ s ∧ s < zBV (μ 394) 3 3)) ∧ (zBV (μ 394) 3 3) ≠ 0 ∧ r = some (zI (zif (s = -1) (zPG (zBV (μ 394))).2.1 (zrw (zPG (zBV (μ 394))).2.2.2 (zBV (μ 394) 3 3) (zBV (μ 394) 3 3) s))) ∧ zMf μ ν)) 203 [zR 393, zI s, zI (zBV (μ 394) 3 3), zI (zpo (zBV (μ 394) 3 3) (zBV (μ 394) 3 3).toNat), u9, v9, zU] [] ξ := by
      intro ξ u9 v9 ha hbst hbk hhad hk hx
      have L : ∀ (k : Nat) (j : Nat) (ζ4 : zM), (j : Int) ≤ (zBV (μ 394) 3 3) → zBk 2 (μ 394) (ζ4 394) → (∀ y, 0 ≤ y → y < (j : Int) → ζ4 394 (90 + 6 * y + 2) = (zBV (μ 394)) 6 y) → (∀ x : Nat, x ≠ 394 → ζ4 x = ξ x) → (zBV (μ 394) 3 3) - (j : Int) < k → MW X E cX12_order RX12 ({ frames := 6, cells := 0, slots := 0, locals := 142 }) (some .int) (fun r ν => (¬ (s = -1 ∨ (0 ≤ s ∧ s < zBV (μ 394) 3 3)) ∧ r = some (zI (-2)) ∧ ν = zup μ 398 0 (μ 398 0 + zq1 μ)) ∨ ((s = -1 ∨ (0 ≤ s ∧ s < zBV (μ 394) 3 3)) ∧ (zBV (μ 394) 3 3) = 0 ∧ r = some (zI (-3)) ∧ ν = zup μ 398 1 (μ 398 1 + zq1 μ)) ∨ ((s = -1 ∨ (0 ≤ s ∧ s < zBV (μ 394) 3 3)) ∧ (zBV (μ 394) 3 3) ≠ 0 ∧ r = some (zI (zif (s = -1) (zPG (zBV (μ 394))).2.1 (zrw (zPG (zBV (μ 394))).2.2.2 (zBV (μ 394) 3 3) (zBV (μ 394) 3 3) s))) ∧ zMf μ ν)) 206 [zR 393, zI s, zI (zBV (μ 394) 3 3), zI (zpo (zBV (μ 394) 3 3) (zBV (μ 394) 3 3).toNat), zI (j : Int), v9, zU] [] ζ4 := by
        intro k
        induction k with
        | zero => intro j ζ4 hj hbk4 hg4 hz4 h6; omega
        | succ k ih =>
          intro j ζ4 hj hbk4 hg4 hz4 h6
          refine z_iload_4 dX12_order_206 ?_
          refine z_iload_2 dX12_order_208 ?_
          refine z_icmpge (tgt := 240) dX12_order_209 (by decide) (fun h_209 => ?_) (fun h_209 => ?_)
          · have h94e : ζ4 394 = μ 394 := zBk_e hbk4 (fun y y0 y1 => by rw [hg4 y y0 (by omega)]; exact zBV_6 y0 y1)
            have hmf : zMf μ ζ4 := ⟨fun k a b c d e f => by rw [hz4 393 (by decide)]; exact hk k a b c d e f, fun x x1 x2 => by
              by_cases e : x = 394
              · rw [e, h94e]
              · rw [hz4 x e]; exact hx x x1 e x2⟩
            obtain ⟨e39, e18⟩ := hbst (zPG_1 hm.1 h0)
            refine z_iload_1 dX12_order_240 ?_
            refine z_iconst dX12_order_241 (by decide) ?_
            refine z_icmpne (tgt := 252) dX12_order_242 (by decide) (fun h_242 => ?_) (fun h_242 => ?_)
            · refine z_aload_0 dX12_order_252 ?_
              refine z_getF 418 25 rfl f_X12_83 zl_393 rfl rfl dX12_order_253 ?_
              refine z_iload_1 dX12_order_256 ?_
              refine z_iald zl_418 (by omega) (by omega) dX12_order_257 ?_
              try rw [hz4 418 (by decide)]
              exact z_iret dX12_order_258 (Or.inr (Or.inr ⟨hHI, h0, congrArg (fun z => (some (zI z) : Option zAV)) (by first | exact (zif_t h_242).symm | (rw [zif_f h_242]; exact e18 s (by omega) (by omega))), hmf⟩))
            · refine z_aload_0 dX12_order_245 ?_
              refine z_getI 39 rfl f_X12_320 zl_393 rfl dX12_order_246 ?_
              rw [hz4 393 (by decide), e39]
              refine z_goto (tgt := 258) dX12_order_249 (by decide) ?_
              try rw [hz4 418 (by decide)]
              exact z_iret dX12_order_258 (Or.inr (Or.inr ⟨hHI, h0, congrArg (fun z => (some (zI z) : Option zAV)) (by first | exact (zif_t h_242).symm | (rw [zif_f h_242]; exact e18 s (by omega) (by omega))), hmf⟩))
          · refine z_aload_0 dX12_order_212 ?_
            refine z_getF 394 1 rfl f_X12_7 zl_393 rfl rfl dX12_order_213 ?_
            refine z_bipush dX12_order_216 (by decide) ?_
            refine z_bipush dX12_order_218 (by decide) ?_
            refine z_iload_4 dX12_order_220 ?_
            refine z_imul dX12_order_222 (by omega) ?_
            refine z_iadd dX12_order_223 (by omega) ?_
            refine z_iconst dX12_order_224 (by decide) ?_
            refine z_iadd dX12_order_225 (by omega) ?_
            refine z_aload_0 dX12_order_226 ?_
            refine z_getF 419 26 rfl f_X12_86 zl_393 rfl rfl dX12_order_227 ?_
            refine z_iload_4 dX12_order_230 ?_
            refine z_iald zl_419 (by omega) (by omega) dX12_order_232 ?_
            refine z_iast zl_394 (by omega) (by omega) dX12_order_233 ?_
            refine z_iinc_4 rfl dX12_order_234 (by omega) ?_
            refine z_goto (tgt := 206) dX12_order_237 (by decide) ?_
            exact ih (j + 1) _ (by omega) (by rw [zup_fu]; exact zBk_u hbk4 (by omega) (by omega)) (fun y y0 y1 => by
              rw [zup_fu]
              by_cases e : y = j
              · rw [e, zfu_e, hz4 419 (by decide)]; exact hhad j (by omega) (by omega)
              · rw [zfu_n (by omega)]; exact hg4 y y0 (by omega)) (fun x x1 => by rw [zup_row x1]; exact hz4 x x1) (by omega)
      refine z_iconst dX12_order_203 (by decide) ?_
      refine z_istore_4 rfl dX12_order_204 ?_
      exact L 9 0 ξ (by omega) hbk (fun y y0 y1 => by omega) (fun _ _ => rfl) (by omega)
    have LB : ∀ (k : Nat) (i : Nat) (ξ : zM), (i : Int) ≤ (zpo (zBV (μ 394) 3 3) (zBV (μ 394) 3 3).toNat) → ξ 393 41 = (zSe (zTG (zBV (μ 394))) (zWG (zBV (μ 394))) (zGG (zBV (μ 394))) i).1 → ((zSe (zTG (zBV (μ 394))) (zWG (zBV (μ 394))) (zGG (zBV (μ 394))) i).1 = 1 → ξ 393 39 = (zSe (zTG (zBV (μ 394))) (zWG (zBV (μ 394))) (zGG (zBV (μ 394))) i).2.1 ∧ ξ 393 40 = (zSe (zTG (zBV (μ 394))) (zWG (zBV (μ 394))) (zGG (zBV (μ 394))) i).2.2.1 ∧ ∀ k, 0 ≤ k → k < (zBV (μ 394) 3 3) → ξ 418 k = zrw (zSe (zTG (zBV (μ 394))) (zWG (zBV (μ 394))) (zGG (zBV (μ 394))) i).2.2.2 (zBV (μ 394) 3 3) (zBV (μ 394) 3 3) k) → zBk 2 (μ 394) (ξ 394) → zFar (zBV (μ 394)) (ξ 402) → (∀ k, 0 ≤ k → k < (zBV (μ 394) 3 3) → ξ 419 k = (zBV (μ 394)) 6 k) → (∀ k, k ≠ 31 → k ≠ 32 → k ≠ 33 → k ≠ 39 → k ≠ 40 → k ≠ 41 → ξ 393 k = μ 393 k) → (∀ x : Nat, x ≠ 393 → x ≠ 394 → (x < 402 ∨ 419 < x) → ξ x = μ x) → (zpo (zBV (μ 394) 3 3) (zBV (μ 394) 3 3).toNat) - (i : Int) < k → MW X E cX12_order RX12 ({ frames := 6, cells := 0, slots := 0, locals := 142 }) (some .int) (fun r ν => (¬ (s = -1 ∨ (0 ≤ s ∧ s < zBV (μ 394) 3 3)) ∧ r = some (zI (-2)) ∧ ν = zup μ 398 0 (μ 398 0 + zq1 μ)) ∨ ((s = -1 ∨ (0 ≤ s ∧ s < zBV (μ 394) 3 3)) ∧ (zBV (μ 394) 3 3) = 0 ∧ r = some (zI (-3)) ∧ ν = zup μ 398 1 (μ 398 1 + zq1 μ)) ∨ ((s = -1 ∨ (0 ≤ s ∧ s < zBV (μ 394) 3 3)) ∧ (zBV (μ 394) 3 3) ≠ 0 ∧ r = some (zI (zif (s = -1) (zPG (zBV (μ 394))).2.1 (zrw (zPG (zBV (μ 394))).2.2.2 (zBV (μ 394) 3 3) (zBV (μ 394) 3 3) s))) ∧ zMf μ ν)) 81 [zR 393, zI s, zI (zBV (μ 394) 3 3), zI (zpo (zBV (μ 394) 3 3) (zBV (μ 394) 3 3).toNat), zI (i : Int), zU, zU] [] ξ := by
      intro k
      induction k with
      | zero => intro i ξ hi ha hbst hbk far hhad hk hx h9; omega
      | succ k ih =>
        intro i ξ hi ha hbst hbk far hhad hk hx h9
        have hc2 : ξ 394 2 = (zBV (μ 394) 3 3) := hbk 2 (fun j j0 j1 => by omega)
        have hc1 : ξ 394 1 = (zBV (μ 394) 3 0) := hbk 1 (fun j j0 j1 => by omega)
        refine z_iload_4 dX12_order_81 ?_
        refine z_iload_3 dX12_order_83 ?_
        refine z_icmpge (tgt := 203) dX12_order_84 (by decide) (fun h_84 => ?_) (fun h_84 => ?_)
        · have hPI : (zPG (zBV (μ 394))) = (zSe (zTG (zBV (μ 394))) (zWG (zBV (μ 394))) (zGG (zBV (μ 394))) i) := by unfold zPG; rw [show (zpo (zBV (μ 394) 3 3) (zBV (μ 394) 3 3).toNat).toNat = i by omega]
          exact J203 ξ _ _ (by rw [ha, hPI]) (by rw [hPI]; exact fun z => ⟨(hbst z).1, (hbst z).2.2⟩) hbk hhad hk hx
        · have hbp : 0 < (zBV (μ 394) 3 3) → 0 < (zBV (μ 394) 3 3) := fun q => q
          refine z_aload_0 dX12_order_87 ?_
          refine z_iload_4 dX12_order_88 ?_
          refine z_iload_2 dX12_order_90 ?_
          refine z_iload_2 dX12_order_91 ?_
          refine z_callV3 (k_X12_opens (by omega) (by omega) (by omega) (fun q => hbp q)) m_X12_opens zl_393 l_X12_326 (Nat.le_of_ble_eq_true rfl) ⟨Nat.le_of_ble_eq_true rfl, Nat.le_of_ble_eq_true rfl⟩ ⟨rfl, rfl⟩ dX12_order_92 (fun r μ1 hp => ?_)
          obtain ⟨rfl, hrow, hk_⟩ := hp
          obtain ⟨ζ1, hζ9⟩ : ∃ z, z = μ1 := ⟨_, rfl⟩
          subst hζ9
          have hbk1 : zBk 2 (μ 394) (ζ1 394) := by rw [hk_ 394 (by decide)]; exact hbk
          have far1 : zFar (zBV (μ 394)) (ζ1 402) := by rw [hk_ 402 (by decide)]; exact far
          have hhad1 : ∀ k, 0 ≤ k → k < (zBV (μ 394) 3 3) → ζ1 419 k = (zBV (μ 394)) 6 k := by rw [hk_ 419 (by decide)]; exact hhad
          have hk1 : ∀ k, k ≠ 31 → k ≠ 32 → k ≠ 33 → k ≠ 39 → k ≠ 40 → k ≠ 41 → ζ1 393 k = μ 393 k := by rw [hk_ 393 (by decide)]; exact hk
          have hx1 : ∀ x : Nat, x ≠ 393 → x ≠ 394 → (x < 402 ∨ 419 < x) → ζ1 x = μ x := fun x x1 x2 x3 => (hk_ x (by omega)).trans (hx x x1 x2 x3)
          have ha1 : ζ1 393 41 = (zSe (zTG (zBV (μ 394))) (zWG (zBV (μ 394))) (zGG (zBV (μ 394))) i).1 := by rw [hk_ 393 (by decide)]; exact ha
          have hbst1 : (zSe (zTG (zBV (μ 394))) (zWG (zBV (μ 394))) (zGG (zBV (μ 394))) i).1 = 1 → ζ1 393 39 = (zSe (zTG (zBV (μ 394))) (zWG (zBV (μ 394))) (zGG (zBV (μ 394))) i).2.1 ∧ ζ1 393 40 = (zSe (zTG (zBV (μ 394))) (zWG (zBV (μ 394))) (zGG (zBV (μ 394))) i).2.2.1 ∧ ∀ k, 0 ≤ k → k < (zBV (μ 394) 3 3) → ζ1 418 k = zrw (zSe (zTG (zBV (μ 394))) (zWG (zBV (μ 394))) (zGG (zBV (μ 394))) i).2.2.2 (zBV (μ 394) 3 3) (zBV (μ 394) 3 3) k := by rw [hk_ 393 (by decide), hk_ 418 (by decide)]; exact hbst
          have J193 : zTG (zBV (μ 394)) (i : Int) → ∀ (ζ5 : zM) (u u2 : zAV), zBk 2 (μ 394) (ζ5 394) → (∀ k, 0 ≤ k → k < (zBV (μ 394) 3 3) → ζ5 394 (90 + 6 * k + 2) = (fun k => zBV (μ 394) 6 (zrw (i : Int) (zBV (μ 394) 3 3) (zBV (μ 394) 3 3) k)) k) → (∀ x : Nat, x ≠ 394 → ζ5 x = ζ1 x) → MW X E cX12_order RX12 ({ frames := 6, cells := 0, slots := 0, locals := 142 }) (some .int) (fun r ν => (¬ (s = -1 ∨ (0 ≤ s ∧ s < zBV (μ 394) 3 3)) ∧ r = some (zI (-2)) ∧ ν = zup μ 398 0 (μ 398 0 + zq1 μ)) ∨ ((s = -1 ∨ (0 ≤ s ∧ s < zBV (μ 394) 3 3)) ∧ (zBV (μ 394) 3 3) = 0 ∧ r = some (zI (-3)) ∧ ν = zup μ 398 1 (μ 398 1 + zq1 μ)) ∨ ((s = -1 ∨ (0 ≤ s ∧ s < zBV (μ 394) 3 3)) ∧ (zBV (μ 394) 3 3) ≠ 0 ∧ r = some (zI (zif (s = -1) (zPG (zBV (μ 394))).2.1 (zrw (zPG (zBV (μ 394))).2.2.2 (zBV (μ 394) 3 3) (zBV (μ 394) 3 3) s))) ∧ zMf μ ν)) 193 [zR 393, zI s, zI (zBV (μ 394) 3 3), zI (zpo (zBV (μ 394) 3 3) (zBV (μ 394) 3 3).toNat), zI (i : Int), u, u2] [] ζ5 := by
            intro hT ζ5 u u2 hbk5 hg5 hz5
            have h5c : ζ5 394 2 = (zBV (μ 394) 3 3) := hbk5 2 (fun j j0 j1 => by omega)
            have hV5 : zBV (ζ5 394) = zVk 6 (zBV (μ 394)) (fun k => zBV (μ 394) 6 (zrw (i : Int) (zBV (μ 394) 3 3) (zBV (μ 394) 3 3) k)) := zBV_k6 (zBV_bd hm.1) hbk5 hg5
            have hokk : zOK (zVk 6 (zBV (μ 394)) (fun k => zBV (μ 394) 6 (zrw (i : Int) (zBV (μ 394) 3 3) (zBV (μ 394) 3 3) k))) := zVk_6ok hm.1 (fun x x0 x1 => by
              have gb := zrw_b (c := (i : Int)) (n := (zBV (μ 394) 3 3)) (k := x) (hbp (by omega))
              exact ⟨(hm.1.2.1.2 _ gb.1 gb.2).2.2.1.1, hT.2 x x0 x1⟩)
            have far5 : zFar (zBV (μ 394)) (ζ5 402) := by rw [hz5 402 (by decide)]; exact far1
            have hhad5 : ∀ k, 0 ≤ k → k < (zBV (μ 394) 3 3) → ζ5 419 k = (zBV (μ 394)) 6 k := by rw [hz5 419 (by decide)]; exact hhad1
            have hk5 : ∀ k, k ≠ 31 → k ≠ 32 → k ≠ 33 → k ≠ 39 → k ≠ 40 → k ≠ 41 → ζ5 393 k = μ 393 k := by rw [hz5 393 (by decide)]; exact hk1
            have hx5 : ∀ x : Nat, x ≠ 393 → x ≠ 394 → (x < 402 ∨ 419 < x) → ζ5 x = μ x := fun x x1 x2 x3 => (hz5 x x2).trans (hx1 x x1 x2 x3)
            have ha5 : ζ5 393 41 = (zSe (zTG (zBV (μ 394))) (zWG (zBV (μ 394))) (zGG (zBV (μ 394))) i).1 := by rw [hz5 393 (by decide)]; exact ha1
            have hbst5 : (zSe (zTG (zBV (μ 394))) (zWG (zBV (μ 394))) (zGG (zBV (μ 394))) i).1 = 1 → ζ5 393 39 = (zSe (zTG (zBV (μ 394))) (zWG (zBV (μ 394))) (zGG (zBV (μ 394))) i).2.1 ∧ ζ5 393 40 = (zSe (zTG (zBV (μ 394))) (zWG (zBV (μ 394))) (zGG (zBV (μ 394))) i).2.2.1 ∧ ∀ k, 0 ≤ k → k < (zBV (μ 394) 3 3) → ζ5 418 k = zrw (zSe (zTG (zBV (μ 394))) (zWG (zBV (μ 394))) (zGG (zBV (μ 394))) i).2.2.2 (zBV (μ 394) 3 3) (zBV (μ 394) 3 3) k := by rw [hz5 393 (by decide), hz5 418 (by decide)]; exact hbst1
            have hrow5 : ∀ k, 0 ≤ k → k < (zBV (μ 394) 3 3) → ζ5 417 k = (zrw (i : Int) (zBV (μ 394) 3 3) (zBV (μ 394) 3 3)) k := fun k k0 k1 => by rw [hz5 417 (by decide)]; exact hrow k k0 k1
            refine z_aload_0 dX12_order_193 ?_
            refine z_callV0 (k_X12_keepsBetter (by rw [hV5]; exact hokk) (by rw [hV5]; exact zFar_op (zVk_op (by decide)) far5) (by rw [hk5 18 (by decide) (by decide) (by decide) (by decide) (by decide) (by decide)]; exact hq)) m_X12_keepsBetter zl_393 l_X12_333 (Nat.le_of_ble_eq_true rfl) ⟨Nat.le_of_ble_eq_true rfl, Nat.le_of_ble_eq_true rfl⟩ ⟨rfl, rfl⟩ dX12_order_194 (fun r μ1 hp => ?_)
            rw [hV5] at hp
            obtain ⟨rfl, ⟨f1, f2⟩, hkb⟩ := hp
            obtain ⟨ζ6, hζ9⟩ : ∃ z, z = μ1 := ⟨_, rfl⟩
            subst hζ9
            have hW : zWR (zVk 6 (zBV (μ 394)) (fun k => zBV (μ 394) 6 (zrw (i : Int) (zBV (μ 394) 3 3) (zBV (μ 394) 3 3) k))) 0 = (zWG (zBV (μ 394))) (i : Int) := rfl
            have hG : zGR (zVk 6 (zBV (μ 394)) (fun k => zBV (μ 394) 6 (zrw (i : Int) (zBV (μ 394) 3 3) (zBV (μ 394) 3 3) k))) 0 = (zGG (zBV (μ 394))) (i : Int) := rfl
            rw [hW, hG, ha5, h5c] at hkb
            have hbk6 : zBk 2 (μ 394) (ζ6 394) := by rw [f2 394 (by decide) (by decide) (by decide)]; exact hbk5
            have far6 : zFar (zBV (μ 394)) (ζ6 402) := by rw [f2 402 (by decide) (by decide) (by decide)]; exact far5
            have hhad6 : ∀ k, 0 ≤ k → k < (zBV (μ 394) 3 3) → ζ6 419 k = (zBV (μ 394)) 6 k := by rw [f2 419 (by decide) (by decide) (by decide)]; exact hhad5
            have hk6 : ∀ k, k ≠ 31 → k ≠ 32 → k ≠ 33 → k ≠ 39 → k ≠ 40 → k ≠ 41 → ζ6 393 k = μ 393 k := fun k a b c d e f => (f1 k a b c d e f).trans (hk5 k a b c d e f)
            have hx6 : ∀ x : Nat, x ≠ 393 → x ≠ 394 → (x < 402 ∨ 419 < x) → ζ6 x = μ x := fun x x1 x2 x3 => (f2 x x1 (by omega) (by omega)).trans (hx5 x x1 x2 x3)
            refine z_iinc_4 rfl dX12_order_197 (by omega) ?_
            refine z_goto (tgt := 81) dX12_order_200 (by decide) ?_
            rcases hkb with ⟨hco, w3, w1, w2, wb⟩ | ⟨hco, w3, w1, w2, wb⟩
            · have hco2 : (zSe (zTG (zBV (μ 394))) (zWG (zBV (μ 394))) (zGG (zBV (μ 394))) i).1 = 0 ∨ (zSe (zTG (zBV (μ 394))) (zWG (zBV (μ 394))) (zGG (zBV (μ 394))) i).2.1 < (zWG (zBV (μ 394))) (i : Int) ∨ ((zWG (zBV (μ 394))) (i : Int) = (zSe (zTG (zBV (μ 394))) (zWG (zBV (μ 394))) (zGG (zBV (μ 394))) i).2.1 ∧ (zSe (zTG (zBV (μ 394))) (zWG (zBV (μ 394))) (zGG (zBV (μ 394))) i).2.2.1 < (zGG (zBV (μ 394))) (i : Int)) := by
                rcases (zSe_01 (T := (zTG (zBV (μ 394)))) (W := (zWG (zBV (μ 394)))) (G := (zGG (zBV (μ 394)))) (n := i)).1 with z | z
                · exact Or.inl z
                · obtain ⟨b1, b2, -⟩ := hbst5 z
                  rw [b1, b2] at hco
                  exact hco
              refine z_weak (ls' := [zR 393, zI s, zI (zBV (μ 394) 3 3), zI (zpo (zBV (μ 394) 3 3) (zBV (μ 394) 3 3).toNat), zI ((i + 1 : Nat) : Int), zU, zU]) ⟨Or.inl rfl, Or.inl rfl, Or.inl rfl, Or.inl rfl, Or.inl rfl, Or.inr rfl, Or.inr rfl, trivial⟩ (ih (i + 1) ζ6 (by omega) (by rw [zSe_s, zif_t ⟨hT, hco2⟩]; exact w3) (by rw [zSe_s, zif_t ⟨hT, hco2⟩]; exact fun _ => ⟨w1, w2, fun k k0 k1 => by rw [wb k k0 k1, hrow5 k k0 k1]⟩) hbk6 far6 hhad6 hk6 hx6 (by omega))
            · have hco2 : ¬ ((zSe (zTG (zBV (μ 394))) (zWG (zBV (μ 394))) (zGG (zBV (μ 394))) i).1 = 0 ∨ (zSe (zTG (zBV (μ 394))) (zWG (zBV (μ 394))) (zGG (zBV (μ 394))) i).2.1 < (zWG (zBV (μ 394))) (i : Int) ∨ ((zWG (zBV (μ 394))) (i : Int) = (zSe (zTG (zBV (μ 394))) (zWG (zBV (μ 394))) (zGG (zBV (μ 394))) i).2.1 ∧ (zSe (zTG (zBV (μ 394))) (zWG (zBV (μ 394))) (zGG (zBV (μ 394))) i).2.2.1 < (zGG (zBV (μ 394))) (i : Int))) := fun c => by
                rcases (zSe_01 (T := (zTG (zBV (μ 394)))) (W := (zWG (zBV (μ 394)))) (G := (zGG (zBV (μ 394)))) (n := i)).1 with z | z
                · exact hco (Or.inl z)
                · obtain ⟨b1, b2, -⟩ := hbst5 z
                  rw [b1, b2] at hco
                  exact hco c
              refine z_weak (ls' := [zR 393, zI s, zI (zBV (μ 394) 3 3), zI (zpo (zBV (μ 394) 3 3) (zBV (μ 394) 3 3).toNat), zI ((i + 1 : Nat) : Int), zU, zU]) ⟨Or.inl rfl, Or.inl rfl, Or.inl rfl, Or.inl rfl, Or.inl rfl, Or.inr rfl, Or.inr rfl, trivial⟩ (ih (i + 1) ζ6 (by omega) (by rw [zSe_s, zif_f (fun q => hco2 q.2), w3]) (by rw [zSe_s, zif_f (fun q => hco2 q.2), w1, w2, wb]; exact hbst5) hbk6 far6 hhad6 hk6 hx6 (by omega))
          have J151 : zTG (zBV (μ 394)) (i : Int) → ∀ (u v : Int), MW X E cX12_order RX12 ({ frames := 6, cells := 0, slots := 0, locals := 142 }) (some .int) (fun r ν => (¬ (s = -1 ∨ (0 ≤ s ∧ s < zBV (μ 394) 3 3)) ∧ r = some (zI (-2)) ∧ ν = zup μ 398 0 (μ 398 0 + zq1 μ)) ∨ ((s = -1 ∨ (0 ≤ s ∧ s < zBV (μ 394) 3 3)) ∧ (zBV (μ 394) 3 3) = 0 ∧ r = some (zI (-3)) ∧ ν = zup μ 398 1 (μ 398 1 + zq1 μ)) ∨ ((s = -1 ∨ (0 ≤ s ∧ s < zBV (μ 394) 3 3)) ∧ (zBV (μ 394) 3 3) ≠ 0 ∧ r = some (zI (zif (s = -1) (zPG (zBV (μ 394))).2.1 (zrw (zPG (zBV (μ 394))).2.2.2 (zBV (μ 394) 3 3) (zBV (μ 394) 3 3) s))) ∧ zMf μ ν)) 151 [zR 393, zI s, zI (zBV (μ 394) 3 3), zI (zpo (zBV (μ 394) 3 3) (zBV (μ 394) 3 3).toNat), zI (i : Int), zI u, zI v] [] ζ1 := by
            intro hT u v
            refine z_iconst dX12_order_151 (by decide) ?_
            refine z_istore_6 rfl dX12_order_152 ?_
            have L154 : ∀ (m : Nat) (k : Nat) (ζ5 : zM), (k : Int) ≤ (zBV (μ 394) 3 3) → zBk 2 (μ 394) (ζ5 394) → (∀ y, 0 ≤ y → y < (k : Int) → ζ5 394 (90 + 6 * y + 2) = (fun k => zBV (μ 394) 6 (zrw (i : Int) (zBV (μ 394) 3 3) (zBV (μ 394) 3 3) k)) y) → (∀ x : Nat, x ≠ 394 → ζ5 x = ζ1 x) → (zBV (μ 394) 3 3) - (k : Int) < m → MW X E cX12_order RX12 ({ frames := 6, cells := 0, slots := 0, locals := 142 }) (some .int) (fun r ν => (¬ (s = -1 ∨ (0 ≤ s ∧ s < zBV (μ 394) 3 3)) ∧ r = some (zI (-2)) ∧ ν = zup μ 398 0 (μ 398 0 + zq1 μ)) ∨ ((s = -1 ∨ (0 ≤ s ∧ s < zBV (μ 394) 3 3)) ∧ (zBV (μ 394) 3 3) = 0 ∧ r = some (zI (-3)) ∧ ν = zup μ 398 1 (μ 398 1 + zq1 μ)) ∨ ((s = -1 ∨ (0 ≤ s ∧ s < zBV (μ 394) 3 3)) ∧ (zBV (μ 394) 3 3) ≠ 0 ∧ r = some (zI (zif (s = -1) (zPG (zBV (μ 394))).2.1 (zrw (zPG (zBV (μ 394))).2.2.2 (zBV (μ 394) 3 3) (zBV (μ 394) 3 3) s))) ∧ zMf μ ν)) 154 [zR 393, zI s, zI (zBV (μ 394) 3 3), zI (zpo (zBV (μ 394) 3 3) (zBV (μ 394) 3 3).toNat), zI (i : Int), zI u, zI (k : Int)] [] ζ5 := by
              intro m
              induction m with
              | zero => intro k ζ5 hk9 hbk5 hg5 hz5 h6; omega
              | succ m ih5 =>
                intro k ζ5 hk9 hbk5 hg5 hz5 h6
                refine z_iload_6 dX12_order_154 ?_
                refine z_iload_2 dX12_order_156 ?_
                refine z_icmpge (tgt := 193) dX12_order_157 (by decide) (fun h_157 => ?_) (fun h_157 => ?_)
                · exact J193 hT ζ5 _ _ hbk5 (fun y y0 y1 => hg5 y y0 (by omega)) hz5
                · have gbk := zrw_b (c := (i : Int)) (n := (zBV (μ 394) 3 3)) (k := (k : Int)) (hbp (by omega))
                  have e417 : ζ5 417 (k : Int) = (zrw (i : Int) (zBV (μ 394) 3 3) (zBV (μ 394) 3 3)) (k : Int) := by rw [hz5 417 (by decide)]; exact hrow k (by omega) (by omega)
                  have hwv : ζ5 419 ((zrw (i : Int) (zBV (μ 394) 3 3) (zBV (μ 394) 3 3)) (k : Int)) = zBV (μ 394) 6 ((zrw (i : Int) (zBV (μ 394) 3 3) (zBV (μ 394) 3 3)) (k : Int)) := by rw [hz5 419 (by decide)]; exact hhad1 _ gbk.1 gbk.2
                  refine z_aload_0 dX12_order_160 ?_
                  refine z_getF 394 1 rfl f_X12_7 zl_393 rfl rfl dX12_order_161 ?_
                  refine z_bipush dX12_order_164 (by decide) ?_
                  refine z_bipush dX12_order_166 (by decide) ?_
                  refine z_iload_6 dX12_order_168 ?_
                  refine z_imul dX12_order_170 (by omega) ?_
                  refine z_iadd dX12_order_171 (by omega) ?_
                  refine z_iconst dX12_order_172 (by decide) ?_
                  refine z_iadd dX12_order_173 (by omega) ?_
                  refine z_aload_0 dX12_order_174 ?_
                  refine z_getF 419 26 rfl f_X12_86 zl_393 rfl rfl dX12_order_175 ?_
                  refine z_aload_0 dX12_order_178 ?_
                  refine z_getF 417 24 rfl f_X12_80 zl_393 rfl rfl dX12_order_179 ?_
                  refine z_iload_6 dX12_order_182 ?_
                  refine z_iald zl_417 (by omega) (by omega) dX12_order_184 ?_
                  rw [e417]
                  refine z_iald zl_419 (by omega) (by omega) dX12_order_185 ?_
                  refine z_iast zl_394 (by omega) (by omega) dX12_order_186 ?_
                  refine z_iinc_6 rfl dX12_order_187 (by omega) ?_
                  refine z_goto (tgt := 154) dX12_order_190 (by decide) ?_
                  exact ih5 (k + 1) _ (by omega) (by rw [zup_fu]; exact zBk_u hbk5 (by omega) (by omega)) (fun y y0 y1 => by
                    rw [zup_fu]
                    by_cases e : y = k
                    · rw [e, zfu_e]; exact hwv
                    · rw [zfu_n (by omega)]; exact hg5 y y0 (by omega)) (fun x x1 => by rw [zup_row x1]; exact hz5 x x1) (by omega)
            exact L154 9 0 ζ1 (by omega) hbk1 (fun y y0 y1 => by omega) (fun _ _ => rfl) (by omega)
          have LK : ∀ (m : Nat) (k : Nat) (x : Int), (k : Int) ≤ (zBV (μ 394) 3 3) → x = zb (zUn (zrw (i : Int) (zBV (μ 394) 3 3) (zBV (μ 394) 3 3)) (zBV (μ 394) 3 3) ∧ ∀ y : Int, 0 ≤ y → y < (k : Int) → zBV (μ 394) 6 ((zrw (i : Int) (zBV (μ 394) 3 3) (zBV (μ 394) 3 3)) y) < zBV (μ 394) 7 y) → (zBV (μ 394) 3 3) - (k : Int) < m → MW X E cX12_order RX12 ({ frames := 6, cells := 0, slots := 0, locals := 142 }) (some .int) (fun r ν => (¬ (s = -1 ∨ (0 ≤ s ∧ s < zBV (μ 394) 3 3)) ∧ r = some (zI (-2)) ∧ ν = zup μ 398 0 (μ 398 0 + zq1 μ)) ∨ ((s = -1 ∨ (0 ≤ s ∧ s < zBV (μ 394) 3 3)) ∧ (zBV (μ 394) 3 3) = 0 ∧ r = some (zI (-3)) ∧ ν = zup μ 398 1 (μ 398 1 + zq1 μ)) ∨ ((s = -1 ∨ (0 ≤ s ∧ s < zBV (μ 394) 3 3)) ∧ (zBV (μ 394) 3 3) ≠ 0 ∧ r = some (zI (zif (s = -1) (zPG (zBV (μ 394))).2.1 (zrw (zPG (zBV (μ 394))).2.2.2 (zBV (μ 394) 3 3) (zBV (μ 394) 3 3) s))) ∧ zMf μ ν)) 100 [zR 393, zI s, zI (zBV (μ 394) 3 3), zI (zpo (zBV (μ 394) 3 3) (zBV (μ 394) 3 3).toNat), zI (i : Int), zI x, zI (k : Int)] [] ζ1 := by
            intro m
            induction m with
            | zero => intro k x hk9 hx9 h5; omega
            | succ m ih4 =>
              intro k x hk9 hx9 h5
              refine z_iload_6 dX12_order_100 ?_
              refine z_iload_2 dX12_order_102 ?_
              refine z_icmpge (tgt := 146) dX12_order_103 (by decide) (fun h_103 => ?_) (fun h_103 => ?_)
              · refine z_iload_5 dX12_order_146 ?_
                refine z_ifeq (tgt := 197) dX12_order_148 (by decide) (fun h_148 => ?_) (fun h_148 => ?_)
                · refine z_iinc_4 rfl dX12_order_197 (by omega) ?_
                  refine z_goto (tgt := 81) dX12_order_200 (by decide) ?_
                  have hq9 : ¬ (zUn (zrw (i : Int) (zBV (μ 394) 3 3) (zBV (μ 394) 3 3)) (zBV (μ 394) 3 3) ∧ ∀ y : Int, 0 ≤ y → y < (k : Int) → zBV (μ 394) 6 ((zrw (i : Int) (zBV (μ 394) 3 3) (zBV (μ 394) 3 3)) y) < zBV (μ 394) 7 y) := zb_0.mp (by rw [← hx9]; exact h_148)
                  refine z_weak (ls' := [zR 393, zI s, zI (zBV (μ 394) 3 3), zI (zpo (zBV (μ 394) 3 3) (zBV (μ 394) 3 3).toNat), zI ((i + 1 : Nat) : Int), zU, zU]) ⟨Or.inl rfl, Or.inl rfl, Or.inl rfl, Or.inl rfl, Or.inl rfl, Or.inr rfl, Or.inr rfl, trivial⟩ (ih (i + 1) ζ1 (by omega) (by rw [zSe_s, zif_f (fun q => hq9 ⟨q.1.1, fun y y0 y1 => q.1.2 y y0 (by omega)⟩)]; exact ha1) (by rw [zSe_s, zif_f (fun q => hq9 ⟨q.1.1, fun y y0 y1 => q.1.2 y y0 (by omega)⟩)]; exact hbst1) hbk1 far1 hhad1 hk1 hx1 (by omega))
                · have hq9 : (zUn (zrw (i : Int) (zBV (μ 394) 3 3) (zBV (μ 394) 3 3)) (zBV (μ 394) 3 3) ∧ ∀ y : Int, 0 ≤ y → y < (k : Int) → zBV (μ 394) 6 ((zrw (i : Int) (zBV (μ 394) 3 3) (zBV (μ 394) 3 3)) y) < zBV (μ 394) 7 y) := zb_n.mp (by rw [← hx9]; exact h_148)
                  exact J151 ⟨hq9.1, fun y y0 y1 => hq9.2 y y0 (by omega)⟩ _ _
              · refine z_iload_5 dX12_order_106 ?_
                refine z_ifeq (tgt := 137) dX12_order_108 (by decide) (fun h_108 => ?_) (fun h_108 => ?_)
                · refine z_iconst dX12_order_137 (by decide) ?_
                  refine z_istore_5 rfl dX12_order_138 ?_
                  refine z_iinc_6 rfl dX12_order_140 (by omega) ?_
                  refine z_goto (tgt := 100) dX12_order_143 (by decide) ?_
                  exact ih4 (k + 1) 0 (by omega) (by rw [zb_f]; intro q; have : x = 1 := (by rw [hx9]; exact zb_t ⟨q.1, fun y y0 y1 => q.2 y y0 (by omega)⟩); omega) (by omega)
                · have gbk := zrw_b (c := (i : Int)) (n := (zBV (μ 394) 3 3)) (k := (k : Int)) (hbp (by omega))
                  have e417 : ζ1 417 (k : Int) = (zrw (i : Int) (zBV (μ 394) 3 3) (zBV (μ 394) 3 3)) (k : Int) := hrow k (by omega) (by omega)
                  have hwv : ζ1 419 ((zrw (i : Int) (zBV (μ 394) 3 3) (zBV (μ 394) 3 3)) (k : Int)) = zBV (μ 394) 6 ((zrw (i : Int) (zBV (μ 394) 3 3) (zBV (μ 394) 3 3)) (k : Int)) := hhad1 _ gbk.1 gbk.2
                  have e7 : ζ1 394 (90 + 6 * (k : Int) + 3) = zBV (μ 394) 7 (k : Int) := by rw [hbk1 _ (fun j j0 j1 => by omega)]; exact (zBV_7 (by omega) (by omega)).symm
                  refine z_aload_0 dX12_order_111 ?_
                  refine z_getF 419 26 rfl f_X12_86 zl_393 rfl rfl dX12_order_112 ?_
                  refine z_aload_0 dX12_order_115 ?_
                  refine z_getF 417 24 rfl f_X12_80 zl_393 rfl rfl dX12_order_116 ?_
                  refine z_iload_6 dX12_order_119 ?_
                  refine z_iald zl_417 (by omega) (by omega) dX12_order_121 ?_
                  rw [e417]
                  refine z_iald zl_419 (by omega) (by omega) dX12_order_122 ?_
                  rw [hwv]
                  refine z_aload_0 dX12_order_123 ?_
                  refine z_iload_6 dX12_order_124 ?_
                  refine z_iconst dX12_order_126 (by decide) ?_
                  refine z_callV2 (k_X12_of (by omega) (by omega) (by decide) (by decide)) m_X12_of zl_393 l_X12_147 (Nat.le_of_ble_eq_true rfl) ⟨Nat.le_of_ble_eq_true rfl, Nat.le_of_ble_eq_true rfl⟩ ⟨rfl, rfl⟩ dX12_order_127 (fun r μ1 hp => ?_)
                  obtain ⟨rfl, hv⟩ := hp
                  replace hv := hv.symm
                  subst hv
                  rw [e7]
                  refine z_icmpge (tgt := 137) dX12_order_130 (by decide) (fun h_130 => ?_) (fun h_130 => ?_)
                  · refine z_iconst dX12_order_137 (by decide) ?_
                    refine z_istore_5 rfl dX12_order_138 ?_
                    refine z_iinc_6 rfl dX12_order_140 (by omega) ?_
                    refine z_goto (tgt := 100) dX12_order_143 (by decide) ?_
                    exact ih4 (k + 1) 0 (by omega) (by rw [zb_f]; exact fun q => by have := q.2 k (by omega) (by omega); omega) (by omega)
                  · refine z_iconst dX12_order_133 (by decide) ?_
                    refine z_goto (tgt := 138) dX12_order_134 (by decide) ?_
                    refine z_istore_5 rfl dX12_order_138 ?_
                    refine z_iinc_6 rfl dX12_order_140 (by omega) ?_
                    refine z_goto (tgt := 100) dX12_order_143 (by decide) ?_
                    exact ih4 (k + 1) 1 (by omega) (by rw [zb_t]; have q : (zUn (zrw (i : Int) (zBV (μ 394) 3 3) (zBV (μ 394) 3 3)) (zBV (μ 394) 3 3) ∧ ∀ y : Int, 0 ≤ y → y < (k : Int) → zBV (μ 394) 6 ((zrw (i : Int) (zBV (μ 394) 3 3) (zBV (μ 394) 3 3)) y) < zBV (μ 394) 7 y) := zb_n.mp (by rw [← hx9]; exact h_108); exact ⟨q.1, fun y y0 y1 => by by_cases e : y = k; rw [e]; omega; exact q.2 y y0 (by omega)⟩) (by omega)
          refine z_istore_5 rfl dX12_order_95 ?_
          refine z_iconst dX12_order_97 (by decide) ?_
          refine z_istore_6 rfl dX12_order_98 ?_
          exact LK 9 0 _ (by omega) (zb_c ⟨fun q => ⟨q, fun y y0 y1 => by omega⟩, fun q => q.1⟩) (by omega)
    have LA : ∀ (k : Nat) (i : Nat) (ξ : zM), (i : Int) ≤ (zBV (μ 394) 3 3) → (∀ k, 0 ≤ k → k < (i : Int) → ξ 419 k = (zBV (μ 394)) 6 k) → (∀ x : Nat, x ≠ 419 → ξ x = μ x) → (zBV (μ 394) 3 3) - (i : Int) < k → MW X E cX12_order RX12 ({ frames := 6, cells := 0, slots := 0, locals := 142 }) (some .int) (fun r ν => (¬ (s = -1 ∨ (0 ≤ s ∧ s < zBV (μ 394) 3 3)) ∧ r = some (zI (-2)) ∧ ν = zup μ 398 0 (μ 398 0 + zq1 μ)) ∨ ((s = -1 ∨ (0 ≤ s ∧ s < zBV (μ 394) 3 3)) ∧ (zBV (μ 394) 3 3) = 0 ∧ r = some (zI (-3)) ∧ ν = zup μ 398 1 (μ 398 1 + zq1 μ)) ∨ ((s = -1 ∨ (0 ≤ s ∧ s < zBV (μ 394) 3 3)) ∧ (zBV (μ 394) 3 3) ≠ 0 ∧ r = some (zI (zif (s = -1) (zPG (zBV (μ 394))).2.1 (zrw (zPG (zBV (μ 394))).2.2.2 (zBV (μ 394) 3 3) (zBV (μ 394) 3 3) s))) ∧ zMf μ ν)) 39 [zR 393, zI s, zI (zBV (μ 394) 3 3), zI (zpo (zBV (μ 394) 3 3) i), zI (i : Int), zU, zU] [] ξ := by
      intro k
      induction k with
      | zero => intro i ξ hi hhad hx h7; omega
      | succ k ih =>
        intro i ξ hi hhad hx h7
        refine z_iload_4 dX12_order_39 ?_
        refine z_iload_2 dX12_order_41 ?_
        refine z_icmpge (tgt := 69) dX12_order_42 (by decide) (fun h_42 => ?_) (fun h_42 => ?_)
        · refine z_aload_0 dX12_order_69 ?_
          refine z_iconst dX12_order_70 (by decide) ?_
          refine z_putZ 41 rfl (by decide) f_X12_317 p_12_41 zl_393 rfl rfl dX12_order_71 ?_
          refine z_aload_0 dX12_order_74 ?_
          refine z_callV0 (k_X12_looks) m_X12_looks zl_393 l_X12_255 (Nat.le_of_ble_eq_true rfl) ⟨Nat.le_of_ble_eq_true rfl, Nat.le_of_ble_eq_true rfl⟩ ⟨rfl, rfl⟩ dX12_order_75 (fun r μ1 hp => ?_)
          obtain ⟨rfl, far, hL⟩ := hp
          obtain ⟨ζ0, hζ9⟩ : ∃ z, z = μ1 := ⟨_, rfl⟩
          subst hζ9
          refine z_iconst dX12_order_78 (by decide) ?_
          refine z_istore_4 rfl dX12_order_79 ?_
          have h94 : ζ0 394 = μ 394 := by rw [hL 394 (by decide), zup_row (by decide), hx 394 (by decide)]
          rw [show (i : Nat) = (zBV (μ 394) 3 3).toNat by omega]
          refine z_weak (ls' := [zR 393, zI s, zI (zBV (μ 394) 3 3), zI (zpo (zBV (μ 394) 3 3) (zBV (μ 394) 3 3).toNat), zI ((0 : Nat) : Int), zU, zU]) ⟨Or.inl rfl, Or.inl rfl, Or.inl rfl, Or.inl rfl, Or.inl rfl, Or.inr rfl, Or.inr rfl, trivial⟩ ?_
          exact LB 8000 0 ζ0 (by omega) (by rw [hL 393 (by decide), zup_eq]; rfl) (fun q => absurd q (by show ¬ ((0 : Int) = 1); decide)) (by rw [h94]; exact fun _ _ => rfl) (by rw [show zup ξ 393 41 0 394 = μ 394 by rw [zup_row (by decide), hx 394 (by decide)]] at far; exact far) (fun k k0 k1 => by rw [hL 419 (by decide), zup_row (by decide)]; exact hhad k k0 (by omega)) (fun k _ _ _ _ _ k41 => by rw [hL 393 (by decide), zup_ne (Or.inr k41), hx 393 (by decide)]) (fun x x1 _ x3 => by rw [hL x (by omega), zup_row x1]; exact hx x (by omega)) (by omega)
        · have q1 := zpo_b np.1 (show (zBV (μ 394) 3 3) ≤ 6 by omega) (n := i) (by omega)
          have q2 := zpo_b np.1 (show (zBV (μ 394) 3 3) ≤ 6 by omega) (n := i + 1) (by omega)
          rw [zpo_s] at q2
          have h94 : ξ 394 = μ 394 := hx 394 (by decide)
          have e6 : ξ 394 (90 + 6 * (i : Int) + 2) = zBV (μ 394) 6 (i : Int) := by rw [h94]; exact (zBV_6 (by omega) (by omega)).symm
          refine z_iload_3 dX12_order_45 ?_
          refine z_iload_2 dX12_order_46 ?_
          refine z_imul dX12_order_47 (by omega) ?_
          refine z_istore_3 rfl dX12_order_48 ?_
          refine z_aload_0 dX12_order_49 ?_
          refine z_getF 419 26 rfl f_X12_86 zl_393 rfl rfl dX12_order_50 ?_
          refine z_iload_4 dX12_order_53 ?_
          refine z_aload_0 dX12_order_55 ?_
          refine z_iload_4 dX12_order_56 ?_
          refine z_iconst dX12_order_58 (by decide) ?_
          refine z_callV2 (k_X12_of (by omega) (by omega) (by decide) (by decide)) m_X12_of zl_393 l_X12_147 (Nat.le_of_ble_eq_true rfl) ⟨Nat.le_of_ble_eq_true rfl, Nat.le_of_ble_eq_true rfl⟩ ⟨rfl, rfl⟩ dX12_order_59 (fun r μ1 hp => ?_)
          obtain ⟨rfl, hv⟩ := hp
          replace hv := hv.symm
          subst hv
          refine z_iast zl_419 (by omega) (by omega) dX12_order_62 ?_
          refine z_iinc_4 rfl dX12_order_63 (by omega) ?_
          refine z_goto (tgt := 39) dX12_order_66 (by decide) ?_
          refine z_weak (ls' := [zR 393, zI s, zI (zBV (μ 394) 3 3), zI (zpo (zBV (μ 394) 3 3) (i + 1)), zI ((i + 1 : Nat) : Int), zU, zU]) ⟨Or.inl rfl, Or.inl rfl, Or.inl rfl, Or.inl rfl, Or.inl rfl, Or.inr rfl, Or.inr rfl, trivial⟩ (ih (i + 1) _ (by omega) (fun y y0 y1 => by
            by_cases e : y = i
            · rw [e, zup_eq]; exact e6
            · rw [zup_ne (Or.inr e)]; exact hhad y y0 (by omega)) (fun x x1 => by rw [zup_row x1]; exact hx x x1) (by omega))
    refine z_iconst dX12_order_34 (by decide) ?_
    refine z_istore_3 rfl dX12_order_35 ?_
    refine z_iconst dX12_order_36 (by decide) ?_
    refine z_istore_4 rfl dX12_order_37 ?_
    exact LA 9 0 μ (by omega) (fun y y0 y1 => by omega) (fun _ _ => rfl) (by omega)
  refine z_iload_1 dX12_order_0 ?_
  refine z_iconst dX12_order_1 (by decide) ?_
  refine z_icmpeq (tgt := 18) dX12_order_2 (by decide) (fun h_2 => ?_) (fun h_2 => ?_)
  · refine z_aload_0 dX12_order_18 ?_
    refine z_getF 394 1 rfl f_X12_7 zl_393 rfl rfl dX12_order_19 ?_
    refine z_iconst dX12_order_22 (by decide) ?_
    refine z_iald zl_394 (by omega) (by omega) dX12_order_23 ?_
    rw [show μ 394 2 = (zBV (μ 394) 3 3) from rfl]
    refine z_istore_2 rfl dX12_order_24 ?_
    refine z_iload_2 dX12_order_25 ?_
    refine z_ifne (tgt := 34) dX12_order_26 (by decide) (fun h_26 => ?_) (fun h_26 => ?_)
    · exact J34 (by first | exact Or.inl h_2 | exact Or.inr h_10) h_26
    · refine z_aload_0 dX12_order_29 ?_
      refine z_callV0 (k_X12_no hm) m_X12_no zl_393 l_X12_124 (Nat.le_of_ble_eq_true rfl) ⟨Nat.le_of_ble_eq_true rfl, Nat.le_of_ble_eq_true rfl⟩ ⟨rfl, rfl⟩ dX12_order_30 (fun r μ1 hp => ?_)
      obtain ⟨rfl, hv⟩ := hp
      replace hv := hv.symm
      subst hv
      exact z_iret dX12_order_33 (Or.inr (Or.inl ⟨by first | exact Or.inl h_2 | exact Or.inr h_10, h_26, rfl, rfl⟩))
  · refine z_aload_0 dX12_order_5 ?_
    refine z_iload_1 dX12_order_6 ?_
    refine z_callV1 (k_X12_isSleeper hm) m_X12_isSleeper zl_393 l_X12_141 (Nat.le_of_ble_eq_true rfl) ⟨Nat.le_of_ble_eq_true rfl, Nat.le_of_ble_eq_true rfl⟩ ⟨rfl, rfl⟩ dX12_order_7 (fun r μ1 hp => ?_)
    obtain ⟨rfl, hv⟩ := hp
    replace hv := hv.symm
    subst hv
    refine z_ifne (tgt := 18) dX12_order_10 (by decide) (fun h_10 => ?_) (fun h_10 => ?_)
    · replace h_10 := zb_n.mp h_10
      refine z_aload_0 dX12_order_18 ?_
      refine z_getF 394 1 rfl f_X12_7 zl_393 rfl rfl dX12_order_19 ?_
      refine z_iconst dX12_order_22 (by decide) ?_
      refine z_iald zl_394 (by omega) (by omega) dX12_order_23 ?_
      rw [show μ 394 2 = (zBV (μ 394) 3 3) from rfl]
      refine z_istore_2 rfl dX12_order_24 ?_
      refine z_iload_2 dX12_order_25 ?_
      refine z_ifne (tgt := 34) dX12_order_26 (by decide) (fun h_26 => ?_) (fun h_26 => ?_)
      · exact J34 (by first | exact Or.inl h_2 | exact Or.inr h_10) h_26
      · refine z_aload_0 dX12_order_29 ?_
        refine z_callV0 (k_X12_no hm) m_X12_no zl_393 l_X12_124 (Nat.le_of_ble_eq_true rfl) ⟨Nat.le_of_ble_eq_true rfl, Nat.le_of_ble_eq_true rfl⟩ ⟨rfl, rfl⟩ dX12_order_30 (fun r μ1 hp => ?_)
        obtain ⟨rfl, hv⟩ := hp
        replace hv := hv.symm
        subst hv
        exact z_iret dX12_order_33 (Or.inr (Or.inl ⟨by first | exact Or.inl h_2 | exact Or.inr h_10, h_26, rfl, rfl⟩))
    · replace h_10 := zb_0.mp h_10
      refine z_aload_0 dX12_order_13 ?_
      refine z_callV0 (k_X12_bad hm) m_X12_bad zl_393 l_X12_117 (Nat.le_of_ble_eq_true rfl) ⟨Nat.le_of_ble_eq_true rfl, Nat.le_of_ble_eq_true rfl⟩ ⟨rfl, rfl⟩ dX12_order_14 (fun r μ1 hp => ?_)
      obtain ⟨rfl, hv⟩ := hp
      replace hv := hv.symm
      subst hv
      exact z_iret dX12_order_17 (Or.inl ⟨fun q => q.elim h_2 h_10, rfl, rfl⟩)
