theorem zMf_l {μ ν : zM} (h : ∀ x : Nat, x ≠ 402 → ν x = μ x) : zMf μ ν := ⟨fun k _ _ _ _ _ _ => by rw [h 393 (by decide)], fun x _ x2 => h x (by omega)⟩
theorem zMf_n {μ ν : zM} (h : zRf μ ν) : zMf μ ν := ⟨fun k a b c _ _ _ => h.1 k a b c, fun x a b => h.2 x a (by omega)⟩
theorem zMf_t {μ ν ξ : zM} (h : zMf μ ν) (g : zMf ν ξ) : zMf μ ξ := ⟨fun k a b c d e f => (g.1 k a b c d e f).trans (h.1 k a b c d e f), fun x a b => (g.2 x a b).trans (h.2 x a b)⟩
set_option maxRecDepth 100000 in
set_option maxHeartbeats 4000000 in
theorem k_X12_slept {l : Launch} {E : zE} {μ : zM} (hm : zMpre μ) (hq : μ 393 18 = 0) {s : Int} : Ct l E yX12_slept cX12_slept 2 (some .int) ({ frames := 5, cells := 0, slots := 0, locals := 121 }) [zR 393, zI s] μ (fun r ν => (¬ (0 ≤ s ∧ s < zBV (μ 394) 3 3) ∧ r = some (zI (-2)) ∧ ν = zup μ 398 0 (μ 398 0 + zq1 μ)) ∨ ((0 ≤ s ∧ s < zBV (μ 394) 3 3) ∧ r = some (zI ((zNV (zBV (μ 394)) 0) 3 s)) ∧ zMf μ ν)) := by
  refine Ct.of RX12 [zR 393, zI s] (by decide +kernel) rfl ⟨rfl, rfl⟩ rfl (Nat.le_of_ble_eq_true rfl) (fun X hX hc0 ha0 => ?_)
  subst hX
  refine z_aload_0 dX12_slept_0 ?_
  refine z_iload_1 dX12_slept_1 ?_
  refine z_callV1 (k_X12_isSleeper hm) m_X12_isSleeper zl_393 l_X12_141 (Nat.le_of_ble_eq_true rfl) ⟨Nat.le_of_ble_eq_true rfl, Nat.le_of_ble_eq_true rfl⟩ ⟨rfl, rfl⟩ dX12_slept_2 (fun r μ1 hp => ?_)
  obtain ⟨rfl, hv⟩ := hp
  replace hv := hv.symm
  subst hv
  refine z_ifne (tgt := 13) dX12_slept_5 (by decide) (fun h_5 => ?_) (fun h_5 => ?_)
  · replace h_5 := zb_n.mp h_5
    refine z_aload_0 dX12_slept_13 ?_
    refine z_callV0 (k_X12_looks) m_X12_looks zl_393 l_X12_255 (Nat.le_of_ble_eq_true rfl) ⟨Nat.le_of_ble_eq_true rfl, Nat.le_of_ble_eq_true rfl⟩ ⟨rfl, rfl⟩ dX12_slept_14 (fun r μ1 hp => ?_)
    obtain ⟨rfl, far, hL⟩ := hp
    obtain ⟨ζ0, hζ9⟩ : ∃ z, z = μ1 := ⟨_, rfl⟩
    subst hζ9
    have hV0 : zBV (ζ0 394) = zBV (μ 394) := by rw [hL 394 (by decide)]
    have hq0 : ζ0 393 18 = 0 := by rw [hL 393 (by decide)]; exact hq
    have np := hm.1.2.1.1
    have pc3 : zBV (μ 394) 3 3 = μ 394 2 := rfl
    refine z_aload_0 dX12_slept_17 ?_
    refine z_callV0 (k_X12_nights (V := zBV (μ 394)) hV0 hm.1 far (by rw [hq0]; decide)) m_X12_nights zl_393 l_X12_302 (Nat.le_of_ble_eq_true rfl) ⟨Nat.le_of_ble_eq_true rfl, Nat.le_of_ble_eq_true rfl⟩ ⟨rfl, rfl⟩ dX12_slept_18 (fun r μ1 hp => ?_)
    obtain ⟨rfl, hni, hw32, hw33, hrf⟩ := hp
    obtain ⟨ζ, hζ9⟩ : ∃ z, z = μ1 := ⟨_, rfl⟩
    subst hζ9
    rw [hq0] at hni hw32 hw33
    have hmf : zMf μ ζ := zMf_t (zMf_l hL) (zMf_n hrf)
    have h94 : ζ 394 = μ 394 := by rw [hrf.2 394 (by decide) (by decide), hL 394 (by decide)]
    refine z_aload_0 dX12_slept_21 ?_
    refine z_getF 406 13 rfl f_X12_47 zl_393 rfl rfl dX12_slept_22 ?_
    refine z_iload_1 dX12_slept_25 ?_
    refine z_iald zl_406 (by omega) (by omega) dX12_slept_26 ?_
    exact z_iret dX12_slept_27 (Or.inr ⟨h_5, congrArg (fun z => (some (zI z) : Option zAV)) ((hni s h_5.1 h_5.2).1.2.1), hmf⟩)
  · replace h_5 := zb_0.mp h_5
    refine z_aload_0 dX12_slept_8 ?_
    refine z_callV0 (k_X12_bad hm) m_X12_bad zl_393 l_X12_117 (Nat.le_of_ble_eq_true rfl) ⟨Nat.le_of_ble_eq_true rfl, Nat.le_of_ble_eq_true rfl⟩ ⟨rfl, rfl⟩ dX12_slept_9 (fun r μ1 hp => ?_)
    obtain ⟨rfl, hv⟩ := hp
    replace hv := hv.symm
    subst hv
    exact z_iret dX12_slept_12 (Or.inl ⟨by first | exact h_5, rfl, rfl⟩)
set_option maxRecDepth 100000 in
set_option maxHeartbeats 4000000 in
theorem k_X12_is {l : Launch} {E : zE} {μ : zM} (hm : zMpre μ) (hq : μ 393 18 = 0) {s t : Int} : Ct l E yX12_is cX12_is 3 (some .int) ({ frames := 5, cells := 0, slots := 0, locals := 121 }) [zR 393, zI s, zI t] μ (fun r ν => (¬ ((0 ≤ s ∧ s < zBV (μ 394) 3 3) ∧ 0 ≤ t ∧ t ≤ 39) ∧ r = some (zI (-2)) ∧ ν = zup μ 398 0 (μ 398 0 + zq1 μ)) ∨ (((0 ≤ s ∧ s < zBV (μ 394) 3 3) ∧ 0 ≤ t ∧ t ≤ 39) ∧ r = some (zI ((zNV (zBV (μ 394)) 0) 11 (40 * s + t))) ∧ zMf μ ν)) := by
  refine Ct.of RX12 [zR 393, zI s, zI t] (by decide +kernel) rfl ⟨rfl, rfl⟩ rfl (Nat.le_of_ble_eq_true rfl) (fun X hX hc0 ha0 => ?_)
  subst hX
  refine z_aload_0 dX12_is_0 ?_
  refine z_iload_1 dX12_is_1 ?_
  refine z_callV1 (k_X12_isSleeper hm) m_X12_isSleeper zl_393 l_X12_141 (Nat.le_of_ble_eq_true rfl) ⟨Nat.le_of_ble_eq_true rfl, Nat.le_of_ble_eq_true rfl⟩ ⟨rfl, rfl⟩ dX12_is_2 (fun r μ1 hp => ?_)
  obtain ⟨rfl, hv⟩ := hp
  replace hv := hv.symm
  subst hv
  refine z_ifeq (tgt := 20) dX12_is_5 (by decide) (fun h_5 => ?_) (fun h_5 => ?_)
  · replace h_5 := zb_0.mp h_5
    refine z_aload_0 dX12_is_20 ?_
    refine z_callV0 (k_X12_bad hm) m_X12_bad zl_393 l_X12_117 (Nat.le_of_ble_eq_true rfl) ⟨Nat.le_of_ble_eq_true rfl, Nat.le_of_ble_eq_true rfl⟩ ⟨rfl, rfl⟩ dX12_is_21 (fun r μ1 hp => ?_)
    obtain ⟨rfl, hv⟩ := hp
    replace hv := hv.symm
    subst hv
    exact z_iret dX12_is_24 (Or.inl ⟨by first | exact fun q => h_5 q.1 | exact fun q => h_17 q.2, rfl, rfl⟩)
  · replace h_5 := zb_n.mp h_5
    refine z_iload_2 dX12_is_8 ?_
    refine z_i2l dX12_is_9 ?_
    refine z_lconst0 dX12_is_10 ?_
    refine z_ldc2 (n := 39) k_X12_139 dX12_is_11 (by decide +kernel) ?_
    refine z_callS3 (k_X12_in) m_X12_in l_X12_106 (Nat.le_of_ble_eq_true rfl) ⟨Nat.le_of_ble_eq_true rfl, Nat.le_of_ble_eq_true rfl⟩ ⟨rfl, rfl⟩ dX12_is_14 (fun r μ1 hp => ?_)
    obtain ⟨rfl, hv⟩ := hp
    replace hv := hv.symm
    subst hv
    refine z_ifne (tgt := 25) dX12_is_17 (by decide) (fun h_17 => ?_) (fun h_17 => ?_)
    · replace h_17 := zb_n.mp h_17
      refine z_aload_0 dX12_is_25 ?_
      refine z_callV0 (k_X12_looks) m_X12_looks zl_393 l_X12_255 (Nat.le_of_ble_eq_true rfl) ⟨Nat.le_of_ble_eq_true rfl, Nat.le_of_ble_eq_true rfl⟩ ⟨rfl, rfl⟩ dX12_is_26 (fun r μ1 hp => ?_)
      obtain ⟨rfl, far, hL⟩ := hp
      obtain ⟨ζ0, hζ9⟩ : ∃ z, z = μ1 := ⟨_, rfl⟩
      subst hζ9
      have hV0 : zBV (ζ0 394) = zBV (μ 394) := by rw [hL 394 (by decide)]
      have hq0 : ζ0 393 18 = 0 := by rw [hL 393 (by decide)]; exact hq
      have np := hm.1.2.1.1
      have pc3 : zBV (μ 394) 3 3 = μ 394 2 := rfl
      refine z_aload_0 dX12_is_29 ?_
      refine z_callV0 (k_X12_nights (V := zBV (μ 394)) hV0 hm.1 far (by rw [hq0]; decide)) m_X12_nights zl_393 l_X12_302 (Nat.le_of_ble_eq_true rfl) ⟨Nat.le_of_ble_eq_true rfl, Nat.le_of_ble_eq_true rfl⟩ ⟨rfl, rfl⟩ dX12_is_30 (fun r μ1 hp => ?_)
      obtain ⟨rfl, hni, hw32, hw33, hrf⟩ := hp
      obtain ⟨ζ, hζ9⟩ : ∃ z, z = μ1 := ⟨_, rfl⟩
      subst hζ9
      rw [hq0] at hni hw32 hw33
      have hmf : zMf μ ζ := zMf_t (zMf_l hL) (zMf_n hrf)
      have h94 : ζ 394 = μ 394 := by rw [hrf.2 394 (by decide) (by decide), hL 394 (by decide)]
      refine z_aload_0 dX12_is_33 ?_
      refine z_getF 407 14 rfl f_X12_50 zl_393 rfl rfl dX12_is_34 ?_
      refine z_bipush dX12_is_37 (by decide) ?_
      refine z_iload_1 dX12_is_39 ?_
      have hsb : s < 5 := by have := h_5.2; omega
      refine z_imul dX12_is_40 (by omega) ?_
      refine z_iload_2 dX12_is_41 ?_
      refine z_iadd dX12_is_42 (by omega) ?_
      refine z_iald zl_407 (by omega) (by omega) dX12_is_43 ?_
      exact z_iret dX12_is_44 (Or.inr ⟨⟨h_5, h_17⟩, congrArg (fun z => (some (zI z) : Option zAV)) ((hni s h_5.1 h_5.2).2 t h_17.1 (by omega)), hmf⟩)
    · replace h_17 := zb_0.mp h_17
      refine z_aload_0 dX12_is_20 ?_
      refine z_callV0 (k_X12_bad hm) m_X12_bad zl_393 l_X12_117 (Nat.le_of_ble_eq_true rfl) ⟨Nat.le_of_ble_eq_true rfl, Nat.le_of_ble_eq_true rfl⟩ ⟨rfl, rfl⟩ dX12_is_21 (fun r μ1 hp => ?_)
      obtain ⟨rfl, hv⟩ := hp
      replace hv := hv.symm
      subst hv
      exact z_iret dX12_is_24 (Or.inl ⟨by first | exact fun q => h_5 q.1 | exact fun q => h_17 q.2, rfl, rfl⟩)
set_option maxRecDepth 100000 in
set_option maxHeartbeats 4000000 in
theorem k_X12_wakes {l : Launch} {E : zE} {μ : zM} (hm : zMpre μ) (hq : μ 393 18 = 0) {s k : Int} : Ct l E yX12_wakes cX12_wakes 3 (some .int) ({ frames := 5, cells := 0, slots := 0, locals := 121 }) [zR 393, zI s, zI k] μ (fun r ν => (¬ ((0 ≤ s ∧ s < zBV (μ 394) 3 3) ∧ -1 ≤ k) ∧ r = some (zI (-10)) ∧ ν = zup μ 398 0 (μ 398 0 + zq1 μ)) ∨ (((0 ≤ s ∧ s < zBV (μ 394) 3 3) ∧ -1 ≤ k) ∧ r = some (zI (zif (k = -1) ((zNV (zBV (μ 394)) 0) 4 s) (zif (k < (zNV (zBV (μ 394)) 0) 4 s) ((zNV (zBV (μ 394)) 0) 10 (40 * s + k)) (-5)))) ∧ zMf μ ν)) := by
  refine Ct.of RX12 [zR 393, zI s, zI k] (by decide +kernel) rfl ⟨rfl, rfl⟩ rfl (Nat.le_of_ble_eq_true rfl) (fun X hX hc0 ha0 => ?_)
  subst hX
  refine z_aload_0 dX12_wakes_0 ?_
  refine z_iload_1 dX12_wakes_1 ?_
  refine z_callV1 (k_X12_isSleeper hm) m_X12_isSleeper zl_393 l_X12_141 (Nat.le_of_ble_eq_true rfl) ⟨Nat.le_of_ble_eq_true rfl, Nat.le_of_ble_eq_true rfl⟩ ⟨rfl, rfl⟩ dX12_wakes_2 (fun r μ1 hp => ?_)
  obtain ⟨rfl, hv⟩ := hp
  replace hv := hv.symm
  subst hv
  refine z_ifeq (tgt := 13) dX12_wakes_5 (by decide) (fun h_5 => ?_) (fun h_5 => ?_)
  · replace h_5 := zb_0.mp h_5
    refine z_aload_0 dX12_wakes_13 ?_
    refine z_iconst dX12_wakes_14 (by decide) ?_
    refine z_bipush dX12_wakes_15 (by decide) ?_
    refine z_callV2 (k_X12_refuses hm (by decide) (by decide)) m_X12_refuses zl_393 l_X12_100 (Nat.le_of_ble_eq_true rfl) ⟨Nat.le_of_ble_eq_true rfl, Nat.le_of_ble_eq_true rfl⟩ ⟨rfl, rfl⟩ dX12_wakes_17 (fun r μ1 hp => ?_)
    obtain ⟨rfl, hv⟩ := hp
    replace hv := hv.symm
    subst hv
    exact z_iret dX12_wakes_20 (Or.inl ⟨by first | exact fun q => h_5 q.1 | exact fun q => by have := q.2; omega, rfl, rfl⟩)
  · replace h_5 := zb_n.mp h_5
    refine z_iload_2 dX12_wakes_8 ?_
    refine z_iconst dX12_wakes_9 (by decide) ?_
    refine z_icmpge (tgt := 21) dX12_wakes_10 (by decide) (fun h_10 => ?_) (fun h_10 => ?_)
    · refine z_aload_0 dX12_wakes_21 ?_
      refine z_callV0 (k_X12_looks) m_X12_looks zl_393 l_X12_255 (Nat.le_of_ble_eq_true rfl) ⟨Nat.le_of_ble_eq_true rfl, Nat.le_of_ble_eq_true rfl⟩ ⟨rfl, rfl⟩ dX12_wakes_22 (fun r μ1 hp => ?_)
      obtain ⟨rfl, far, hL⟩ := hp
      obtain ⟨ζ0, hζ9⟩ : ∃ z, z = μ1 := ⟨_, rfl⟩
      subst hζ9
      have hV0 : zBV (ζ0 394) = zBV (μ 394) := by rw [hL 394 (by decide)]
      have hq0 : ζ0 393 18 = 0 := by rw [hL 393 (by decide)]; exact hq
      have np := hm.1.2.1.1
      have pc3 : zBV (μ 394) 3 3 = μ 394 2 := rfl
      refine z_aload_0 dX12_wakes_25 ?_
      refine z_callV0 (k_X12_nights (V := zBV (μ 394)) hV0 hm.1 far (by rw [hq0]; decide)) m_X12_nights zl_393 l_X12_302 (Nat.le_of_ble_eq_true rfl) ⟨Nat.le_of_ble_eq_true rfl, Nat.le_of_ble_eq_true rfl⟩ ⟨rfl, rfl⟩ dX12_wakes_26 (fun r μ1 hp => ?_)
      obtain ⟨rfl, hni, hw32, hw33, hrf⟩ := hp
      obtain ⟨ζ, hζ9⟩ : ∃ z, z = μ1 := ⟨_, rfl⟩
      subst hζ9
      rw [hq0] at hni hw32 hw33
      have hmf : zMf μ ζ := zMf_t (zMf_l hL) (zMf_n hrf)
      have h94 : ζ 394 = μ 394 := by rw [hrf.2 394 (by decide) (by decide), hL 394 (by decide)]
      have z1 := (hni s h_5.1 h_5.2).1
      have g2 := z1.2.2.1
      have g5 := z1.2.2.2.2.2
      have w4 := zNV_4 (fan := 0) hm.1 h_5.1 h_5.2
      have w5 : zZt (zBV (μ 394)) 0 40 4 s = zNV (zBV (μ 394)) 0 4 s := rfl
      have hsb : s < 5 := by have := h_5.2; omega
      refine z_iload_2 dX12_wakes_29 ?_
      refine z_iconst dX12_wakes_30 (by decide) ?_
      refine z_icmpne (tgt := 43) dX12_wakes_31 (by decide) (fun h_31 => ?_) (fun h_31 => ?_)
      · refine z_iload_2 dX12_wakes_43 ?_
        refine z_aload_0 dX12_wakes_44 ?_
        refine z_getF 408 15 rfl f_X12_53 zl_393 rfl rfl dX12_wakes_45 ?_
        refine z_iload_1 dX12_wakes_48 ?_
        refine z_iald zl_408 (by omega) (by omega) dX12_wakes_49 ?_
        rw [g2]
        refine z_icmpge (tgt := 82) dX12_wakes_50 (by decide) (fun h_50 => ?_) (fun h_50 => ?_)
        · refine z_bipush dX12_wakes_82 (by decide) ?_
          exact z_iret dX12_wakes_84 (by first | exact Or.inr ⟨⟨h_5, by omega⟩, congrArg (fun z => (some (zI z) : Option zAV)) (by rw [zif_f h_31, zif_f (by omega)]), hmf⟩ | exact Or.inr ⟨⟨h_5, by omega⟩, congrArg (fun z => (some (zI z) : Option zAV)) (by rw [zif_t h_31]; exact g2), hmf⟩)
        · have wk := g5 k (by omega) (by omega)
          have wv := zZt_v (V := zBV (μ 394)) (fan := 0) hm.1 (by decide) h_5.1 h_5.2 40 (by decide) k (by omega) (by omega)
          refine z_bipush dX12_wakes_53 (by decide) ?_
          refine z_aload_0 dX12_wakes_55 ?_
          refine z_getF 409 16 rfl f_X12_56 zl_393 rfl rfl dX12_wakes_56 ?_
          refine z_bipush dX12_wakes_59 (by decide) ?_
          refine z_iload_1 dX12_wakes_61 ?_
          refine z_imul dX12_wakes_62 (by omega) ?_
          refine z_iload_2 dX12_wakes_63 ?_
          refine z_iadd dX12_wakes_64 (by omega) ?_
          refine z_iald zl_409 (by omega) (by omega) dX12_wakes_65 ?_
          refine z_imul dX12_wakes_66 (by omega) ?_
          refine z_aload_0 dX12_wakes_67 ?_
          refine z_getF 410 17 rfl f_X12_59 zl_393 rfl rfl dX12_wakes_68 ?_
          refine z_bipush dX12_wakes_71 (by decide) ?_
          refine z_iload_1 dX12_wakes_73 ?_
          refine z_imul dX12_wakes_74 (by omega) ?_
          refine z_iload_2 dX12_wakes_75 ?_
          refine z_iadd dX12_wakes_76 (by omega) ?_
          refine z_iald zl_410 (by omega) (by omega) dX12_wakes_77 ?_
          refine z_iadd dX12_wakes_78 (by omega) ?_
          refine z_goto (tgt := 84) dX12_wakes_79 (by decide) ?_
          exact z_iret dX12_wakes_84 (by first | exact Or.inr ⟨⟨h_5, by omega⟩, congrArg (fun z => (some (zI z) : Option zAV)) (by rw [zif_f h_31, zif_t (by omega)]; exact (g5 k (by omega) (by omega)).1), hmf⟩ | exact Or.inr ⟨⟨h_5, by omega⟩, congrArg (fun z => (some (zI z) : Option zAV)) (by rw [zif_f h_31, zif_f (by omega)]), hmf⟩ | exact Or.inr ⟨⟨h_5, by omega⟩, congrArg (fun z => (some (zI z) : Option zAV)) (by rw [zif_t h_31]; exact g2), hmf⟩)
      · refine z_aload_0 dX12_wakes_34 ?_
        refine z_getF 408 15 rfl f_X12_53 zl_393 rfl rfl dX12_wakes_35 ?_
        refine z_iload_1 dX12_wakes_38 ?_
        refine z_iald zl_408 (by omega) (by omega) dX12_wakes_39 ?_
        refine z_goto (tgt := 84) dX12_wakes_40 (by decide) ?_
        exact z_iret dX12_wakes_84 (by first | exact Or.inr ⟨⟨h_5, by omega⟩, congrArg (fun z => (some (zI z) : Option zAV)) (by rw [zif_f h_31, zif_t (by omega)]; exact (g5 k (by omega) (by omega)).1), hmf⟩ | exact Or.inr ⟨⟨h_5, by omega⟩, congrArg (fun z => (some (zI z) : Option zAV)) (by rw [zif_t h_31]; exact g2), hmf⟩)
    · refine z_aload_0 dX12_wakes_13 ?_
      refine z_iconst dX12_wakes_14 (by decide) ?_
      refine z_bipush dX12_wakes_15 (by decide) ?_
      refine z_callV2 (k_X12_refuses hm (by decide) (by decide)) m_X12_refuses zl_393 l_X12_100 (Nat.le_of_ble_eq_true rfl) ⟨Nat.le_of_ble_eq_true rfl, Nat.le_of_ble_eq_true rfl⟩ ⟨rfl, rfl⟩ dX12_wakes_17 (fun r μ1 hp => ?_)
      obtain ⟨rfl, hv⟩ := hp
      replace hv := hv.symm
      subst hv
      exact z_iret dX12_wakes_20 (Or.inl ⟨by first | exact fun q => h_5 q.1 | exact fun q => by have := q.2; omega, rfl, rfl⟩)
set_option maxRecDepth 100000 in
set_option maxHeartbeats 4000000 in
theorem k_X12_woke {l : Launch} {E : zE} {μ : zM} (hm : zMpre μ) (hq : μ 393 18 = 0) {s b : Int} : Ct l E yX12_woke cX12_woke 3 (some .int) ({ frames := 5, cells := 0, slots := 0, locals := 121 }) [zR 393, zI s, zI b] μ (fun r ν => (¬ ((0 ≤ s ∧ s < zBV (μ 394) 3 3) ∧ (0 ≤ b ∧ b < zBV (μ 394) 3 3) ∧ s ≠ b) ∧ r = some (zI (-2)) ∧ ν = zup μ 398 0 (μ 398 0 + zq1 μ)) ∨ (((0 ≤ s ∧ s < zBV (μ 394) 3 3) ∧ (0 ≤ b ∧ b < zBV (μ 394) 3 3) ∧ s ≠ b) ∧ r = some (zI (zWb (zNV (zBV (μ 394)) 0) s b)) ∧ zMf μ ν)) := by
  refine Ct.of RX12 [zR 393, zI s, zI b] (by decide +kernel) rfl ⟨rfl, rfl⟩ rfl (Nat.le_of_ble_eq_true rfl) (fun X hX hc0 ha0 => ?_)
  subst hX
  refine z_aload_0 dX12_woke_0 ?_
  refine z_iload_1 dX12_woke_1 ?_
  refine z_callV1 (k_X12_isSleeper hm) m_X12_isSleeper zl_393 l_X12_141 (Nat.le_of_ble_eq_true rfl) ⟨Nat.le_of_ble_eq_true rfl, Nat.le_of_ble_eq_true rfl⟩ ⟨rfl, rfl⟩ dX12_woke_2 (fun r μ1 hp => ?_)
  obtain ⟨rfl, hv⟩ := hp
  replace hv := hv.symm
  subst hv
  refine z_ifeq (tgt := 21) dX12_woke_5 (by decide) (fun h_5 => ?_) (fun h_5 => ?_)
  · replace h_5 := zb_0.mp h_5
    refine z_aload_0 dX12_woke_21 ?_
    refine z_callV0 (k_X12_bad hm) m_X12_bad zl_393 l_X12_117 (Nat.le_of_ble_eq_true rfl) ⟨Nat.le_of_ble_eq_true rfl, Nat.le_of_ble_eq_true rfl⟩ ⟨rfl, rfl⟩ dX12_woke_22 (fun r μ1 hp => ?_)
    obtain ⟨rfl, hv⟩ := hp
    replace hv := hv.symm
    subst hv
    exact z_iret dX12_woke_25 (Or.inl ⟨by first | exact fun q => h_5 q.1 | exact fun q => h_13 q.2.1 | exact fun q => q.2.2 h_18, rfl, rfl⟩)
  · replace h_5 := zb_n.mp h_5
    refine z_aload_0 dX12_woke_8 ?_
    refine z_iload_2 dX12_woke_9 ?_
    refine z_callV1 (k_X12_isSleeper hm) m_X12_isSleeper zl_393 l_X12_141 (Nat.le_of_ble_eq_true rfl) ⟨Nat.le_of_ble_eq_true rfl, Nat.le_of_ble_eq_true rfl⟩ ⟨rfl, rfl⟩ dX12_woke_10 (fun r μ1 hp => ?_)
    obtain ⟨rfl, hv⟩ := hp
    replace hv := hv.symm
    subst hv
    refine z_ifeq (tgt := 21) dX12_woke_13 (by decide) (fun h_13 => ?_) (fun h_13 => ?_)
    · replace h_13 := zb_0.mp h_13
      refine z_aload_0 dX12_woke_21 ?_
      refine z_callV0 (k_X12_bad hm) m_X12_bad zl_393 l_X12_117 (Nat.le_of_ble_eq_true rfl) ⟨Nat.le_of_ble_eq_true rfl, Nat.le_of_ble_eq_true rfl⟩ ⟨rfl, rfl⟩ dX12_woke_22 (fun r μ1 hp => ?_)
      obtain ⟨rfl, hv⟩ := hp
      replace hv := hv.symm
      subst hv
      exact z_iret dX12_woke_25 (Or.inl ⟨by first | exact fun q => h_5 q.1 | exact fun q => h_13 q.2.1 | exact fun q => q.2.2 h_18, rfl, rfl⟩)
    · replace h_13 := zb_n.mp h_13
      refine z_iload_1 dX12_woke_16 ?_
      refine z_iload_2 dX12_woke_17 ?_
      refine z_icmpne (tgt := 26) dX12_woke_18 (by decide) (fun h_18 => ?_) (fun h_18 => ?_)
      · refine z_aload_0 dX12_woke_26 ?_
        refine z_callV0 (k_X12_looks) m_X12_looks zl_393 l_X12_255 (Nat.le_of_ble_eq_true rfl) ⟨Nat.le_of_ble_eq_true rfl, Nat.le_of_ble_eq_true rfl⟩ ⟨rfl, rfl⟩ dX12_woke_27 (fun r μ1 hp => ?_)
        obtain ⟨rfl, far, hL⟩ := hp
        obtain ⟨ζ0, hζ9⟩ : ∃ z, z = μ1 := ⟨_, rfl⟩
        subst hζ9
        have hV0 : zBV (ζ0 394) = zBV (μ 394) := by rw [hL 394 (by decide)]
        have hq0 : ζ0 393 18 = 0 := by rw [hL 393 (by decide)]; exact hq
        have np := hm.1.2.1.1
        have pc3 : zBV (μ 394) 3 3 = μ 394 2 := rfl
        refine z_aload_0 dX12_woke_30 ?_
        refine z_callV0 (k_X12_nights (V := zBV (μ 394)) hV0 hm.1 far (by rw [hq0]; decide)) m_X12_nights zl_393 l_X12_302 (Nat.le_of_ble_eq_true rfl) ⟨Nat.le_of_ble_eq_true rfl, Nat.le_of_ble_eq_true rfl⟩ ⟨rfl, rfl⟩ dX12_woke_31 (fun r μ1 hp => ?_)
        obtain ⟨rfl, hni, hw32, hw33, hrf⟩ := hp
        obtain ⟨ζ, hζ9⟩ : ∃ z, z = μ1 := ⟨_, rfl⟩
        subst hζ9
        rw [hq0] at hni hw32 hw33
        have hmf : zMf μ ζ := zMf_t (zMf_l hL) (zMf_n hrf)
        have h94 : ζ 394 = μ 394 := by rw [hrf.2 394 (by decide) (by decide), hL 394 (by decide)]
        refine z_aload_0 dX12_woke_34 ?_
        refine z_iload_1 dX12_woke_35 ?_
        refine z_iload_2 dX12_woke_36 ?_
        refine z_callV2 (k_X12_wokeBy (S := (zNV (zBV (μ 394)) 0)) h_13.1 (by have := h_13.2; omega) (hni b h_13.1 h_13.2).1 (zNV_4 hm.1 h_13.1 h_13.2)) m_X12_wokeBy zl_393 l_X12_305 (Nat.le_of_ble_eq_true rfl) ⟨Nat.le_of_ble_eq_true rfl, Nat.le_of_ble_eq_true rfl⟩ ⟨rfl, rfl⟩ dX12_woke_37 (fun r μ1 hp => ?_)
        obtain ⟨rfl, hv⟩ := hp
        replace hv := hv.symm
        subst hv
        exact z_iret dX12_woke_40 (Or.inr ⟨⟨h_5, h_13, h_18⟩, rfl, hmf⟩)
      · refine z_aload_0 dX12_woke_21 ?_
        refine z_callV0 (k_X12_bad hm) m_X12_bad zl_393 l_X12_117 (Nat.le_of_ble_eq_true rfl) ⟨Nat.le_of_ble_eq_true rfl, Nat.le_of_ble_eq_true rfl⟩ ⟨rfl, rfl⟩ dX12_woke_22 (fun r μ1 hp => ?_)
        obtain ⟨rfl, hv⟩ := hp
        replace hv := hv.symm
        subst hv
        exact z_iret dX12_woke_25 (Or.inl ⟨by first | exact fun q => h_5 q.1 | exact fun q => h_13 q.2.1 | exact fun q => q.2.2 h_18, rfl, rfl⟩)
set_option maxRecDepth 100000 in
set_option maxHeartbeats 4000000 in
theorem k_X12_night {l : Launch} {E : zE} {μ : zM} (hm : zMpre μ) (hq : μ 393 18 = 0) {w : Int} : Ct l E yX12_night cX12_night 2 (some .int) ({ frames := 5, cells := 0, slots := 0, locals := 121 }) [zR 393, zI w] μ (fun r ν => (¬ (w = 0 ∨ w = 1) ∧ r = some (zI (-2)) ∧ ν = zup μ 398 0 (μ 398 0 + zq1 μ)) ∨ ((w = 0 ∨ w = 1) ∧ r = some (zI (zif (w = 0) (zWR (zBV (μ 394)) 0) (zGR (zBV (μ 394)) 0))) ∧ zMf μ ν)) := by
  refine Ct.of RX12 [zR 393, zI w] (by decide +kernel) rfl ⟨rfl, rfl⟩ rfl (Nat.le_of_ble_eq_true rfl) (fun X hX hc0 ha0 => ?_)
  subst hX
  refine z_iload_1 dX12_night_0 ?_
  refine z_i2l dX12_night_1 ?_
  refine z_lconst0 dX12_night_2 ?_
  refine z_lconst1 dX12_night_3 ?_
  refine z_callS3 (k_X12_in) m_X12_in l_X12_106 (Nat.le_of_ble_eq_true rfl) ⟨Nat.le_of_ble_eq_true rfl, Nat.le_of_ble_eq_true rfl⟩ ⟨rfl, rfl⟩ dX12_night_4 (fun r μ1 hp => ?_)
  obtain ⟨rfl, hv⟩ := hp
  replace hv := hv.symm
  subst hv
  refine z_ifne (tgt := 15) dX12_night_7 (by decide) (fun h_7 => ?_) (fun h_7 => ?_)
  · replace h_7 := zb_n.mp h_7
    refine z_aload_0 dX12_night_15 ?_
    refine z_callV0 (k_X12_looks) m_X12_looks zl_393 l_X12_255 (Nat.le_of_ble_eq_true rfl) ⟨Nat.le_of_ble_eq_true rfl, Nat.le_of_ble_eq_true rfl⟩ ⟨rfl, rfl⟩ dX12_night_16 (fun r μ1 hp => ?_)
    obtain ⟨rfl, far, hL⟩ := hp
    obtain ⟨ζ0, hζ9⟩ : ∃ z, z = μ1 := ⟨_, rfl⟩
    subst hζ9
    have hV0 : zBV (ζ0 394) = zBV (μ 394) := by rw [hL 394 (by decide)]
    have hq0 : ζ0 393 18 = 0 := by rw [hL 393 (by decide)]; exact hq
    have np := hm.1.2.1.1
    have pc3 : zBV (μ 394) 3 3 = μ 394 2 := rfl
    refine z_aload_0 dX12_night_19 ?_
    refine z_callV0 (k_X12_nights (V := zBV (μ 394)) hV0 hm.1 far (by rw [hq0]; decide)) m_X12_nights zl_393 l_X12_302 (Nat.le_of_ble_eq_true rfl) ⟨Nat.le_of_ble_eq_true rfl, Nat.le_of_ble_eq_true rfl⟩ ⟨rfl, rfl⟩ dX12_night_20 (fun r μ1 hp => ?_)
    obtain ⟨rfl, hni, hw32, hw33, hrf⟩ := hp
    obtain ⟨ζ, hζ9⟩ : ∃ z, z = μ1 := ⟨_, rfl⟩
    subst hζ9
    rw [hq0] at hni hw32 hw33
    have hmf : zMf μ ζ := zMf_t (zMf_l hL) (zMf_n hrf)
    have h94 : ζ 394 = μ 394 := by rw [hrf.2 394 (by decide) (by decide), hL 394 (by decide)]
    refine z_iload_1 dX12_night_23 ?_
    refine z_ifne (tgt := 34) dX12_night_24 (by decide) (fun h_24 => ?_) (fun h_24 => ?_)
    · refine z_aload_0 dX12_night_34 ?_
      refine z_getI 33 rfl f_X12_299 zl_393 rfl dX12_night_35 ?_
      exact z_iret dX12_night_38 (by first | exact Or.inr ⟨by omega, congrArg (fun z => (some (zI z) : Option zAV)) (hw32.trans (zif_t (by omega)).symm), hmf⟩ | exact Or.inr ⟨by omega, congrArg (fun z => (some (zI z) : Option zAV)) (hw33.trans (zif_f (by omega)).symm), hmf⟩)
    · refine z_aload_0 dX12_night_27 ?_
      refine z_getI 32 rfl f_X12_296 zl_393 rfl dX12_night_28 ?_
      refine z_goto (tgt := 38) dX12_night_31 (by decide) ?_
      exact z_iret dX12_night_38 (by first | exact Or.inr ⟨by omega, congrArg (fun z => (some (zI z) : Option zAV)) (hw32.trans (zif_t (by omega)).symm), hmf⟩ | exact Or.inr ⟨by omega, congrArg (fun z => (some (zI z) : Option zAV)) (hw33.trans (zif_f (by omega)).symm), hmf⟩)
  · replace h_7 := zb_0.mp h_7
    refine z_aload_0 dX12_night_10 ?_
    refine z_callV0 (k_X12_bad hm) m_X12_bad zl_393 l_X12_117 (Nat.le_of_ble_eq_true rfl) ⟨Nat.le_of_ble_eq_true rfl, Nat.le_of_ble_eq_true rfl⟩ ⟨rfl, rfl⟩ dX12_night_11 (fun r μ1 hp => ?_)
    obtain ⟨rfl, hv⟩ := hp
    replace hv := hv.symm
    subst hv
    exact z_iret dX12_night_14 (Or.inl ⟨by omega, rfl, rfl⟩)
set_option maxRecDepth 100000 in
set_option maxHeartbeats 4000000 in
theorem k_X12_temperOf {l : Launch} {E : zE} {μ : zM} {s k : Int} (s0 : 0 ≤ s) (s1 : s < 5) (hk : 0 ≤ k ∧ k ≤ 14) (h3 : 0 ≤ μ 406 s ∧ μ 406 s ≤ 40) : Ct l E yX12_temperOf cX12_temperOf 3 (some .int) ({ frames := 0, cells := 0, slots := 0, locals := 0 }) [zR 393, zI s, zI k] μ (fun r ν => r = some (zI (k * zLk (μ 406 s))) ∧ ν = μ) := by
  refine Ct.of RX12 [zR 393, zI s, zI k] (by decide +kernel) rfl ⟨rfl, rfl⟩ rfl (Nat.le_of_ble_eq_true rfl) (fun X hX hc0 ha0 => ?_)
  subst hX
  refine z_aload_0 dX12_temperOf_0 ?_
  refine z_getF 406 13 rfl f_X12_47 zl_393 rfl rfl dX12_temperOf_1 ?_
  refine z_iload_1 dX12_temperOf_4 ?_
  refine z_iald zl_406 (by omega) (by omega) dX12_temperOf_5 ?_
  refine z_bipush dX12_temperOf_6 (by decide) ?_
  refine z_icmpge (tgt := 25) dX12_temperOf_8 (by decide) (fun h_8 => ?_) (fun h_8 => ?_)
  · refine z_iconst dX12_temperOf_25 (by decide) ?_
    exact z_iret dX12_temperOf_26 (⟨congrArg (fun z => (some (zI z) : Option zAV)) (by first | rw [lk] | (rw [show zLk (μ 406 s) = 0 by unfold zLk; omega, Int.mul_zero])), rfl⟩)
  · refine z_iload_2 dX12_temperOf_11 ?_
    refine z_bipush dX12_temperOf_12 (by decide) ?_
    refine z_aload_0 dX12_temperOf_14 ?_
    refine z_getF 406 13 rfl f_X12_47 zl_393 rfl rfl dX12_temperOf_15 ?_
    refine z_iload_1 dX12_temperOf_18 ?_
    refine z_iald zl_406 (by omega) (by omega) dX12_temperOf_19 ?_
    refine z_isub dX12_temperOf_20 (by omega) ?_
    have lk : zLk (μ 406 s) = 24 - μ 406 s := by unfold zLk; omega
    have mb : 0 ≤ k * (24 - μ 406 s) ∧ k * (24 - μ 406 s) ≤ 14 * 24 := ⟨Int.mul_nonneg hk.1 (by omega), Int.mul_le_mul hk.2 (by omega) (by omega) (by decide)⟩
    refine z_imul dX12_temperOf_21 (by omega) ?_
    refine z_goto (tgt := 26) dX12_temperOf_22 (by decide) ?_
    exact z_iret dX12_temperOf_26 (⟨congrArg (fun z => (some (zI z) : Option zAV)) (by first | rw [lk] | (rw [show zLk (μ 406 s) = 0 by unfold zLk; omega, Int.mul_zero])), rfl⟩)
set_option maxRecDepth 100000 in
set_option maxHeartbeats 4000000 in
theorem k_X12_temper {l : Launch} {E : zE} {μ : zM} (hm : zMpre μ) (hq : μ 393 18 = 0) {s k : Int} : Ct l E yX12_temper cX12_temper 3 (some .int) ({ frames := 5, cells := 0, slots := 0, locals := 121 }) [zR 393, zI s, zI k] μ (fun r ν => (¬ ((0 ≤ s ∧ s < zBV (μ 394) 3 3) ∧ 0 ≤ k ∧ k ≤ 14) ∧ r = some (zI (-2)) ∧ ν = zup μ 398 0 (μ 398 0 + zq1 μ)) ∨ (((0 ≤ s ∧ s < zBV (μ 394) 3 3) ∧ 0 ≤ k ∧ k ≤ 14) ∧ r = some (zI (k * zLk ((zNV (zBV (μ 394)) 0) 3 s))) ∧ zMf μ ν)) := by
  refine Ct.of RX12 [zR 393, zI s, zI k] (by decide +kernel) rfl ⟨rfl, rfl⟩ rfl (Nat.le_of_ble_eq_true rfl) (fun X hX hc0 ha0 => ?_)
  subst hX
  refine z_aload_0 dX12_temper_0 ?_
  refine z_iload_1 dX12_temper_1 ?_
  refine z_callV1 (k_X12_isSleeper hm) m_X12_isSleeper zl_393 l_X12_141 (Nat.le_of_ble_eq_true rfl) ⟨Nat.le_of_ble_eq_true rfl, Nat.le_of_ble_eq_true rfl⟩ ⟨rfl, rfl⟩ dX12_temper_2 (fun r μ1 hp => ?_)
  obtain ⟨rfl, hv⟩ := hp
  replace hv := hv.symm
  subst hv
  refine z_ifeq (tgt := 20) dX12_temper_5 (by decide) (fun h_5 => ?_) (fun h_5 => ?_)
  · replace h_5 := zb_0.mp h_5
    refine z_aload_0 dX12_temper_20 ?_
    refine z_callV0 (k_X12_bad hm) m_X12_bad zl_393 l_X12_117 (Nat.le_of_ble_eq_true rfl) ⟨Nat.le_of_ble_eq_true rfl, Nat.le_of_ble_eq_true rfl⟩ ⟨rfl, rfl⟩ dX12_temper_21 (fun r μ1 hp => ?_)
    obtain ⟨rfl, hv⟩ := hp
    replace hv := hv.symm
    subst hv
    exact z_iret dX12_temper_24 (Or.inl ⟨by first | exact fun q => h_5 q.1 | exact fun q => h_17 q.2, rfl, rfl⟩)
  · replace h_5 := zb_n.mp h_5
    refine z_iload_2 dX12_temper_8 ?_
    refine z_i2l dX12_temper_9 ?_
    refine z_lconst0 dX12_temper_10 ?_
    refine z_ldc2 (n := 14) k_X12_343 dX12_temper_11 (by decide +kernel) ?_
    refine z_callS3 (k_X12_in) m_X12_in l_X12_106 (Nat.le_of_ble_eq_true rfl) ⟨Nat.le_of_ble_eq_true rfl, Nat.le_of_ble_eq_true rfl⟩ ⟨rfl, rfl⟩ dX12_temper_14 (fun r μ1 hp => ?_)
    obtain ⟨rfl, hv⟩ := hp
    replace hv := hv.symm
    subst hv
    refine z_ifne (tgt := 25) dX12_temper_17 (by decide) (fun h_17 => ?_) (fun h_17 => ?_)
    · replace h_17 := zb_n.mp h_17
      refine z_aload_0 dX12_temper_25 ?_
      refine z_callV0 (k_X12_looks) m_X12_looks zl_393 l_X12_255 (Nat.le_of_ble_eq_true rfl) ⟨Nat.le_of_ble_eq_true rfl, Nat.le_of_ble_eq_true rfl⟩ ⟨rfl, rfl⟩ dX12_temper_26 (fun r μ1 hp => ?_)
      obtain ⟨rfl, far, hL⟩ := hp
      obtain ⟨ζ0, hζ9⟩ : ∃ z, z = μ1 := ⟨_, rfl⟩
      subst hζ9
      have hV0 : zBV (ζ0 394) = zBV (μ 394) := by rw [hL 394 (by decide)]
      have hq0 : ζ0 393 18 = 0 := by rw [hL 393 (by decide)]; exact hq
      have np := hm.1.2.1.1
      have pc3 : zBV (μ 394) 3 3 = μ 394 2 := rfl
      refine z_aload_0 dX12_temper_29 ?_
      refine z_callV0 (k_X12_nights (V := zBV (μ 394)) hV0 hm.1 far (by rw [hq0]; decide)) m_X12_nights zl_393 l_X12_302 (Nat.le_of_ble_eq_true rfl) ⟨Nat.le_of_ble_eq_true rfl, Nat.le_of_ble_eq_true rfl⟩ ⟨rfl, rfl⟩ dX12_temper_30 (fun r μ1 hp => ?_)
      obtain ⟨rfl, hni, hw32, hw33, hrf⟩ := hp
      obtain ⟨ζ, hζ9⟩ : ∃ z, z = μ1 := ⟨_, rfl⟩
      subst hζ9
      rw [hq0] at hni hw32 hw33
      have hmf : zMf μ ζ := zMf_t (zMf_l hL) (zMf_n hrf)
      have h94 : ζ 394 = μ 394 := by rw [hrf.2 394 (by decide) (by decide), hL 394 (by decide)]
      have g1 := (hni s h_5.1 h_5.2).1.2.1
      have w3 := zNV_3 (fan := 0) hm.1 h_5.1 h_5.2
      refine z_aload_0 dX12_temper_33 ?_
      refine z_iload_1 dX12_temper_34 ?_
      refine z_iload_2 dX12_temper_35 ?_
      refine z_callV2 (k_X12_temperOf h_5.1 (by have := h_5.2; omega) h_17 (by rw [g1]; exact w3)) m_X12_temperOf zl_393 l_X12_345 (Nat.le_of_ble_eq_true rfl) ⟨Nat.le_of_ble_eq_true rfl, Nat.le_of_ble_eq_true rfl⟩ ⟨rfl, rfl⟩ dX12_temper_36 (fun r μ1 hp => ?_)
      obtain ⟨rfl, hv⟩ := hp
      replace hv := hv.symm
      subst hv
      exact z_iret dX12_temper_39 (Or.inr ⟨⟨h_5, h_17⟩, congrArg (fun z => (some (zI z) : Option zAV)) (by rw [g1]; rfl), hmf⟩)
    · replace h_17 := zb_0.mp h_17
      refine z_aload_0 dX12_temper_20 ?_
      refine z_callV0 (k_X12_bad hm) m_X12_bad zl_393 l_X12_117 (Nat.le_of_ble_eq_true rfl) ⟨Nat.le_of_ble_eq_true rfl, Nat.le_of_ble_eq_true rfl⟩ ⟨rfl, rfl⟩ dX12_temper_21 (fun r μ1 hp => ?_)
      obtain ⟨rfl, hv⟩ := hp
      replace hv := hv.symm
      subst hv
      exact z_iret dX12_temper_24 (Or.inl ⟨by first | exact fun q => h_5 q.1 | exact fun q => h_17 q.2, rfl, rfl⟩)
/-- there is a greatest lack of two -/
theorem zG2_ex {f : Int → Int} : ∀ {c : Nat}, ∃ g, zG2 f (c : Int) g
  | 0 => ⟨0, Int.le_refl _, fun a b a0 ab bc => by omega, Or.inl rfl⟩
  | c + 1 => by
    obtain ⟨g, g0, g1, g2⟩ := zG2_ex (f := f) (c := c)
    have inner : ∀ m : Nat, m ≤ c → ∃ x, g ≤ x ∧ (∀ a : Int, 0 ≤ a → a < m → zLk (f a) + zLk (f (c : Int)) ≤ x) ∧ (x = g ∨ ∃ a : Int, 0 ≤ a ∧ a < m ∧ zLk (f a) + zLk (f (c : Int)) = x) := by
      intro m
      induction m with
      | zero => intro _; exact ⟨g, Int.le_refl _, fun a a0 a1 => by omega, Or.inl rfl⟩
      | succ m ih =>
        intro hm
        obtain ⟨x, x0, x1, x2⟩ := ih (by omega)
        by_cases q : zLk (f (m : Int)) + zLk (f (c : Int)) ≤ x
        · refine ⟨x, x0, fun a a0 a1 => ?_, ?_⟩
          · by_cases e : a = m
            · rw [e]; exact q
            · exact x1 a a0 (by omega)
          · rcases x2 with e | ⟨a, a0, a1, e⟩
            · exact Or.inl e
            · exact Or.inr ⟨a, a0, by omega, e⟩
        · refine ⟨zLk (f (m : Int)) + zLk (f (c : Int)), by omega, fun a a0 a1 => ?_, Or.inr ⟨m, by omega, by omega, rfl⟩⟩
          by_cases e : a = m
          · rw [e]; exact Int.le_refl _
          · have := x1 a a0 (by omega); omega
    obtain ⟨x, x0, x1, x2⟩ := inner c (Nat.le_refl _)
    refine ⟨x, by omega, fun a b a0 ab bc => ?_, ?_⟩
    · by_cases e : b = c
      · subst e; exact x1 a a0 ab
      · have := g1 a b a0 ab (by omega); omega
    · rcases x2 with e | ⟨a, a0, a1, e⟩
      · rcases g2 with q | ⟨a, b, a0, ab, bc, q⟩
        · exact Or.inl (by omega)
        · exact Or.inr ⟨a, b, a0, ab, by omega, by omega⟩
      · exact Or.inr ⟨a, c, a0, a1, by omega, e⟩
theorem zQl_no {f : Int → Int} {c l n : Int} {g : Int} (hl : 1 ≤ l) (n0 : 0 ≤ n) (hg : zG2 f c g) (h : ∀ a b : Int, 0 ≤ b → b < a → a < c → n * zLk (f a) + n * zLk (f b) < l) : n * g < l := by
  rcases hg.2.2 with e | ⟨a, b, a0, ab, bc, e⟩
  · rw [e, Int.mul_zero]; omega
  · have := h b a a0 ab bc
    rw [← e, Int.mul_add]; omega
theorem zQl_yes {f : Int → Int} {c l n a b : Int} {g : Int} (n0 : 0 ≤ n) (hg : zG2 f c g) (b0 : 0 ≤ b) (ba : b < a) (ac : a < c) (h : l ≤ n * zLk (f a) + n * zLk (f b)) : l ≤ n * g := by
  have := hg.2.1 b a b0 ba ac
  have := Int.mul_le_mul_of_nonneg_left this n0
  rw [Int.mul_add] at this
  omega
set_option maxRecDepth 100000 in
set_option maxHeartbeats 4000000 in
theorem k_X12_quarrel {l : Launch} {E : zE} {μ : zM} (hm : zMpre μ) (hq : μ 393 18 = 0) {l9 : Int} : Ct l E yX12_quarrel cX12_quarrel 5 (some .int) ({ frames := 5, cells := 0, slots := 0, locals := 121 }) [zR 393, zI l9] μ (fun r ν => (¬ (1 ≤ l9 ∧ l9 ≤ 999) ∧ r = some (zI (-2)) ∧ ν = zup μ 398 0 (μ 398 0 + zq1 μ)) ∨ ((1 ≤ l9 ∧ l9 ≤ 999) ∧ (∃ z, r = some (zI z) ∧ zQl ((zNV (zBV (μ 394)) 0) 3) (zBV (μ 394) 3 3) l9 z) ∧ zMf μ ν)) := by
  refine Ct.of RX12 [zR 393, zI l9, zU, zU, zU] (by decide +kernel) rfl ⟨rfl, rfl⟩ rfl (Nat.le_of_ble_eq_true rfl) (fun X hX hc0 ha0 => ?_)
  subst hX
  have J : (1 ≤ l9 ∧ l9 ≤ 999) → ∀ (ζ : zM), zMf μ ζ → (∀ s, 0 ≤ s → s < zBV (μ 394) 3 3 → ζ 406 s = (zNV (zBV (μ 394)) 0 3) s) → ζ 394 2 = zBV (μ 394) 3 3 → MW X E cX12_quarrel RX12 ({ frames := 5, cells := 0, slots := 0, locals := 121 }) (some .int) (fun r ν => (¬ (1 ≤ l9 ∧ l9 ≤ 999) ∧ r = some (zI (-2)) ∧ ν = zup μ 398 0 (μ 398 0 + zq1 μ)) ∨ ((1 ≤ l9 ∧ l9 ≤ 999) ∧ (∃ z, r = some (zI z) ∧ zQl ((zNV (zBV (μ 394)) 0) 3) (zBV (μ 394) 3 3) l9 z) ∧ zMf μ ν)) 27 [zR 393, zI l9, zI 1, zU, zU] [] ζ := by
    intro hl ζ hmf g6 hc2
    have np := hm.1.2.1.1
    obtain ⟨g, hg2⟩ := zG2_ex (f := (zNV (zBV (μ 394)) 0 3)) (c := (zBV (μ 394) 3 3).toNat)
    rw [show (((zBV (μ 394) 3 3).toNat : Nat) : Int) = zBV (μ 394) 3 3 by omega] at hg2
    have LN : ∀ (q : Nat) (n : Int), 1 ≤ n → n ≤ 15 → (∀ k, 1 ≤ k → k < n → k * g < l9) → 15 - n < q → MW X E cX12_quarrel RX12 ({ frames := 5, cells := 0, slots := 0, locals := 121 }) (some .int) (fun r ν => (¬ (1 ≤ l9 ∧ l9 ≤ 999) ∧ r = some (zI (-2)) ∧ ν = zup μ 398 0 (μ 398 0 + zq1 μ)) ∨ ((1 ≤ l9 ∧ l9 ≤ 999) ∧ (∃ z, r = some (zI z) ∧ zQl ((zNV (zBV (μ 394)) 0) 3) (zBV (μ 394) 3 3) l9 z) ∧ zMf μ ν)) 27 [zR 393, zI l9, zI n, zU, zU] [] ζ := by
      intro q
      induction q with
      | zero => intro n n1 n15 hn h3; omega
      | succ q ih =>
        intro n n1 n15 hn h3
        refine z_iload_2 dX12_quarrel_27 ?_
        refine z_bipush dX12_quarrel_28 (by decide) ?_
        refine z_icmpge (tgt := 92) dX12_quarrel_30 (by decide) (fun h_30 => ?_) (fun h_30 => ?_)
        · refine z_iconst dX12_quarrel_92 (by decide) ?_
          exact z_iret dX12_quarrel_93 (Or.inr ⟨hl, ⟨-1, rfl, g, hg2, Or.inl ⟨rfl, fun k k1 k2 => hn k k1 (by omega)⟩⟩, hmf⟩)
        · have LX : ∀ (k : Nat) (x : Int), 0 ≤ x → x ≤ zBV (μ 394) 3 3 → (∀ a b : Int, 0 ≤ b → b < a → a < x → n * zLk ((zNV (zBV (μ 394)) 0 3) a) + n * zLk ((zNV (zBV (μ 394)) 0 3) b) < l9) → zBV (μ 394) 3 3 - x < k → MW X E cX12_quarrel RX12 ({ frames := 5, cells := 0, slots := 0, locals := 121 }) (some .int) (fun r ν => (¬ (1 ≤ l9 ∧ l9 ≤ 999) ∧ r = some (zI (-2)) ∧ ν = zup μ 398 0 (μ 398 0 + zq1 μ)) ∨ ((1 ≤ l9 ∧ l9 ≤ 999) ∧ (∃ z, r = some (zI z) ∧ zQl ((zNV (zBV (μ 394)) 0) 3) (zBV (μ 394) 3 3) l9 z) ∧ zMf μ ν)) 35 [zR 393, zI l9, zI n, zI x, zU] [] ζ := by
            intro k
            induction k with
            | zero => intro x x0 xc hout h4; omega
            | succ k ih2 =>
              intro x x0 xc hout h4
              refine z_iload_3 dX12_quarrel_35 ?_
              refine z_aload_0 dX12_quarrel_36 ?_
              refine z_getF 394 1 rfl f_X12_7 zl_393 rfl rfl dX12_quarrel_37 ?_
              refine z_iconst dX12_quarrel_40 (by decide) ?_
              refine z_iald zl_394 (by omega) (by omega) dX12_quarrel_41 ?_
              refine z_icmpge (tgt := 86) dX12_quarrel_42 (by decide) (fun h_42 => ?_) (fun h_42 => ?_)
              · refine z_iinc_2 rfl dX12_quarrel_86 (by omega) ?_
                refine z_goto (tgt := 27) dX12_quarrel_89 (by decide) ?_
                refine z_weak (ls' := [zR 393, zI l9, zI (n + 1), zU, zU]) ⟨Or.inl rfl, Or.inl rfl, Or.inl rfl, Or.inr rfl, Or.inr rfl, trivial⟩ (ih (n + 1) (by omega) (by omega) (fun k k1 k2 => by by_cases q : k = n; rw [q]; exact zQl_no hl.1 (by omega) hg2 (fun a b b0 ba ac => hout a b b0 ba (by omega)); exact hn k k1 (by omega)) (by omega))
              · have LY : ∀ (k : Nat) (y : Int), 0 ≤ y → y ≤ x → (∀ b : Int, 0 ≤ b → b < y → n * zLk ((zNV (zBV (μ 394)) 0 3) x) + n * zLk ((zNV (zBV (μ 394)) 0 3) b) < l9) → x - y < k → MW X E cX12_quarrel RX12 ({ frames := 5, cells := 0, slots := 0, locals := 121 }) (some .int) (fun r ν => (¬ (1 ≤ l9 ∧ l9 ≤ 999) ∧ r = some (zI (-2)) ∧ ν = zup μ 398 0 (μ 398 0 + zq1 μ)) ∨ ((1 ≤ l9 ∧ l9 ≤ 999) ∧ (∃ z, r = some (zI z) ∧ zQl ((zNV (zBV (μ 394)) 0) 3) (zBV (μ 394) 3 3) l9 z) ∧ zMf μ ν)) 48 [zR 393, zI l9, zI n, zI x, zI y] [] ζ := by
                  intro k
                  induction k with
                  | zero => intro y y0 yx hin h5; omega
                  | succ k ih3 =>
                    intro y y0 yx hin h5
                    refine z_iload_4 dX12_quarrel_48 ?_
                    refine z_iload_3 dX12_quarrel_50 ?_
                    refine z_icmpge (tgt := 80) dX12_quarrel_51 (by decide) (fun h_51 => ?_) (fun h_51 => ?_)
                    · refine z_iinc_3 rfl dX12_quarrel_80 (by omega) ?_
                      refine z_goto (tgt := 35) dX12_quarrel_83 (by decide) ?_
                      refine z_weak (ls' := [zR 393, zI l9, zI n, zI (x + 1), zU]) ⟨Or.inl rfl, Or.inl rfl, Or.inl rfl, Or.inl rfl, Or.inr rfl, trivial⟩ (ih2 (x + 1) (by omega) (by omega) (fun a b b0 ba ax => by by_cases q : a = x; rw [q]; exact hin b b0 (by omega); exact hout a b b0 ba (by omega)) (by omega))
                    · refine z_aload_0 dX12_quarrel_54 ?_
                      refine z_iload_3 dX12_quarrel_55 ?_
                      refine z_iload_2 dX12_quarrel_56 ?_
                      refine z_callV2 (k_X12_temperOf (by omega) (by omega) ⟨by omega, by omega⟩ (by rw [g6 _ (by omega) (by omega)]; exact zNV_3 hm.1 (by omega) (by omega))) m_X12_temperOf zl_393 l_X12_345 (Nat.le_of_ble_eq_true rfl) ⟨Nat.le_of_ble_eq_true rfl, Nat.le_of_ble_eq_true rfl⟩ ⟨rfl, rfl⟩ dX12_quarrel_57 (fun r μ1 hp => ?_)
                      obtain ⟨rfl, hv⟩ := hp
                      replace hv := hv.symm
                      subst hv
                      rw [g6 _ (by omega) (by omega)]
                      refine z_aload_0 dX12_quarrel_60 ?_
                      refine z_iload_4 dX12_quarrel_61 ?_
                      refine z_iload_2 dX12_quarrel_63 ?_
                      refine z_callV2 (k_X12_temperOf (by omega) (by omega) ⟨by omega, by omega⟩ (by rw [g6 _ (by omega) (by omega)]; exact zNV_3 hm.1 (by omega) (by omega))) m_X12_temperOf zl_393 l_X12_345 (Nat.le_of_ble_eq_true rfl) ⟨Nat.le_of_ble_eq_true rfl, Nat.le_of_ble_eq_true rfl⟩ ⟨rfl, rfl⟩ dX12_quarrel_64 (fun r μ1 hp => ?_)
                      obtain ⟨rfl, hv⟩ := hp
                      replace hv := hv.symm
                      subst hv
                      rw [g6 _ (by omega) (by omega)]
                      have l1 : 0 ≤ zLk ((zNV (zBV (μ 394)) 0 3) x) ∧ zLk ((zNV (zBV (μ 394)) 0 3) x) ≤ 24 := by have := zNV_3 (fan := 0) hm.1 x0 (show x < zBV (μ 394) 3 3 by omega); unfold zLk; omega
                      have l2 : 0 ≤ zLk ((zNV (zBV (μ 394)) 0 3) y) ∧ zLk ((zNV (zBV (μ 394)) 0 3) y) ≤ 24 := by have := zNV_3 (fan := 0) hm.1 y0 (show y < zBV (μ 394) 3 3 by omega); unfold zLk; omega
                      have mb : 0 ≤ n * zLk ((zNV (zBV (μ 394)) 0 3) x) ∧ n * zLk ((zNV (zBV (μ 394)) 0 3) x) ≤ 14 * 24 := ⟨Int.mul_nonneg (by omega) l1.1, Int.mul_le_mul (by omega) l1.2 l1.1 (by decide)⟩
                      have mb2 : 0 ≤ n * zLk ((zNV (zBV (μ 394)) 0 3) y) ∧ n * zLk ((zNV (zBV (μ 394)) 0 3) y) ≤ 14 * 24 := ⟨Int.mul_nonneg (by omega) l2.1, Int.mul_le_mul (by omega) l2.2 l2.1 (by decide)⟩
                      refine z_iadd dX12_quarrel_67 (by omega) ?_
                      refine z_iload_1 dX12_quarrel_68 ?_
                      refine z_icmplt (tgt := 74) dX12_quarrel_69 (by decide) (fun h_69 => ?_) (fun h_69 => ?_)
                      · refine z_iinc_4 rfl dX12_quarrel_74 (by omega) ?_
                        refine z_goto (tgt := 48) dX12_quarrel_77 (by decide) ?_
                        exact ih3 (y + 1) (by omega) (by omega) (fun z z0 z1 => by by_cases q : z = y; rw [q]; omega; exact hin z z0 (by omega)) (by omega)
                      · refine z_iload_2 dX12_quarrel_72 ?_
                        exact z_iret dX12_quarrel_73 (Or.inr ⟨hl, ⟨n, rfl, g, hg2, Or.inr ⟨by omega, by omega, zQl_yes (by omega) hg2 y0 (show y < x by omega) (show x < zBV (μ 394) 3 3 by omega) (by omega), hn⟩⟩, hmf⟩)
                refine z_iconst dX12_quarrel_45 (by decide) ?_
                refine z_istore_4 rfl dX12_quarrel_46 ?_
                exact LY 9 0 (by decide) (by omega) (fun b b0 b1 => by omega) (by omega)
          refine z_iconst dX12_quarrel_33 (by decide) ?_
          refine z_istore_3 rfl dX12_quarrel_34 ?_
          exact LX 9 0 (by decide) (by omega) (fun a b b0 ba ax => by omega) (by omega)
    exact LN 20 1 (by decide) (by decide) (fun k k1 k2 => by omega) (by decide)
  refine z_iload_1 dX12_quarrel_0 ?_
  refine z_i2l dX12_quarrel_1 ?_
  refine z_lconst1 dX12_quarrel_2 ?_
  refine z_ldc2 (n := 999) k_X12_348 dX12_quarrel_3 (by decide +kernel) ?_
  refine z_callS3 (k_X12_in) m_X12_in l_X12_106 (Nat.le_of_ble_eq_true rfl) ⟨Nat.le_of_ble_eq_true rfl, Nat.le_of_ble_eq_true rfl⟩ ⟨rfl, rfl⟩ dX12_quarrel_6 (fun r μ1 hp => ?_)
  obtain ⟨rfl, hv⟩ := hp
  replace hv := hv.symm
  subst hv
  refine z_ifne (tgt := 17) dX12_quarrel_9 (by decide) (fun h_9 => ?_) (fun h_9 => ?_)
  · replace h_9 := zb_n.mp h_9
    refine z_aload_0 dX12_quarrel_17 ?_
    refine z_callV0 (k_X12_looks) m_X12_looks zl_393 l_X12_255 (Nat.le_of_ble_eq_true rfl) ⟨Nat.le_of_ble_eq_true rfl, Nat.le_of_ble_eq_true rfl⟩ ⟨rfl, rfl⟩ dX12_quarrel_18 (fun r μ1 hp => ?_)
    obtain ⟨rfl, far, hL⟩ := hp
    obtain ⟨ζ0, hζ9⟩ : ∃ z, z = μ1 := ⟨_, rfl⟩
    subst hζ9
    have hV0 : zBV (ζ0 394) = zBV (μ 394) := by rw [hL 394 (by decide)]
    have hq0 : ζ0 393 18 = 0 := by rw [hL 393 (by decide)]; exact hq
    have np := hm.1.2.1.1
    have pc3 : zBV (μ 394) 3 3 = μ 394 2 := rfl
    refine z_aload_0 dX12_quarrel_21 ?_
    refine z_callV0 (k_X12_nights (V := zBV (μ 394)) hV0 hm.1 far (by rw [hq0]; decide)) m_X12_nights zl_393 l_X12_302 (Nat.le_of_ble_eq_true rfl) ⟨Nat.le_of_ble_eq_true rfl, Nat.le_of_ble_eq_true rfl⟩ ⟨rfl, rfl⟩ dX12_quarrel_22 (fun r μ1 hp => ?_)
    obtain ⟨rfl, hni, hw32, hw33, hrf⟩ := hp
    obtain ⟨ζ, hζ9⟩ : ∃ z, z = μ1 := ⟨_, rfl⟩
    subst hζ9
    rw [hq0] at hni hw32 hw33
    have hmf : zMf μ ζ := zMf_t (zMf_l hL) (zMf_n hrf)
    have h94 : ζ 394 = μ 394 := by rw [hrf.2 394 (by decide) (by decide), hL 394 (by decide)]
    refine z_iconst dX12_quarrel_25 (by decide) ?_
    refine z_istore_2 rfl dX12_quarrel_26 ?_
    exact J h_9 ζ hmf (fun s s0 s1 => (hni s s0 s1).1.2.1) (by rw [h94]; rfl)
  · replace h_9 := zb_0.mp h_9
    refine z_aload_0 dX12_quarrel_12 ?_
    refine z_callV0 (k_X12_bad hm) m_X12_bad zl_393 l_X12_117 (Nat.le_of_ble_eq_true rfl) ⟨Nat.le_of_ble_eq_true rfl, Nat.le_of_ble_eq_true rfl⟩ ⟨rfl, rfl⟩ dX12_quarrel_13 (fun r μ1 hp => ?_)
    obtain ⟨rfl, hv⟩ := hp
    replace hv := hv.symm
    subst hv
    exact z_iret dX12_quarrel_16 (Or.inl ⟨h_9, rfl, rfl⟩)
