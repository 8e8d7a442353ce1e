theorem zTw_op {V : zM} {t x : Int} : zOp (zTw V t x) = zOp V := by
  unfold zOp zTw
  funext c
  split
  · rw [zup_row (by decide)]
  · split
    · rw [zup_row (by decide)]
    · split
      · rw [zup_row (by decide)]
      · rfl
theorem zFar_op {V W : zM} {f : Int → Int} (e : zOp W = zOp V) (h : zFar V f) : zFar W f := by unfold zFar at *; rw [e]; exact h
theorem zfu_id {b : Int → Int} {k v w : Int} (h : w = b k) : zfu (zfu b k v) k w = b := by
  funext x
  by_cases q : x = k
  · rw [q, zfu_e, h]
  · rw [zfu_n q, zfu_n q]
theorem zMf_pre {μ ν : zM} (hm : zMpre μ) (h : zMf μ ν) : zMpre ν := by
  have e4 := h.2 394 (by decide) (by decide)
  have e8 := h.2 398 (by decide) (by decide)
  have e7 := h.1 7 (by decide) (by decide) (by decide) (by decide) (by decide) (by decide)
  unfold zMpre
  rw [e4, e8, e7]
  exact hm
theorem zBV_bd {b : Int → Int} (ok : zOK (zBV b)) : (0 ≤ b 1 ∧ b 1 ≤ 6) ∧ (0 ≤ b 5 ∧ b 5 ≤ 9) ∧ (0 ≤ b 6 ∧ b 6 < 36) ∧ (0 ≤ b 2 ∧ b 2 ≤ 5) ∧ (0 ≤ b 3 ∧ b 3 ≤ 8) ∧ (0 ≤ b 4 ∧ b 4 ≤ 4) := ⟨ok.1.2.1, ok.1.2.2.2.1, ⟨ok.1.2.2.2.2.1, ok.1.2.2.2.2.2.1⟩, ok.2.1.1, ok.2.2.1.1, ok.2.2.2.1⟩
set_option maxRecDepth 100000 in
set_option maxHeartbeats 4000000 in
theorem k_X12_worthOf {l : Launch} {E : zE} {μ : zM} (hm : zMpre μ) (hq : μ 393 18 = 0) {t x : Int} (ht : zTh (zBV (μ 394)) t x) (he : zHe (zBV (μ 394))) : Ct l E yX12_worthOf cX12_worthOf 6 (some .int) ({ frames := 5, cells := 0, slots := 0, locals := 121 }) [zR 393, zI t, zI x] μ (fun r ν => r = some (zI (zWR (zTw (zBV (μ 394)) t x) (zTf t) - zWR (zBV (μ 394)) 0)) ∧ ν 393 33 = zGR (zTw (zBV (μ 394)) t x) (zTf t) ∧ zMf μ ν) := by
  refine Ct.of RX12 [zR 393, zI t, zI x, zU, zU, zU] (by decide +kernel) rfl ⟨rfl, rfl⟩ rfl (Nat.le_of_ble_eq_true rfl) (fun X hX hc0 ha0 => ?_)
  subst hX
  have okT := zTw_ok hm.1 he ht
  have pcm : zBV (μ 394) 3 3 = μ 394 2 := rfl
  have npm := hm.1.2.1.1
  have J114 : ∀ (a0 : Int) (ζ4 : zM), (0 ≤ a0 ∧ a0 < 172) → zBV (ζ4 394) = (zTw (zBV (μ 394)) t x) → ζ4 394 = zfu (μ 394) a0 (if t = 0 then μ 394 a0 + 10 else if t = 1 then μ 394 a0 else 0) → ζ4 393 18 = zTf t → zFar (zBV (μ 394)) (ζ4 402) → (∀ k, k ≠ 31 → k ≠ 32 → k ≠ 33 → k ≠ 18 → ζ4 393 k = μ 393 k) → (∀ y : Nat, y ≠ 393 → (y < 402 ∨ 419 < y) → y ≠ 394 → ζ4 y = μ y) → MW X E cX12_worthOf RX12 ({ frames := 5, cells := 0, slots := 0, locals := 121 }) (some .int) (fun r ν => r = some (zI (zWR (zTw (zBV (μ 394)) t x) (zTf t) - zWR (zBV (μ 394)) 0)) ∧ ν 393 33 = zGR (zTw (zBV (μ 394)) t x) (zTf t) ∧ zMf μ ν) 114 [zR 393, zI t, zI x, zI (zWR (zBV (μ 394)) 0), zI a0, zI (μ 394 a0)] [] ζ4 := by
    intro a0 ζ4 ha hV4 e4 e18 far4 e3 e5
    have hft : 0 ≤ zTf t ∧ zTf t ≤ 100 := by unfold zTf; split <;> decide
    refine z_aload_0 dX12_worthOf_114 ?_
    refine z_callV0 (k_X12_nights (V := (zTw (zBV (μ 394)) t x)) hV4 okT (zFar_op zTw_op far4) (by rw [e18]; exact hft)) m_X12_nights zl_393 l_X12_302 (Nat.le_of_ble_eq_true rfl) ⟨Nat.le_of_ble_eq_true rfl, Nat.le_of_ble_eq_true rfl⟩ ⟨rfl, rfl⟩ dX12_worthOf_115 (fun r μ1 hp => ?_)
    obtain ⟨rfl, -, hw32, hw33, hrf⟩ := hp
    obtain ⟨ζ5, hζ9⟩ : ∃ z, z = μ1 := ⟨_, rfl⟩
    subst hζ9
    rw [e18] at hw32 hw33
    have hb1 := zWR_b (fan := 0) hm.1
    have hb2 := zWR_b (fan := zTf t) okT
    have r32 : ζ5 393 32 = zWR (zTw (zBV (μ 394)) t x) (zTf t) := hw32
    have r33 : ζ5 393 33 = zGR (zTw (zBV (μ 394)) t x) (zTf t) := hw33
    refine z_aload_0 dX12_worthOf_118 ?_
    refine z_iconst dX12_worthOf_119 (by decide) ?_
    refine z_putI 18 rfl f_X12_252 p_12_18 zl_393 rfl rfl dX12_worthOf_120 ?_
    refine z_aload_0 dX12_worthOf_123 ?_
    refine z_getF 394 1 rfl f_X12_7 zl_393 rfl rfl dX12_worthOf_124 ?_
    refine z_iload_4 dX12_worthOf_127 ?_
    refine z_iload_5 dX12_worthOf_129 ?_
    refine z_iast zl_394 (by omega) (by omega) dX12_worthOf_131 ?_
    refine z_aload_0 dX12_worthOf_132 ?_
    refine z_getI 32 rfl f_X12_296 zl_393 rfl dX12_worthOf_133 ?_
    rw [show zup (zup ζ5 393 18 0) 394 a0 (μ 394 a0) 393 32 = zWR (zTw (zBV (μ 394)) t x) (zTf t) by (repeat (first | rw [zup_eq] | rw [zup_row (by omega)] | rw [zup_ne (Or.inr (by omega))])); exact r32]
    refine z_iload_3 dX12_worthOf_136 ?_
    refine z_isub dX12_worthOf_137 (by omega) ?_
    exact z_iret dX12_worthOf_138 (⟨rfl, by (repeat (first | rw [zup_eq] | rw [zup_row (by omega)] | rw [zup_ne (Or.inr (by omega))])); exact r33, fun k k1 k2 k3 k4 k5 k6 => by
          rw [zup_row (by decide)]
          by_cases q : k = 18
          · rw [q, zup_eq, hq]
          · rw [zup_ne (Or.inr q), hrf.1 k k1 k2 k3, e3 k k1 k2 k3 q], fun y y1 y2 => by
          by_cases q : y = 394
          · rw [q, zup_fu, zup_row (by decide), hrf.2 394 (by decide) (by decide), e4]; exact zfu_id rfl
          · rw [zup_row q, zup_row y1, hrf.2 y y1 (by omega), e5 y y1 y2 q]⟩)
  have J59 : ∀ (a0 : Int) (ζ : zM) (u v : zAV), (0 ≤ a0 ∧ a0 < 172) → zBV (zfu (μ 394) a0 (if t = 0 then μ 394 a0 + 10 else if t = 1 then μ 394 a0 else 0)) = (zTw (zBV (μ 394)) t x) → (t = 0 → μ 394 a0 ≤ 60 ∧ 0 ≤ μ 394 a0) → ζ 394 = μ 394 → zFar (zBV (μ 394)) (ζ 402) → (∀ k, k ≠ 31 → k ≠ 32 → k ≠ 33 → ζ 393 k = μ 393 k) ∧ (∀ y : Nat, y ≠ 393 → (y < 402 ∨ 419 < y) → ζ y = μ y) → MW X E cX12_worthOf RX12 ({ frames := 5, cells := 0, slots := 0, locals := 121 }) (some .int) (fun r ν => r = some (zI (zWR (zTw (zBV (μ 394)) t x) (zTf t) - zWR (zBV (μ 394)) 0)) ∧ ν 393 33 = zGR (zTw (zBV (μ 394)) t x) (zTf t) ∧ zMf μ ν) 59 [zR 393, zI t, zI x, zI (zWR (zBV (μ 394)) 0), u, v] [zI a0] ζ := by
    intro a0 ζ u v ha hVT h60 h94 far hrf
    refine z_istore_4 rfl dX12_worthOf_59 ?_
    refine z_aload_0 dX12_worthOf_61 ?_
    refine z_getF 394 1 rfl f_X12_7 zl_393 rfl rfl dX12_worthOf_62 ?_
    refine z_iload_4 dX12_worthOf_65 ?_
    refine z_iald zl_394 (by omega) (by omega) dX12_worthOf_67 ?_
    rw [h94]
    refine z_istore_5 rfl dX12_worthOf_68 ?_
    refine z_aload_0 dX12_worthOf_70 ?_
    refine z_getF 394 1 rfl f_X12_7 zl_393 rfl rfl dX12_worthOf_71 ?_
    refine z_iload_4 dX12_worthOf_74 ?_
    refine z_iload_1 dX12_worthOf_76 ?_
    refine z_ifne (tgt := 88) dX12_worthOf_77 (by decide) (fun h_77 => ?_) (fun h_77 => ?_)
    · refine z_iload_1 dX12_worthOf_88 ?_
      refine z_iconst dX12_worthOf_89 (by decide) ?_
      refine z_icmpne (tgt := 98) dX12_worthOf_90 (by decide) (fun h_90 => ?_) (fun h_90 => ?_)
      · refine z_iconst dX12_worthOf_98 (by decide) ?_
        refine z_iast zl_394 (by omega) (by omega) dX12_worthOf_99 ?_
        refine z_aload_0 dX12_worthOf_100 ?_
        refine z_iload_1 dX12_worthOf_101 ?_
        refine z_iconst dX12_worthOf_102 (by decide) ?_
        refine z_icmpne (tgt := 110) dX12_worthOf_103 (by decide) (fun h_103 => ?_) (fun h_103 => ?_)
        · refine z_iconst dX12_worthOf_110 (by decide) ?_
          refine z_putI 18 rfl f_X12_252 p_12_18 zl_393 rfl rfl dX12_worthOf_111 ?_
          have hn2 : (if t = 0 then μ 394 a0 + 10 else if t = 1 then μ 394 a0 else 0) = 0 := (if_neg (by omega)).trans (if_neg (by omega))
          rw [hn2] at hVT
          exact J114 a0 _ ha (by rw [zup_row (by decide), zup_fu, h94]; exact hVT) (by rw [zup_row (by decide), zup_fu, h94]; rw [hn2]) (by rw [zup_eq]; exact (if_neg (by omega)).symm) (by rw [zup_row (by decide), zup_row (by decide)]; exact far) (fun k k1 k2 k3 k4 => by rw [zup_ne (Or.inr k4), zup_row (by decide)]; exact hrf.1 k k1 k2 k3) (fun y y1 y2 y3 => by rw [zup_row y1, zup_row y3]; exact hrf.2 y y1 y2)
        · refine z_iconst dX12_worthOf_106 (by decide) ?_
          refine z_goto (tgt := 111) dX12_worthOf_107 (by decide) ?_
          refine z_putI 18 rfl f_X12_252 p_12_18 zl_393 rfl rfl dX12_worthOf_111 ?_
          exact absurd h_103 h_90
      · refine z_iload_5 dX12_worthOf_93 ?_
        refine z_goto (tgt := 99) dX12_worthOf_95 (by decide) ?_
        refine z_iast zl_394 (by omega) (by omega) dX12_worthOf_99 ?_
        refine z_aload_0 dX12_worthOf_100 ?_
        refine z_iload_1 dX12_worthOf_101 ?_
        refine z_iconst dX12_worthOf_102 (by decide) ?_
        refine z_icmpne (tgt := 110) dX12_worthOf_103 (by decide) (fun h_103 => ?_) (fun h_103 => ?_)
        · refine z_iconst dX12_worthOf_110 (by decide) ?_
          refine z_putI 18 rfl f_X12_252 p_12_18 zl_393 rfl rfl dX12_worthOf_111 ?_
          exact absurd h_90 h_103
        · refine z_iconst dX12_worthOf_106 (by decide) ?_
          refine z_goto (tgt := 111) dX12_worthOf_107 (by decide) ?_
          refine z_putI 18 rfl f_X12_252 p_12_18 zl_393 rfl rfl dX12_worthOf_111 ?_
          have hn1 : (if t = 0 then μ 394 a0 + 10 else if t = 1 then μ 394 a0 else 0) = μ 394 a0 := (if_neg (by omega)).trans (if_pos (by omega))
          rw [hn1] at hVT
          exact J114 a0 _ ha (by rw [zup_row (by decide), zup_fu, h94]; exact hVT) (by rw [zup_row (by decide), zup_fu, h94]; rw [hn1]) (by rw [zup_eq]; exact (if_pos (by omega)).symm) (by rw [zup_row (by decide), zup_row (by decide)]; exact far) (fun k k1 k2 k3 k4 => by rw [zup_ne (Or.inr k4), zup_row (by decide)]; exact hrf.1 k k1 k2 k3) (fun y y1 y2 y3 => by rw [zup_row y1, zup_row y3]; exact hrf.2 y y1 y2)
    · have hb := hm.1
      refine z_iload_5 dX12_worthOf_80 ?_
      refine z_bipush dX12_worthOf_82 (by decide) ?_
      refine z_iadd dX12_worthOf_84 (by omega) ?_
      refine z_goto (tgt := 99) dX12_worthOf_85 (by decide) ?_
      refine z_iast zl_394 (by omega) (by omega) dX12_worthOf_99 ?_
      refine z_aload_0 dX12_worthOf_100 ?_
      refine z_iload_1 dX12_worthOf_101 ?_
      refine z_iconst dX12_worthOf_102 (by decide) ?_
      refine z_icmpne (tgt := 110) dX12_worthOf_103 (by decide) (fun h_103 => ?_) (fun h_103 => ?_)
      · refine z_iconst dX12_worthOf_110 (by decide) ?_
        refine z_putI 18 rfl f_X12_252 p_12_18 zl_393 rfl rfl dX12_worthOf_111 ?_
        have hn0 : (if t = 0 then μ 394 a0 + 10 else if t = 1 then μ 394 a0 else 0) = μ 394 a0 + 10 := if_pos (by omega)
        rw [hn0] at hVT
        exact J114 a0 _ ha (by rw [zup_row (by decide), zup_fu, h94]; exact hVT) (by rw [zup_row (by decide), zup_fu, h94]; rw [hn0]) (by rw [zup_eq]; exact (if_neg (by omega)).symm) (by rw [zup_row (by decide), zup_row (by decide)]; exact far) (fun k k1 k2 k3 k4 => by rw [zup_ne (Or.inr k4), zup_row (by decide)]; exact hrf.1 k k1 k2 k3) (fun y y1 y2 y3 => by rw [zup_row y1, zup_row y3]; exact hrf.2 y y1 y2)
      · refine z_iconst dX12_worthOf_106 (by decide) ?_
        refine z_goto (tgt := 111) dX12_worthOf_107 (by decide) ?_
        refine z_putI 18 rfl f_X12_252 p_12_18 zl_393 rfl rfl dX12_worthOf_111 ?_
        exact absurd h_103 (by omega)
  refine z_aload_0 dX12_worthOf_0 ?_
  refine z_callV0 (k_X12_looks) m_X12_looks zl_393 l_X12_255 (Nat.le_of_ble_eq_true rfl) ⟨Nat.le_of_ble_eq_true rfl, Nat.le_of_ble_eq_true rfl⟩ ⟨rfl, rfl⟩ dX12_worthOf_1 (fun r μ1 hp => ?_)
  obtain ⟨rfl, far, hL⟩ := hp
  obtain ⟨ζ0, hζ9⟩ : ∃ z, z = μ1 := ⟨_, rfl⟩
  subst hζ9
  have hV0 : zBV (ζ0 394) = zBV (μ 394) := by rw [hL 394 (by decide)]
  have hq0 : ζ0 393 18 = 0 := by rw [hL 393 (by decide)]; exact hq
  have np := hm.1.2.1.1
  have pc3 : zBV (μ 394) 3 3 = μ 394 2 := rfl
  refine z_aload_0 dX12_worthOf_4 ?_
  refine z_callV0 (k_X12_nights (V := zBV (μ 394)) hV0 hm.1 far (by rw [hq0]; decide)) m_X12_nights zl_393 l_X12_302 (Nat.le_of_ble_eq_true rfl) ⟨Nat.le_of_ble_eq_true rfl, Nat.le_of_ble_eq_true rfl⟩ ⟨rfl, rfl⟩ dX12_worthOf_5 (fun r μ1 hp => ?_)
  obtain ⟨rfl, hni, hw32, hw33, hrf⟩ := hp
  obtain ⟨ζ, hζ9⟩ : ∃ z, z = μ1 := ⟨_, rfl⟩
  subst hζ9
  rw [hq0] at hni hw32 hw33
  have hmf : zMf μ ζ := zMf_t (zMf_l hL) (zMf_n hrf)
  have h94 : ζ 394 = μ 394 := by rw [hrf.2 394 (by decide) (by decide), hL 394 (by decide)]
  have r32 : ζ 393 32 = zWR (zBV (μ 394)) 0 := hw32
  refine z_aload_0 dX12_worthOf_8 ?_
  refine z_getI 32 rfl f_X12_296 zl_393 rfl dX12_worthOf_9 ?_
  rw [r32]
  refine z_istore_3 rfl dX12_worthOf_12 ?_
  refine z_iload_1 dX12_worthOf_13 ?_
  refine z_ifne (tgt := 29) dX12_worthOf_14 (by decide) (fun h_14 => ?_) (fun h_14 => ?_)
  · refine z_iload_1 dX12_worthOf_29 ?_
    refine z_iconst dX12_worthOf_30 (by decide) ?_
    refine z_icmpne (tgt := 41) dX12_worthOf_31 (by decide) (fun h_31 => ?_) (fun h_31 => ?_)
    · refine z_iload_1 dX12_worthOf_41 ?_
      refine z_iconst dX12_worthOf_42 (by decide) ?_
      refine z_icmpne (tgt := 58) dX12_worthOf_43 (by decide) (fun h_43 => ?_) (fun h_43 => ?_)
      · have ht1 : t = 1 := by unfold zTh at ht; omega
        refine z_iconst dX12_worthOf_58 (by decide) ?_
        exact J59 _ ζ _ _ ⟨by omega, by omega⟩ (by rw [if_neg h_14, if_pos ht1]; unfold zTw; rw [if_neg h_14, if_neg (by omega), if_neg (by omega)]; exact congrArg zBV (by funext y; by_cases q : y = 5; rw [q, zfu_e]; rw [zfu_n q])) (by intro q; exact absurd q h_14) h94 (by rw [hrf.2 402 (by decide) (Or.inl (by decide))]; exact far) ⟨fun k k1 k2 k3 => by rw [hrf.1 k k1 k2 k3, hL 393 (by decide)], fun y y1 y2 => by rw [hrf.2 y y1 (by omega), hL y (by omega)]⟩
      · have hx : 0 ≤ x ∧ x < μ 394 2 := by unfold zTh at ht; omega
        refine z_bipush dX12_worthOf_46 (by decide) ?_
        refine z_bipush dX12_worthOf_48 (by decide) ?_
        refine z_iload_2 dX12_worthOf_50 ?_
        refine z_imul dX12_worthOf_51 (by omega) ?_
        refine z_iadd dX12_worthOf_52 (by omega) ?_
        refine z_iconst dX12_worthOf_53 (by decide) ?_
        refine z_iadd dX12_worthOf_54 (by omega) ?_
        refine z_goto (tgt := 59) dX12_worthOf_55 (by decide) ?_
        exact J59 _ ζ _ _ ⟨by omega, by omega⟩ (by rw [if_neg h_14, if_neg (by omega)]; unfold zTw; rw [if_neg h_14, if_neg (by omega), if_pos h_43]; exact zBV_8x (zBV_bd hm.1) hx.1 hx.2) (by intro q; exact absurd q h_14) h94 (by rw [hrf.2 402 (by decide) (Or.inl (by decide))]; exact far) ⟨fun k k1 k2 k3 => by rw [hrf.1 k k1 k2 k3, hL 393 (by decide)], fun y y1 y2 => by rw [hrf.2 y y1 (by omega), hL y (by omega)]⟩
    · have hx : 0 ≤ x ∧ x < 36 := by unfold zTh at ht; omega
      refine z_bipush dX12_worthOf_34 (by decide) ?_
      refine z_iload_2 dX12_worthOf_36 ?_
      refine z_iadd dX12_worthOf_37 (by omega) ?_
      refine z_goto (tgt := 59) dX12_worthOf_38 (by decide) ?_
      exact J59 _ ζ _ _ ⟨by omega, by omega⟩ (by rw [if_neg h_14, if_neg (by omega)]; unfold zTw; rw [if_neg h_14, if_pos h_31]; exact zBV_c (zBV_bd hm.1) hx.1 hx.2) (by intro q; exact absurd q h_14) h94 (by rw [hrf.2 402 (by decide) (Or.inl (by decide))]; exact far) ⟨fun k k1 k2 k3 => by rw [hrf.1 k k1 k2 k3, hL 393 (by decide)], fun y y1 y2 => by rw [hrf.2 y y1 (by omega), hL y (by omega)]⟩
  · have hx : 0 ≤ x ∧ x < μ 394 2 := by unfold zTh at ht; omega
    refine z_bipush dX12_worthOf_17 (by decide) ?_
    refine z_bipush dX12_worthOf_19 (by decide) ?_
    refine z_iload_2 dX12_worthOf_21 ?_
    refine z_imul dX12_worthOf_22 (by omega) ?_
    refine z_iadd dX12_worthOf_23 (by omega) ?_
    refine z_iconst dX12_worthOf_24 (by decide) ?_
    refine z_iadd dX12_worthOf_25 (by omega) ?_
    refine z_goto (tgt := 59) dX12_worthOf_26 (by decide) ?_
    exact J59 _ ζ _ _ ⟨by omega, by omega⟩ (by rw [if_pos h_14]; unfold zTw; rw [if_pos h_14, zBV_4 hx.1 hx.2, Int.add_zero]; exact zBV_4x (zBV_bd hm.1) hx.1 hx.2) (by intro _; rw [Int.add_zero]; have e := he x hx.1 hx.2; have e2 := (hm.1.2.1.2 x hx.1 hx.2).1.1; rw [zBV_4 hx.1 hx.2] at e e2; omega) h94 (by rw [hrf.2 402 (by decide) (Or.inl (by decide))]; exact far) ⟨fun k k1 k2 k3 => by rw [hrf.1 k k1 k2 k3, hL 393 (by decide)], fun y y1 y2 => by rw [hrf.2 y y1 (by omega), hL y (by omega)]⟩
set_option maxRecDepth 100000 in
set_option maxHeartbeats 4000000 in
theorem k_X12_worth {l : Launch} {E : zE} {μ : zM} (hm : zMpre μ) (hq : μ 393 18 = 0) {t x : Int} (he : zHe (zBV (μ 394))) : Ct l E yX12_worth cX12_worth 4 (some .int) ({ frames := 6, cells := 0, slots := 0, locals := 146 }) [zR 393, zI t, zI x] μ (fun r ν => (¬ (zTh (zBV (μ 394)) t x) ∧ r = some (zI (-100)) ∧ ν = zup μ 398 0 (μ 398 0 + zq1 μ)) ∨ ((zTh (zBV (μ 394)) t x) ∧ r = some (zI (zWR (zTw (zBV (μ 394)) t x) (zTf t) - zWR (zBV (μ 394)) 0)) ∧ zMf μ ν)) := by
  refine Ct.of RX12 [zR 393, zI t, zI x, zU] (by decide +kernel) rfl ⟨rfl, rfl⟩ rfl (Nat.le_of_ble_eq_true rfl) (fun X hX hc0 ha0 => ?_)
  subst hX
  have pcm : zBV (μ 394) 3 3 = μ 394 2 := rfl
  have J51 : ∀ (b : Int), (b ≠ 0 ↔ (zTh (zBV (μ 394)) t x)) → MW X E cX12_worth RX12 ({ frames := 6, cells := 0, slots := 0, locals := 146 }) (some .int) (fun r ν => (¬ (zTh (zBV (μ 394)) t x) ∧ r = some (zI (-100)) ∧ ν = zup μ 398 0 (μ 398 0 + zq1 μ)) ∨ ((zTh (zBV (μ 394)) t x) ∧ r = some (zI (zWR (zTw (zBV (μ 394)) t x) (zTf t) - zWR (zBV (μ 394)) 0)) ∧ zMf μ ν)) 51 [zR 393, zI t, zI x, zU] [zI b] μ := by
    intro b hb
    refine z_istore_3 rfl dX12_worth_51 ?_
    refine z_iload_3 dX12_worth_52 ?_
    refine z_ifeq (tgt := 65) dX12_worth_53 (by decide) (fun h_53 => ?_) (fun h_53 => ?_)
    · refine z_aload_0 dX12_worth_65 ?_
      refine z_iconst dX12_worth_66 (by decide) ?_
      refine z_bipush dX12_worth_67 (by decide) ?_
      refine z_callV2 (k_X12_refuses hm (by decide) (by decide)) m_X12_refuses zl_393 l_X12_100 (Nat.le_of_ble_eq_true rfl) ⟨Nat.le_of_ble_eq_true rfl, Nat.le_of_ble_eq_true rfl⟩ ⟨rfl, rfl⟩ dX12_worth_69 (fun r μ1 hp => ?_)
      obtain ⟨rfl, hv⟩ := hp
      replace hv := hv.symm
      subst hv
      exact z_iret dX12_worth_72 (by first | exact Or.inr ⟨hb.mp h_53, rfl, hmf⟩ | exact Or.inl ⟨fun q => hb.mpr q h_53, rfl, rfl⟩)
    · refine z_aload_0 dX12_worth_56 ?_
      refine z_iload_1 dX12_worth_57 ?_
      refine z_iload_2 dX12_worth_58 ?_
      refine z_callV2 (k_X12_worthOf hm hq (hb.mp h_53) he) m_X12_worthOf zl_393 l_X12_340 (Nat.le_of_ble_eq_true rfl) ⟨Nat.le_of_ble_eq_true rfl, Nat.le_of_ble_eq_true rfl⟩ ⟨rfl, rfl⟩ dX12_worth_59 (fun r μ1 hp => ?_)
      obtain ⟨rfl, -, hmf⟩ := hp
      refine z_goto (tgt := 72) dX12_worth_62 (by decide) ?_
      exact z_iret dX12_worth_72 (by first | exact Or.inr ⟨hb.mp h_53, rfl, hmf⟩ | exact Or.inl ⟨fun q => hb.mpr q h_53, rfl, rfl⟩)
  refine z_iload_1 dX12_worth_0 ?_
  refine z_ifeq (tgt := 9) dX12_worth_1 (by decide) (fun h_1 => ?_) (fun h_1 => ?_)
  · refine z_aload_0 dX12_worth_9 ?_
    refine z_iload_2 dX12_worth_10 ?_
    refine z_callV1 (k_X12_isSleeper hm) m_X12_isSleeper zl_393 l_X12_141 (Nat.le_of_ble_eq_true rfl) ⟨Nat.le_of_ble_eq_true rfl, Nat.le_of_ble_eq_true rfl⟩ ⟨rfl, rfl⟩ dX12_worth_11 (fun r μ1 hp => ?_)
    obtain ⟨rfl, hv⟩ := hp
    replace hv := hv.symm
    subst hv
    refine z_goto (tgt := 51) dX12_worth_14 (by decide) ?_
    exact J51 _ ⟨fun q => by first | exact absurd rfl q | (unfold zTh; have := zb_n.mp q; omega) | (unfold zTh; omega), fun q => by first | (unfold zTh at q; exact zb_n.mpr (by omega)) | (unfold zTh at q; omega)⟩
  · refine z_iload_1 dX12_worth_4 ?_
    refine z_iconst dX12_worth_5 (by decide) ?_
    refine z_icmpne (tgt := 17) dX12_worth_6 (by decide) (fun h_6 => ?_) (fun h_6 => ?_)
    · refine z_iload_1 dX12_worth_17 ?_
      refine z_iconst dX12_worth_18 (by decide) ?_
      refine z_icmpne (tgt := 34) dX12_worth_19 (by decide) (fun h_19 => ?_) (fun h_19 => ?_)
      · refine z_iload_1 dX12_worth_34 ?_
        refine z_iconst dX12_worth_35 (by decide) ?_
        refine z_icmpne (tgt := 50) dX12_worth_36 (by decide) (fun h_36 => ?_) (fun h_36 => ?_)
        · refine z_iconst dX12_worth_50 (by decide) ?_
          exact J51 _ ⟨fun q => by first | exact absurd rfl q | (unfold zTh; have := zb_n.mp q; omega) | (unfold zTh; omega), fun q => by first | (unfold zTh at q; exact zb_n.mpr (by omega)) | (unfold zTh at q; omega)⟩
        · refine z_iload_2 dX12_worth_39 ?_
          refine z_callS1 (k_X12_isCell) m_X12_isCell l_X12_110 (Nat.le_of_ble_eq_true rfl) ⟨Nat.le_of_ble_eq_true rfl, Nat.le_of_ble_eq_true rfl⟩ ⟨rfl, rfl⟩ dX12_worth_40 (fun r μ1 hp => ?_)
          obtain ⟨rfl, hv⟩ := hp
          replace hv := hv.symm
          subst hv
          refine z_ifeq (tgt := 50) dX12_worth_43 (by decide) (fun h_43 => ?_) (fun h_43 => ?_)
          · replace h_43 := zb_0.mp h_43
            refine z_iconst dX12_worth_50 (by decide) ?_
            exact J51 _ ⟨fun q => by first | exact absurd rfl q | (unfold zTh; have := zb_n.mp q; omega) | (unfold zTh; omega), fun q => by first | (unfold zTh at q; exact zb_n.mpr (by omega)) | (unfold zTh at q; omega)⟩
          · replace h_43 := zb_n.mp h_43
            refine z_iconst dX12_worth_46 (by decide) ?_
            refine z_goto (tgt := 51) dX12_worth_47 (by decide) ?_
            exact J51 _ ⟨fun q => by first | exact absurd rfl q | (unfold zTh; have := zb_n.mp q; omega) | (unfold zTh; omega), fun q => by first | (unfold zTh at q; exact zb_n.mpr (by omega)) | (unfold zTh at q; omega)⟩
      · refine z_iload_2 dX12_worth_22 ?_
        refine z_ifne (tgt := 30) dX12_worth_23 (by decide) (fun h_23 => ?_) (fun h_23 => ?_)
        · refine z_iconst dX12_worth_30 (by decide) ?_
          refine z_goto (tgt := 51) dX12_worth_31 (by decide) ?_
          exact J51 _ ⟨fun q => by first | exact absurd rfl q | (unfold zTh; have := zb_n.mp q; omega) | (unfold zTh; omega), fun q => by first | (unfold zTh at q; exact zb_n.mpr (by omega)) | (unfold zTh at q; omega)⟩
        · refine z_iconst dX12_worth_26 (by decide) ?_
          refine z_goto (tgt := 51) dX12_worth_27 (by decide) ?_
          exact J51 _ ⟨fun q => by first | exact absurd rfl q | (unfold zTh; have := zb_n.mp q; omega) | (unfold zTh; omega), fun q => by first | (unfold zTh at q; exact zb_n.mpr (by omega)) | (unfold zTh at q; omega)⟩
    · refine z_aload_0 dX12_worth_9 ?_
      refine z_iload_2 dX12_worth_10 ?_
      refine z_callV1 (k_X12_isSleeper hm) m_X12_isSleeper zl_393 l_X12_141 (Nat.le_of_ble_eq_true rfl) ⟨Nat.le_of_ble_eq_true rfl, Nat.le_of_ble_eq_true rfl⟩ ⟨rfl, rfl⟩ dX12_worth_11 (fun r μ1 hp => ?_)
      obtain ⟨rfl, hv⟩ := hp
      replace hv := hv.symm
      subst hv
      refine z_goto (tgt := 51) dX12_worth_14 (by decide) ?_
      exact J51 _ ⟨fun q => by first | exact absurd rfl q | (unfold zTh; have := zb_n.mp q; omega) | (unfold zTh; omega), fun q => by first | (unfold zTh at q; exact zb_n.mpr (by omega)) | (unfold zTh at q; omega)⟩
set_option maxRecDepth 100000 in
set_option maxHeartbeats 4000000 in
theorem k_X12_screw {l : Launch} {E : zE} {μ : zM} (hm : zMpre μ) (hq : μ 393 18 = 0) (he : zHe (zBV (μ 394))) : Ct l E yX12_screw cX12_screw 6 (some .int) ({ frames := 6, cells := 0, slots := 0, locals := 146 }) [zR 393] μ (fun r ν => r = some (zI (zSw (zBV (μ 394)) 36).1) ∧ zMf μ ν) := by
  refine Ct.of RX12 [zR 393, zU, zU, zU, zU, zU] (by decide +kernel) rfl ⟨rfl, rfl⟩ rfl (Nat.le_of_ble_eq_true rfl) (fun X hX hc0 ha0 => ?_)
  subst hX
  have L : ∀ (k : Nat) (c : Nat) (p1 p2 p3 m : Int) (ξ : zM), (c : Int) ≤ 36 → (p1, p2, p3) = zSw (zBV (μ 394)) c → ((p1 = -1 ∧ m = 0) ∨ (p1 ≠ -1 ∧ m = p2 - zWR (zBV (μ 394)) 0)) → zMf μ ξ → 36 - (c : Int) < k → MW X E cX12_screw RX12 ({ frames := 6, cells := 0, slots := 0, locals := 146 }) (some .int) (fun r ν => r = some (zI (zSw (zBV (μ 394)) 36).1) ∧ zMf μ ν) 9 [zR 393, zI p1, zI m, zI p3, zI (c : Int), zU] [] ξ := by
    intro k
    induction k with
    | zero => intro c p1 p2 p3 m ξ hc hp9 hmm hx h3; omega
    | succ k ih =>
      intro c p1 p2 p3 m ξ hc hp9 hmm hx h3
      refine z_iload_4 dX12_screw_9 ?_
      refine z_bipush dX12_screw_11 (by decide) ?_
      refine z_icmpge (tgt := 80) dX12_screw_13 (by decide) (fun h_13 => ?_) (fun h_13 => ?_)
      · refine z_iload_1 dX12_screw_80 ?_
        exact z_iret dX12_screw_81 (⟨congrArg (fun z => (some (zI z) : Option zAV)) (by obtain rfl : c = 36 := (by omega); rw [← hp9]), hx⟩)
      · have c1 : (c : Int) < 36 := by omega
        have h94 : ξ 394 = μ 394 := hx.2 394 (by decide) (by decide)
        have hm1 := zMf_pre hm hx
        have hq1 : ξ 393 18 = 0 := by rw [hx.1 18 (by decide) (by decide) (by decide) (by decide) (by decide) (by decide)]; exact hq
        have hth : zTh (zBV (μ 394)) 2 (c : Int) := Or.inr (Or.inr (Or.inl ⟨rfl, by omega, c1⟩))
        have ecr : μ 394 (46 + (c : Int)) = zBV (μ 394) 1 (c : Int) := (zBV_1 (by omega) c1).symm
        refine z_aload_0 dX12_screw_16 ?_
        refine z_getF 394 1 rfl f_X12_7 zl_393 rfl rfl dX12_screw_17 ?_
        refine z_bipush dX12_screw_20 (by decide) ?_
        refine z_iload_4 dX12_screw_22 ?_
        refine z_iadd dX12_screw_24 (by omega) ?_
        refine z_iald zl_394 (by omega) (by omega) dX12_screw_25 ?_
        rw [h94, ecr]
        refine z_ifle (tgt := 74) dX12_screw_26 (by decide) (fun h_26 => ?_) (fun h_26 => ?_)
        · refine z_iinc_4 rfl dX12_screw_74 (by omega) ?_
          refine z_goto (tgt := 9) dX12_screw_77 (by decide) ?_
          refine z_weak (ls' := [zR 393, zI p1, zI m, zI p3, zI ((c + 1 : Nat) : Int), zU]) ⟨Or.inl rfl, Or.inl rfl, Or.inl rfl, Or.inl rfl, Or.inl rfl, Or.inr rfl, trivial⟩ (ih (c + 1) p1 p2 p3 m ξ (by omega) (by rw [zSw_s, ← hp9, zif_f (fun q => by have := q.1; omega)]) hmm hx (by omega))
        · have hcr : 0 < zBV (μ 394) 1 (c : Int) := by omega
          refine z_aload_0 dX12_screw_29 ?_
          refine z_iconst dX12_screw_30 (by decide) ?_
          refine z_iload_4 dX12_screw_31 ?_
          refine z_callV2 (k_X12_worthOf (t := 2) (x := (c : Int)) hm1 hq1 (by rw [h94]; exact hth) (by rw [h94]; exact he)) m_X12_worthOf zl_393 l_X12_340 (Nat.le_of_ble_eq_true rfl) ⟨Nat.le_of_ble_eq_true rfl, Nat.le_of_ble_eq_true rfl⟩ ⟨rfl, rfl⟩ dX12_screw_33 (fun r μ1 hp => ?_)
          rw [h94, show zTf 2 = 0 from rfl] at hp
          obtain ⟨rfl, h33, hmf2⟩ := hp
          obtain ⟨ζ6, hζ9⟩ : ∃ z, z = μ1 := ⟨_, rfl⟩
          subst hζ9
          have hmf6 : zMf μ ζ6 := zMf_t hx hmf2
          refine z_istore_5 rfl dX12_screw_36 ?_
          refine z_iload_1 dX12_screw_38 ?_
          refine z_iconst dX12_screw_39 (by decide) ?_
          refine z_icmpeq (tgt := 63) dX12_screw_40 (by decide) (fun h_40 => ?_) (fun h_40 => ?_)
          · refine z_iload_4 dX12_screw_63 ?_
            refine z_istore_1 rfl dX12_screw_65 ?_
            refine z_iload_5 dX12_screw_66 ?_
            refine z_istore_2 rfl dX12_screw_68 ?_
            refine z_aload_0 dX12_screw_69 ?_
            refine z_getI 33 rfl f_X12_299 zl_393 rfl dX12_screw_70 ?_
            rw [h33]
            refine z_istore_3 rfl dX12_screw_73 ?_
            refine z_iinc_4 rfl dX12_screw_74 (by omega) ?_
            refine z_goto (tgt := 9) dX12_screw_77 (by decide) ?_
            refine z_weak (ls' := [zR 393, zI (c : Int), zI (zWR (zTw (zBV (μ 394)) 2 (c : Int)) 0 - zWR (zBV (μ 394)) 0), zI (zGR (zTw (zBV (μ 394)) 2 (c : Int)) 0), zI ((c + 1 : Nat) : Int), zU]) ⟨Or.inl rfl, Or.inl rfl, Or.inl rfl, Or.inl rfl, Or.inl rfl, Or.inr rfl, trivial⟩ (ih (c + 1) _ _ _ _ ζ6 (by omega) (by rw [zSw_s, ← hp9, zif_t ⟨hcr, Or.inl h_40⟩]) (Or.inr ⟨by omega, rfl⟩) hmf6 (by omega))
          · refine z_iload_5 dX12_screw_43 ?_
            refine z_iload_2 dX12_screw_45 ?_
            refine z_icmpgt (tgt := 63) dX12_screw_46 (by decide) (fun h_46 => ?_) (fun h_46 => ?_)
            · refine z_iload_4 dX12_screw_63 ?_
              refine z_istore_1 rfl dX12_screw_65 ?_
              refine z_iload_5 dX12_screw_66 ?_
              refine z_istore_2 rfl dX12_screw_68 ?_
              refine z_aload_0 dX12_screw_69 ?_
              refine z_getI 33 rfl f_X12_299 zl_393 rfl dX12_screw_70 ?_
              rw [h33]
              refine z_istore_3 rfl dX12_screw_73 ?_
              refine z_iinc_4 rfl dX12_screw_74 (by omega) ?_
              refine z_goto (tgt := 9) dX12_screw_77 (by decide) ?_
              refine z_weak (ls' := [zR 393, zI (c : Int), zI (zWR (zTw (zBV (μ 394)) 2 (c : Int)) 0 - zWR (zBV (μ 394)) 0), zI (zGR (zTw (zBV (μ 394)) 2 (c : Int)) 0), zI ((c + 1 : Nat) : Int), zU]) ⟨Or.inl rfl, Or.inl rfl, Or.inl rfl, Or.inl rfl, Or.inl rfl, Or.inr rfl, trivial⟩ (ih (c + 1) _ _ _ _ ζ6 (by omega) (by rw [zSw_s, ← hp9, zif_t ⟨hcr, Or.inr (Or.inl (show p2 < zWR (zTw (zBV (μ 394)) 2 (c : Int)) 0 by omega))⟩]) (Or.inr ⟨by omega, rfl⟩) hmf6 (by omega))
            · refine z_iload_5 dX12_screw_49 ?_
              refine z_iload_2 dX12_screw_51 ?_
              refine z_icmpne (tgt := 74) dX12_screw_52 (by decide) (fun h_52 => ?_) (fun h_52 => ?_)
              · refine z_iinc_4 rfl dX12_screw_74 (by omega) ?_
                refine z_goto (tgt := 9) dX12_screw_77 (by decide) ?_
                refine z_weak (ls' := [zR 393, zI p1, zI m, zI p3, zI ((c + 1 : Nat) : Int), zU]) ⟨Or.inl rfl, Or.inl rfl, Or.inl rfl, Or.inl rfl, Or.inl rfl, Or.inr rfl, trivial⟩ (ih (c + 1) p1 p2 p3 m ζ6 (by omega) (by rw [zSw_s, ← hp9, zif_f (fun q => q.2.elim h_40 (fun z => z.elim (fun z => by have z1 : p2 < zWR (zTw (zBV (μ 394)) 2 (c : Int)) 0 := z; omega) (fun z => by have z1 : zWR (zTw (zBV (μ 394)) 2 (c : Int)) 0 = p2 := z.1; omega)))]) hmm hmf6 (by omega))
              · refine z_aload_0 dX12_screw_55 ?_
                refine z_getI 33 rfl f_X12_299 zl_393 rfl dX12_screw_56 ?_
                rw [h33]
                refine z_iload_3 dX12_screw_59 ?_
                refine z_icmple (tgt := 74) dX12_screw_60 (by decide) (fun h_60 => ?_) (fun h_60 => ?_)
                · refine z_iinc_4 rfl dX12_screw_74 (by omega) ?_
                  refine z_goto (tgt := 9) dX12_screw_77 (by decide) ?_
                  refine z_weak (ls' := [zR 393, zI p1, zI m, zI p3, zI ((c + 1 : Nat) : Int), zU]) ⟨Or.inl rfl, Or.inl rfl, Or.inl rfl, Or.inl rfl, Or.inl rfl, Or.inr rfl, trivial⟩ (ih (c + 1) p1 p2 p3 m ζ6 (by omega) (by rw [zSw_s, ← hp9, zif_f (fun q => q.2.elim h_40 (fun z => z.elim (fun z => by have z1 : p2 < zWR (zTw (zBV (μ 394)) 2 (c : Int)) 0 := z; omega) (fun z => by have z1 : p3 < zGR (zTw (zBV (μ 394)) 2 (c : Int)) 0 := z.2; omega)))]) hmm hmf6 (by omega))
                · refine z_iload_4 dX12_screw_63 ?_
                  refine z_istore_1 rfl dX12_screw_65 ?_
                  refine z_iload_5 dX12_screw_66 ?_
                  refine z_istore_2 rfl dX12_screw_68 ?_
                  refine z_aload_0 dX12_screw_69 ?_
                  refine z_getI 33 rfl f_X12_299 zl_393 rfl dX12_screw_70 ?_
                  rw [h33]
                  refine z_istore_3 rfl dX12_screw_73 ?_
                  refine z_iinc_4 rfl dX12_screw_74 (by omega) ?_
                  refine z_goto (tgt := 9) dX12_screw_77 (by decide) ?_
                  refine z_weak (ls' := [zR 393, zI (c : Int), zI (zWR (zTw (zBV (μ 394)) 2 (c : Int)) 0 - zWR (zBV (μ 394)) 0), zI (zGR (zTw (zBV (μ 394)) 2 (c : Int)) 0), zI ((c + 1 : Nat) : Int), zU]) ⟨Or.inl rfl, Or.inl rfl, Or.inl rfl, Or.inl rfl, Or.inl rfl, Or.inr rfl, trivial⟩ (ih (c + 1) _ _ _ _ ζ6 (by omega) (by rw [zSw_s, ← hp9, zif_t ⟨hcr, Or.inr (Or.inr ⟨show zWR (zTw (zBV (μ 394)) 2 (c : Int)) 0 = p2 by omega, show p3 < zGR (zTw (zBV (μ 394)) 2 (c : Int)) 0 by omega⟩)⟩]) (Or.inr ⟨by omega, rfl⟩) hmf6 (by omega))
  refine z_iconst dX12_screw_0 (by decide) ?_
  refine z_istore_1 rfl dX12_screw_1 ?_
  refine z_iconst dX12_screw_2 (by decide) ?_
  refine z_istore_2 rfl dX12_screw_3 ?_
  refine z_iconst dX12_screw_4 (by decide) ?_
  refine z_istore_3 rfl dX12_screw_5 ?_
  refine z_iconst dX12_screw_6 (by decide) ?_
  refine z_istore_4 rfl dX12_screw_7 ?_
  exact L 37 0 (-1) 0 0 0 μ (by decide) rfl (Or.inl ⟨rfl, rfl⟩) ⟨fun _ _ _ _ _ _ _ => rfl, fun _ _ _ => rfl⟩ (by decide)
set_option maxRecDepth 100000 in
set_option maxHeartbeats 4000000 in
theorem k_X12_rooms {l : Launch} {E : zE} {μ : zM} (hm : zMpre μ) (hq : μ 393 18 = 0) : Ct l E yX12_rooms cX12_rooms 8 (some .int) ({ frames := 5, cells := 0, slots := 0, locals := 121 }) [zR 393] μ (fun r ν => ((zBV (μ 394) 3 3) = 0 ∧ r = some (zI (-3)) ∧ ν = zup μ 398 1 (μ 398 1 + zq1 μ)) ∨ ((zBV (μ 394) 3 3) ≠ 0 ∧ (∃ z, r = some (zI z) ∧ zRm (zNV (zBV (μ 394)) 0) (zBV (μ 394) 3 3) z) ∧ zMf μ ν)) := by
  refine Ct.of RX12 [zR 393, zU, zU, zU, zU, zU, zU, zU] (by decide +kernel) rfl ⟨rfl, rfl⟩ rfl (Nat.le_of_ble_eq_true rfl) (fun X hX hc0 ha0 => ?_)
  subst hX
  have J : (zBV (μ 394) 3 3) ≠ 0 → ∀ ζ : zM, zMf μ ζ → (∀ s, 0 ≤ s → s < (zBV (μ 394) 3 3) → zR1 ζ (zNV (zBV (μ 394)) 0) s) → MW X E cX12_rooms RX12 ({ frames := 5, cells := 0, slots := 0, locals := 121 }) (some .int) (fun r ν => ((zBV (μ 394) 3 3) = 0 ∧ r = some (zI (-3)) ∧ ν = zup μ 398 1 (μ 398 1 + zq1 μ)) ∨ ((zBV (μ 394) 3 3) ≠ 0 ∧ (∃ z, r = some (zI z) ∧ zRm (zNV (zBV (μ 394)) 0) (zBV (μ 394) 3 3) z) ∧ zMf μ ν)) 24 [zR 393, zI (zBV (μ 394) 3 3), zU, zU, zU, zU, zU, zU] [] ζ := by
    intro h0 ζ hxf hz
    have np := hm.1.2.1.1
    have h4 : ∀ s, 0 ≤ s → s < (zBV (μ 394) 3 3) → 0 ≤ (zNV (zBV (μ 394)) 0) 4 s ∧ (zNV (zBV (μ 394)) 0) 4 s ≤ 40 := fun s s0 s1 => zNV_4 hm.1 s0 s1
    have hsh := zshl_b np.1 np.2
    have SUM : ∀ (p1 p2 y : Int), (∀ (v : Int) (u : zAV), v = zTg (zNV (zBV (μ 394)) 0) (zBV (μ 394) 3 3) y → MW X E cX12_rooms RX12 ({ frames := 5, cells := 0, slots := 0, locals := 121 }) (some .int) (fun r ν => ((zBV (μ 394) 3 3) = 0 ∧ r = some (zI (-3)) ∧ ν = zup μ 398 1 (μ 398 1 + zq1 μ)) ∨ ((zBV (μ 394) 3 3) ≠ 0 ∧ (∃ z, r = some (zI z) ∧ zRm (zNV (zBV (μ 394)) 0) (zBV (μ 394) 3 3) z) ∧ zMf μ ν)) 115 [zR 393, zI (zBV (μ 394) 3 3), zI p1, zI p2, zI y, zI v, u, zU] [] ζ) → MW X E cX12_rooms RX12 ({ frames := 5, cells := 0, slots := 0, locals := 121 }) (some .int) (fun r ν => ((zBV (μ 394) 3 3) = 0 ∧ r = some (zI (-3)) ∧ ν = zup μ 398 1 (μ 398 1 + zq1 μ)) ∨ ((zBV (μ 394) 3 3) ≠ 0 ∧ (∃ z, r = some (zI z) ∧ zRm (zNV (zBV (μ 394)) 0) (zBV (μ 394) 3 3) z) ∧ zMf μ ν)) 41 [zR 393, zI (zBV (μ 394) 3 3), zI p1, zI p2, zI y, zU, zU, zU] [] ζ := by
      intro p1 p2 y KK
      have LI : ∀ (k : Nat) (i : Nat) (v : Int), (i : Int) ≤ (zBV (μ 394) 3 3) → v = zsum (fun a => zsum (zTr (zNV (zBV (μ 394)) 0) y a) (zBV (μ 394) 3 3).toNat) i → (zBV (μ 394) 3 3) - i < k → MW X E cX12_rooms RX12 ({ frames := 5, cells := 0, slots := 0, locals := 121 }) (some .int) (fun r ν => ((zBV (μ 394) 3 3) = 0 ∧ r = some (zI (-3)) ∧ ν = zup μ 398 1 (μ 398 1 + zq1 μ)) ∨ ((zBV (μ 394) 3 3) ≠ 0 ∧ (∃ z, r = some (zI z) ∧ zRm (zNV (zBV (μ 394)) 0) (zBV (μ 394) 3 3) z) ∧ zMf μ ν)) 47 [zR 393, zI (zBV (μ 394) 3 3), zI p1, zI p2, zI y, zI v, zI (i : Int), zU] [] ζ := by
        intro k
        induction k with
        | zero => intro i v hi1 hv h4q; omega
        | succ k ih2 =>
          intro i v hi1 hv h4q
          refine z_iload_6 dX12_rooms_47 ?_
          refine z_iload_1 dX12_rooms_49 ?_
          refine z_icmpge (tgt := 115) dX12_rooms_50 (by decide) (fun h_50 => ?_) (fun h_50 => ?_)
          · exact KK v _ (by rw [hv, zTg_e, show (zBV (μ 394) 3 3).toNat = i by omega])
          · have LJ : ∀ (k : Nat) (j : Nat) (v : Int), (j : Int) ≤ (zBV (μ 394) 3 3) → v = zsum (fun a => zsum (zTr (zNV (zBV (μ 394)) 0) y a) (zBV (μ 394) 3 3).toNat) i + zsum (zTr (zNV (zBV (μ 394)) 0) y (i : Int)) j → (zBV (μ 394) 3 3) - j < k → MW X E cX12_rooms RX12 ({ frames := 5, cells := 0, slots := 0, locals := 121 }) (some .int) (fun r ν => ((zBV (μ 394) 3 3) = 0 ∧ r = some (zI (-3)) ∧ ν = zup μ 398 1 (μ 398 1 + zq1 μ)) ∨ ((zBV (μ 394) 3 3) ≠ 0 ∧ (∃ z, r = some (zI z) ∧ zRm (zNV (zBV (μ 394)) 0) (zBV (μ 394) 3 3) z) ∧ zMf μ ν)) 56 [zR 393, zI (zBV (μ 394) 3 3), zI p1, zI p2, zI y, zI v, zI (i : Int), zI (j : Int)] [] ζ := by
              intro k
              induction k with
              | zero => intro j v hj1 hv h5; omega
              | succ k ih3 =>
                intro j v hj1 hv h5
                refine z_iload_7 dX12_rooms_56 ?_
                refine z_iload_1 dX12_rooms_58 ?_
                refine z_icmpge (tgt := 109) dX12_rooms_59 (by decide) (fun h_59 => ?_) (fun h_59 => ?_)
                · refine z_iinc_6 rfl dX12_rooms_109 (by omega) ?_
                  refine z_goto (tgt := 47) dX12_rooms_112 (by decide) ?_
                  refine z_weak (ls' := [zR 393, zI (zBV (μ 394) 3 3), zI p1, zI p2, zI y, zI v, zI ((i + 1 : Nat) : Int), zU]) ⟨Or.inl rfl, Or.inl rfl, Or.inl rfl, Or.inl rfl, Or.inl rfl, Or.inl rfl, Or.inl rfl, Or.inr rfl, trivial⟩ (ih2 (i + 1) v (by omega) (by rw [hv, zsum_s, show (zBV (μ 394) 3 3).toNat = j by omega]) (by omega))
                · have r1 := zTr_b (x := y) (a := (i : Int)) np.2 h4 (n := j) (by omega)
                  have r2 := zTg_b (x := y) np h4 (n := i) (by omega)
                  have wb := zWb_b (a := (i : Int)) (h4 j (by omega) (by omega))
                  refine z_iload_5 dX12_rooms_62 ?_
                  refine z_iload_6 dX12_rooms_64 ?_
                  refine z_iload_7 dX12_rooms_66 ?_
                  refine z_icmpeq (tgt := 99) dX12_rooms_68 (by decide) (fun h_68 => ?_) (fun h_68 => ?_)
                  · refine z_iconst dX12_rooms_99 (by decide) ?_
                    refine z_iadd dX12_rooms_100 (by omega) ?_
                    refine z_istore_5 rfl dX12_rooms_101 ?_
                    refine z_iinc_7 rfl dX12_rooms_103 (by omega) ?_
                    refine z_goto (tgt := 56) dX12_rooms_106 (by decide) ?_
                    exact ih3 (j + 1) _ (by omega) (by rw [zsum_s, show zTr (zNV (zBV (μ 394)) 0) y (i : Int) (j : Int) = 0 from zif_f (fun q => q.1 h_68), hv]; omega) (by omega)
                  · refine z_iload_4 dX12_rooms_71 ?_
                    refine z_iload_6 dX12_rooms_73 ?_
                    refine z_ishr dX12_rooms_75 ?_
                    refine z_iconst dX12_rooms_76 (by decide) ?_
                    refine z_iand dX12_rooms_77 ?_
                    refine z_iload_4 dX12_rooms_78 ?_
                    refine z_iload_7 dX12_rooms_80 ?_
                    refine z_ishr dX12_rooms_82 ?_
                    refine z_iconst dX12_rooms_83 (by decide) ?_
                    refine z_iand dX12_rooms_84 ?_
                    refine z_icmpne (tgt := 99) dX12_rooms_85 (by decide) (fun h_85 => ?_) (fun h_85 => ?_)
                    · refine z_iconst dX12_rooms_99 (by decide) ?_
                      refine z_iadd dX12_rooms_100 (by omega) ?_
                      refine z_istore_5 rfl dX12_rooms_101 ?_
                      refine z_iinc_7 rfl dX12_rooms_103 (by omega) ?_
                      refine z_goto (tgt := 56) dX12_rooms_106 (by decide) ?_
                      exact ih3 (j + 1) _ (by omega) (by rw [zsum_s, show zTr (zNV (zBV (μ 394)) 0) y (i : Int) (j : Int) = 0 from zif_f (fun q => h_85 q.2), hv]; omega) (by omega)
                    · refine z_aload_0 dX12_rooms_88 ?_
                      refine z_iload_6 dX12_rooms_89 ?_
                      refine z_iload_7 dX12_rooms_91 ?_
                      refine z_callV2 (k_X12_wokeBy (S := (zNV (zBV (μ 394)) 0)) (by omega) (by omega) (hz j (by omega) (by omega)) (h4 j (by omega) (by omega))) m_X12_wokeBy zl_393 l_X12_305 (Nat.le_of_ble_eq_true rfl) ⟨Nat.le_of_ble_eq_true rfl, Nat.le_of_ble_eq_true rfl⟩ ⟨rfl, rfl⟩ dX12_rooms_93 (fun r μ1 hp => ?_)
                      obtain ⟨rfl, hv⟩ := hp
                      replace hv := hv.symm
                      subst hv
                      refine z_goto (tgt := 100) dX12_rooms_96 (by decide) ?_
                      refine z_iadd dX12_rooms_100 (by omega) ?_
                      refine z_istore_5 rfl dX12_rooms_101 ?_
                      refine z_iinc_7 rfl dX12_rooms_103 (by omega) ?_
                      refine z_goto (tgt := 56) dX12_rooms_106 (by decide) ?_
                      exact ih3 (j + 1) _ (by omega) (by rw [zsum_s, show zTr (zNV (zBV (μ 394)) 0) y (i : Int) (j : Int) = zWb (zNV (zBV (μ 394)) 0) (i : Int) (j : Int) from zif_t ⟨h_68, h_85⟩, hv]; omega) (by omega)
            refine z_iconst dX12_rooms_53 (by decide) ?_
            refine z_istore_7 rfl dX12_rooms_54 ?_
            exact LJ 9 0 v (by omega) (by rw [hv]; exact (Int.add_zero _).symm) (by omega)
      refine z_iconst dX12_rooms_41 (by decide) ?_
      refine z_istore_5 rfl dX12_rooms_42 ?_
      refine z_iconst dX12_rooms_44 (by decide) ?_
      refine z_istore_6 rfl dX12_rooms_45 ?_
      exact LI 9 0 0 (by omega) rfl (by omega)
    have LO : ∀ (k : Nat) (n : Nat) (p1 p2 : Int), (p1, p2) = zRo (zNV (zBV (μ 394)) 0) (zBV (μ 394) 3 3) n → (2 * (n : Int) < zshl 1 (zBV (μ 394) 3 3) ∨ n = 0) → 40 - 2 * (n : Int) < k → MW X E cX12_rooms RX12 ({ frames := 5, cells := 0, slots := 0, locals := 121 }) (some .int) (fun r ν => ((zBV (μ 394) 3 3) = 0 ∧ r = some (zI (-3)) ∧ ν = zup μ 398 1 (μ 398 1 + zq1 μ)) ∨ ((zBV (μ 394) 3 3) ≠ 0 ∧ (∃ z, r = some (zI z) ∧ zRm (zNV (zBV (μ 394)) 0) (zBV (μ 394) 3 3) z) ∧ zMf μ ν)) 33 [zR 393, zI (zBV (μ 394) 3 3), zI p1, zI p2, zI (2 * ((n : Int) + 1)), zU, zU, zU] [] ζ := by
      intro k
      induction k with
      | zero => intro n p1 p2 hp9 hn2 h3; omega
      | succ k ih =>
        intro n p1 p2 hp9 hn2 h3
        refine z_iload_4 dX12_rooms_33 ?_
        refine z_iconst dX12_rooms_35 (by decide) ?_
        refine z_iload_1 dX12_rooms_36 ?_
        refine z_ishl dX12_rooms_37 ?_
        refine z_icmpge (tgt := 147) dX12_rooms_38 (by decide) (fun h_38 => ?_) (fun h_38 => ?_)
        · refine z_iload_2 dX12_rooms_147 ?_
          exact z_iret dX12_rooms_148 (Or.inr ⟨h0, ⟨_, rfl, n, by rw [← hp9], by omega, hn2⟩, hxf⟩)
        · refine SUM p1 p2 (2 * ((n : Int) + 1)) (fun v u hv => ?_)
          refine z_iload_5 dX12_rooms_115 ?_
          refine z_iload_3 dX12_rooms_117 ?_
          refine z_icmpge (tgt := 126) dX12_rooms_118 (by decide) (fun h_118 => ?_) (fun h_118 => ?_)
          · refine z_iload_2 dX12_rooms_126 ?_
            refine z_istore_2 rfl dX12_rooms_127 ?_
            refine z_iload_5 dX12_rooms_128 ?_
            refine z_iload_3 dX12_rooms_130 ?_
            refine z_icmpge (tgt := 139) dX12_rooms_131 (by decide) (fun h_131 => ?_) (fun h_131 => ?_)
            · refine z_iload_3 dX12_rooms_139 ?_
              refine z_istore_3 rfl dX12_rooms_140 ?_
              refine z_iinc_4 rfl dX12_rooms_141 (by omega) ?_
              refine z_goto (tgt := 33) dX12_rooms_144 (by decide) ?_
              refine z_weak (ls' := [zR 393, zI (zBV (μ 394) 3 3), zI p1, zI p2, zI (2 * (((n + 1 : Nat) : Int) + 1)), zU, zU, zU]) ⟨Or.inl rfl, Or.inl rfl, Or.inl rfl, Or.inl rfl, Or.inl (congrArg zI (by omega)), Or.inr rfl, Or.inr rfl, Or.inr rfl, trivial⟩ (ih (n + 1) _ _ (by rw [zRo_s, ← hp9, ← hv, zif_f (by omega)]) (Or.inl (by omega)) (by omega))
            · refine z_iload_5 dX12_rooms_134 ?_
              refine z_goto (tgt := 140) dX12_rooms_136 (by decide) ?_
              refine z_istore_3 rfl dX12_rooms_140 ?_
              refine z_iinc_4 rfl dX12_rooms_141 (by omega) ?_
              refine z_goto (tgt := 33) dX12_rooms_144 (by decide) ?_
              exact absurd h_118 (by omega)
          · refine z_iload_4 dX12_rooms_121 ?_
            refine z_goto (tgt := 127) dX12_rooms_123 (by decide) ?_
            refine z_istore_2 rfl dX12_rooms_127 ?_
            refine z_iload_5 dX12_rooms_128 ?_
            refine z_iload_3 dX12_rooms_130 ?_
            refine z_icmpge (tgt := 139) dX12_rooms_131 (by decide) (fun h_131 => ?_) (fun h_131 => ?_)
            · refine z_iload_3 dX12_rooms_139 ?_
              refine z_istore_3 rfl dX12_rooms_140 ?_
              refine z_iinc_4 rfl dX12_rooms_141 (by omega) ?_
              refine z_goto (tgt := 33) dX12_rooms_144 (by decide) ?_
              exact absurd h_131 (by omega)
            · refine z_iload_5 dX12_rooms_134 ?_
              refine z_goto (tgt := 140) dX12_rooms_136 (by decide) ?_
              refine z_istore_3 rfl dX12_rooms_140 ?_
              refine z_iinc_4 rfl dX12_rooms_141 (by omega) ?_
              refine z_goto (tgt := 33) dX12_rooms_144 (by decide) ?_
              refine z_weak (ls' := [zR 393, zI (zBV (μ 394) 3 3), zI (2 * ((n : Int) + 1)), zI v, zI (2 * (((n + 1 : Nat) : Int) + 1)), zU, zU, zU]) ⟨Or.inl rfl, Or.inl rfl, Or.inl rfl, Or.inl rfl, Or.inl (congrArg zI (by omega)), Or.inr rfl, Or.inr rfl, Or.inr rfl, trivial⟩ (ih (n + 1) _ _ (by rw [zRo_s, ← hp9, ← hv, zif_t (by omega)]) (Or.inl (by omega)) (by omega))
    refine z_iconst dX12_rooms_24 (by decide) ?_
    refine z_istore_2 rfl dX12_rooms_25 ?_
    refine z_ldcw (n := 1000000) k_X12_295 dX12_rooms_26 (by decide +kernel) ?_
    refine z_istore_3 rfl dX12_rooms_29 ?_
    refine z_iconst dX12_rooms_30 (by decide) ?_
    refine z_istore_4 rfl dX12_rooms_31 ?_
    refine z_iload_4 dX12_rooms_33 ?_
    refine z_iconst dX12_rooms_35 (by decide) ?_
    refine z_iload_1 dX12_rooms_36 ?_
    refine z_ishl dX12_rooms_37 ?_
    refine z_icmpge (tgt := 147) dX12_rooms_38 (by decide) (fun h_38 => ?_) (fun h_38 => ?_)
    · exact absurd h_38 (by omega)
    · refine SUM 0 1000000 0 (fun v u hv => ?_)
      have tb := zTg_b (x := 0) np h4 (n := (zBV (μ 394) 3 3).toNat) (by omega)
      rw [← zTg_e] at tb
      refine z_iload_5 dX12_rooms_115 ?_
      refine z_iload_3 dX12_rooms_117 ?_
      refine z_icmpge (tgt := 126) dX12_rooms_118 (by decide) (fun h_118 => ?_) (fun h_118 => ?_)
      · refine z_iload_2 dX12_rooms_126 ?_
        refine z_istore_2 rfl dX12_rooms_127 ?_
        refine z_iload_5 dX12_rooms_128 ?_
        refine z_iload_3 dX12_rooms_130 ?_
        refine z_icmpge (tgt := 139) dX12_rooms_131 (by decide) (fun h_131 => ?_) (fun h_131 => ?_)
        · refine z_iload_3 dX12_rooms_139 ?_
          refine z_istore_3 rfl dX12_rooms_140 ?_
          refine z_iinc_4 rfl dX12_rooms_141 (by omega) ?_
          refine z_goto (tgt := 33) dX12_rooms_144 (by decide) ?_
          exact absurd h_118 (by omega)
        · refine z_iload_5 dX12_rooms_134 ?_
          refine z_goto (tgt := 140) dX12_rooms_136 (by decide) ?_
          refine z_istore_3 rfl dX12_rooms_140 ?_
          refine z_iinc_4 rfl dX12_rooms_141 (by omega) ?_
          refine z_goto (tgt := 33) dX12_rooms_144 (by decide) ?_
          exact absurd h_118 (by omega)
      · refine z_iload_4 dX12_rooms_121 ?_
        refine z_goto (tgt := 127) dX12_rooms_123 (by decide) ?_
        refine z_istore_2 rfl dX12_rooms_127 ?_
        refine z_iload_5 dX12_rooms_128 ?_
        refine z_iload_3 dX12_rooms_130 ?_
        refine z_icmpge (tgt := 139) dX12_rooms_131 (by decide) (fun h_131 => ?_) (fun h_131 => ?_)
        · refine z_iload_3 dX12_rooms_139 ?_
          refine z_istore_3 rfl dX12_rooms_140 ?_
          refine z_iinc_4 rfl dX12_rooms_141 (by omega) ?_
          refine z_goto (tgt := 33) dX12_rooms_144 (by decide) ?_
          exact absurd h_131 (by omega)
        · refine z_iload_5 dX12_rooms_134 ?_
          refine z_goto (tgt := 140) dX12_rooms_136 (by decide) ?_
          refine z_istore_3 rfl dX12_rooms_140 ?_
          refine z_iinc_4 rfl dX12_rooms_141 (by omega) ?_
          refine z_goto (tgt := 33) dX12_rooms_144 (by decide) ?_
          refine z_weak (ls' := [zR 393, zI (zBV (μ 394) 3 3), zI 0, zI v, zI (2 * (((0 : Nat) : Int) + 1)), zU, zU, zU]) ⟨Or.inl rfl, Or.inl rfl, Or.inl rfl, Or.inl rfl, Or.inl rfl, Or.inr rfl, Or.inr rfl, Or.inr rfl, trivial⟩ (LO 41 0 0 v (by rw [hv]; rfl) (Or.inr rfl) (by decide))
  refine z_aload_0 dX12_rooms_0 ?_
  refine z_getF 394 1 rfl f_X12_7 zl_393 rfl rfl dX12_rooms_1 ?_
  refine z_iconst dX12_rooms_4 (by decide) ?_
  refine z_iald zl_394 (by omega) (by omega) dX12_rooms_5 ?_
  refine z_istore_1 rfl dX12_rooms_6 ?_
  refine z_iload_1 dX12_rooms_7 ?_
  refine z_ifne (tgt := 16) dX12_rooms_8 (by decide) (fun h_8 => ?_) (fun h_8 => ?_)
  · refine z_aload_0 dX12_rooms_16 ?_
    refine z_callV0 (k_X12_looks) m_X12_looks zl_393 l_X12_255 (Nat.le_of_ble_eq_true rfl) ⟨Nat.le_of_ble_eq_true rfl, Nat.le_of_ble_eq_true rfl⟩ ⟨rfl, rfl⟩ dX12_rooms_17 (fun r μ1 hp => ?_)
    obtain ⟨rfl, far, hL⟩ := hp
    obtain ⟨ζ0, hζ9⟩ : ∃ z, z = μ1 := ⟨_, rfl⟩
    subst hζ9
    have hV0 : zBV (ζ0 394) = zBV (μ 394) := by rw [hL 394 (by decide)]
    have hq0 : ζ0 393 18 = 0 := by rw [hL 393 (by decide)]; exact hq
    have np := hm.1.2.1.1
    have pc3 : zBV (μ 394) 3 3 = μ 394 2 := rfl
    refine z_aload_0 dX12_rooms_20 ?_
    refine z_callV0 (k_X12_nights (V := zBV (μ 394)) hV0 hm.1 far (by rw [hq0]; decide)) m_X12_nights zl_393 l_X12_302 (Nat.le_of_ble_eq_true rfl) ⟨Nat.le_of_ble_eq_true rfl, Nat.le_of_ble_eq_true rfl⟩ ⟨rfl, rfl⟩ dX12_rooms_21 (fun r μ1 hp => ?_)
    obtain ⟨rfl, hni, hw32, hw33, hrf⟩ := hp
    obtain ⟨ζ, hζ9⟩ : ∃ z, z = μ1 := ⟨_, rfl⟩
    subst hζ9
    rw [hq0] at hni hw32 hw33
    have hmf : zMf μ ζ := zMf_t (zMf_l hL) (zMf_n hrf)
    have h94 : ζ 394 = μ 394 := by rw [hrf.2 394 (by decide) (by decide), hL 394 (by decide)]
    exact J h_8 ζ hmf (fun s s0 s1 => (hni s s0 s1).1)
  · refine z_aload_0 dX12_rooms_11 ?_
    refine z_callV0 (k_X12_no hm) m_X12_no zl_393 l_X12_124 (Nat.le_of_ble_eq_true rfl) ⟨Nat.le_of_ble_eq_true rfl, Nat.le_of_ble_eq_true rfl⟩ ⟨rfl, rfl⟩ dX12_rooms_12 (fun r μ1 hp => ?_)
    obtain ⟨rfl, hv⟩ := hp
    replace hv := hv.symm
    subst hv
    exact z_iret dX12_rooms_15 (Or.inl ⟨h_8, rfl, rfl⟩)
