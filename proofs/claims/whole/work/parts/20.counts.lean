/-! PART, STATUS, COUNT, TENT -/
def zGc : Nat → Int → Int → Int
  | 0, a, _ => a
  | n + 1, a, b => if 0 < b then zGc n b (a % b) else a
theorem zGc_0 {a b : Int} : zGc 0 a b = a := rfl
theorem zGc_s {n : Nat} {a b : Int} (h : 0 < b) : zGc (n + 1) a b = zGc n b (a % b) := if_pos h
theorem zGc_z : ∀ {n : Nat} {a b : Int}, b ≤ 0 → zGc n a b = a
  | 0, _, _, _ => rfl
  | n + 1, _, _, h => if_neg (by omega)
theorem zGc_st : ∀ {n m : Nat} {a b : Int}, 0 ≤ b → b < n → b < m → zGc n a b = zGc m a b
  | 0, _, _, _, h, h1, _ => by omega
  | n + 1, 0, _, _, h, _, h2 => by omega
  | n + 1, m + 1, a, b, h, h1, h2 => by
    by_cases q : 0 < b
    · have := Int.emod_nonneg a (show b ≠ 0 by omega)
      have := Int.emod_lt_of_pos a q
      rw [zGc_s q, zGc_s q]
      exact zGc_st (by omega) (by omega) (by omega)
    · rw [zGc_z (by omega), zGc_z (by omega)]
theorem zGc_p : ∀ {n : Nat} {a b : Int}, 0 ≤ b → (0 < a ∨ 0 < b) → b < n → 0 ≤ a → 0 < zGc n a b
  | 0, _, _, _, _, h1, _ => by omega
  | n + 1, a, b, h, h1, h2, h3 => by
    by_cases q : 0 < b
    · have := Int.emod_nonneg a (show b ≠ 0 by omega)
      have := Int.emod_lt_of_pos a q
      rw [zGc_s q]
      exact zGc_p (by omega) (Or.inl q) (by omega) (by omega)
    · rw [zGc_z (by omega)]; omega
set_option maxRecDepth 100000 in
set_option maxHeartbeats 4000000 in
theorem k_X11_part {l : Launch} {E : zE} {μ : zM} (hm : zXpre μ) {w : Int} : Ct l E yX11_part cX11_part 2 (some .int) ({ frames := 3, cells := 0, slots := 0, locals := 66 }) [zR 0, zI w] μ (fun r ν => (w = 0 ∧ r = some (zI (μ 0 11)) ∧ ν = μ) ∨ (w = 1 ∧ r = some (zI (μ 0 12)) ∧ ν = μ) ∨ (w ≠ 0 ∧ w ≠ 1 ∧ r = some (zI (-2)) ∧ ν = zCt μ (-2))) := by
  refine Ct.of RX11 [zR 0, zI w] (by decide +kernel) rfl ⟨rfl, rfl⟩ rfl (Nat.le_of_ble_eq_true rfl) (fun X hX hc0 ha0 => ?_)
  subst hX
  refine z_iload_1 dX11_part_0 ?_
  refine z_ifeq (tgt := 16) dX11_part_1 (by decide) (fun h_1 => ?_) (fun h_1 => ?_)
  · refine z_iload_1 dX11_part_16 ?_
    refine z_ifne (tgt := 27) dX11_part_17 (by decide) (fun h_17 => ?_) (fun h_17 => ?_)
    · refine z_aload_0 dX11_part_27 ?_
      refine z_getI 12 rfl f_X11_73 zl_0 rfl dX11_part_28 ?_
      exact z_iret dX11_part_31 (by first | exact Or.inl ⟨by omega, rfl, rfl⟩ | exact Or.inr (Or.inl ⟨by omega, rfl, rfl⟩) | exact Or.inr (Or.inr ⟨by omega, by omega, rfl, rfl⟩))
    · refine z_aload_0 dX11_part_20 ?_
      refine z_getI 11 rfl f_X11_69 zl_0 rfl dX11_part_21 ?_
      refine z_goto (tgt := 31) dX11_part_24 (by decide) ?_
      exact z_iret dX11_part_31 (by first | exact Or.inl ⟨by omega, rfl, rfl⟩ | exact Or.inr (Or.inl ⟨by omega, rfl, rfl⟩) | exact Or.inr (Or.inr ⟨by omega, by omega, rfl, rfl⟩))
  · refine z_iload_1 dX11_part_4 ?_
    refine z_iconst dX11_part_5 (by decide) ?_
    refine z_icmpeq (tgt := 16) dX11_part_6 (by decide) (fun h_6 => ?_) (fun h_6 => ?_)
    · refine z_iload_1 dX11_part_16 ?_
      refine z_ifne (tgt := 27) dX11_part_17 (by decide) (fun h_17 => ?_) (fun h_17 => ?_)
      · refine z_aload_0 dX11_part_27 ?_
        refine z_getI 12 rfl f_X11_73 zl_0 rfl dX11_part_28 ?_
        exact z_iret dX11_part_31 (by first | exact Or.inl ⟨by omega, rfl, rfl⟩ | exact Or.inr (Or.inl ⟨by omega, rfl, rfl⟩) | exact Or.inr (Or.inr ⟨by omega, by omega, rfl, rfl⟩))
      · refine z_aload_0 dX11_part_20 ?_
        refine z_getI 11 rfl f_X11_69 zl_0 rfl dX11_part_21 ?_
        refine z_goto (tgt := 31) dX11_part_24 (by decide) ?_
        exact z_iret dX11_part_31 (by first | exact Or.inl ⟨by omega, rfl, rfl⟩ | exact Or.inr (Or.inl ⟨by omega, rfl, rfl⟩) | exact Or.inr (Or.inr ⟨by omega, by omega, rfl, rfl⟩))
    · refine z_aload_0 dX11_part_9 ?_
      refine z_bipush dX11_part_10 (by decide) ?_
      refine z_callV1 (k_X11_counted hm.2) m_X11_counted zl_0 l_X11_86 (Nat.le_of_ble_eq_true rfl) ⟨Nat.le_of_ble_eq_true rfl, Nat.le_of_ble_eq_true rfl⟩ ⟨rfl, rfl⟩ dX11_part_12 (fun r μ1 hp => ?_)
      obtain ⟨rfl, hv⟩ := hp
      replace hv := hv.symm
      subst hv
      exact z_iret dX11_part_15 (by first | exact Or.inl ⟨by omega, rfl, rfl⟩ | exact Or.inr (Or.inl ⟨by omega, rfl, rfl⟩) | exact Or.inr (Or.inr ⟨by omega, by omega, rfl, rfl⟩))
set_option maxRecDepth 100000 in
set_option maxHeartbeats 4000000 in
theorem k_X12_part {l : Launch} {E : zE} {μ : zM} (hm : zMpre μ) {w : Int} : Ct l E yX12_part cX12_part 2 (some .int) ({ frames := 2, cells := 0, slots := 0, locals := 42 }) [zR 393, zI w] μ (fun r ν => (w = 0 ∧ r = some (zI (μ 393 5)) ∧ ν = μ) ∨ (w = 1 ∧ r = some (zI (μ 393 6)) ∧ ν = μ) ∨ (w ≠ 0 ∧ w ≠ 1 ∧ r = some (zI (-2)) ∧ ν = zup μ 398 0 (μ 398 0 + zq1 μ))) := by
  refine Ct.of RX12 [zR 393, zI w] (by decide +kernel) rfl ⟨rfl, rfl⟩ rfl (Nat.le_of_ble_eq_true rfl) (fun X hX hc0 ha0 => ?_)
  subst hX
  refine z_iload_1 dX12_part_0 ?_
  refine z_ifne (tgt := 11) dX12_part_1 (by decide) (fun h_1 => ?_) (fun h_1 => ?_)
  · refine z_iload_1 dX12_part_11 ?_
    refine z_iconst dX12_part_12 (by decide) ?_
    refine z_icmpne (tgt := 23) dX12_part_13 (by decide) (fun h_13 => ?_) (fun h_13 => ?_)
    · refine z_aload_0 dX12_part_23 ?_
      refine z_callV0 (k_X12_bad hm) m_X12_bad zl_393 l_X12_117 (Nat.le_of_ble_eq_true rfl) ⟨Nat.le_of_ble_eq_true rfl, Nat.le_of_ble_eq_true rfl⟩ ⟨rfl, rfl⟩ dX12_part_24 (fun r μ1 hp => ?_)
      obtain ⟨rfl, hv⟩ := hp
      replace hv := hv.symm
      subst hv
      exact z_iret dX12_part_27 (by first | exact Or.inl ⟨by omega, rfl, rfl⟩ | exact Or.inr (Or.inl ⟨by omega, rfl, rfl⟩) | exact Or.inr (Or.inr ⟨by omega, by omega, rfl, rfl⟩))
    · refine z_aload_0 dX12_part_16 ?_
      refine z_getI 6 rfl f_X12_92 zl_393 rfl dX12_part_17 ?_
      refine z_goto (tgt := 27) dX12_part_20 (by decide) ?_
      exact z_iret dX12_part_27 (by first | exact Or.inl ⟨by omega, rfl, rfl⟩ | exact Or.inr (Or.inl ⟨by omega, rfl, rfl⟩) | exact Or.inr (Or.inr ⟨by omega, by omega, rfl, rfl⟩))
  · refine z_aload_0 dX12_part_4 ?_
    refine z_getI 5 rfl f_X12_355 zl_393 rfl dX12_part_5 ?_
    refine z_goto (tgt := 27) dX12_part_8 (by decide) ?_
    exact z_iret dX12_part_27 (by first | exact Or.inl ⟨by omega, rfl, rfl⟩ | exact Or.inr (Or.inl ⟨by omega, rfl, rfl⟩) | exact Or.inr (Or.inr ⟨by omega, by omega, rfl, rfl⟩))
set_option maxRecDepth 100000 in
set_option maxHeartbeats 4000000 in
theorem k_X11_status {l : Launch} {E : zE} {μ : zM} (hm : zXpre μ) {w : Int} : Ct l E yX11_status cX11_status 2 (some .int) ({ frames := 2, cells := 0, slots := 0, locals := 45 }) [zR 0, zI w] μ (fun r ν => ((0 ≤ w ∧ w ≤ 2) ∧ r = some (zI (μ 348 w)) ∧ ν = μ) ∨ (¬ (0 ≤ w ∧ w ≤ 2) ∧ r = some (zI (-1)) ∧ ν = zup μ 348 0 (μ 348 0 + 1))) := by
  refine Ct.of RX11 [zR 0, zI w] (by decide +kernel) rfl ⟨rfl, rfl⟩ rfl (Nat.le_of_ble_eq_true rfl) (fun X hX hc0 ha0 => ?_)
  subst hX
  refine z_iload_1 dX11_status_0 ?_
  refine z_iconst dX11_status_1 (by decide) ?_
  refine z_aload_0 dX11_status_2 ?_
  refine z_getF 348 348 rfl f_X11_66 zl_0 rfl rfl dX11_status_3 ?_
  refine z_alen (Or.inl zl_348) (by decide) dX11_status_6 ?_
  refine z_iconst dX11_status_7 (by decide) ?_
  refine z_isub dX11_status_8 (by omega) ?_
  refine z_callS3 (k_X11_isIn) m_X11_isIn l_X11_174 (Nat.le_of_ble_eq_true rfl) ⟨Nat.le_of_ble_eq_true rfl, Nat.le_of_ble_eq_true rfl⟩ ⟨rfl, rfl⟩ dX11_status_9 (fun r μ1 hp => ?_)
  obtain ⟨rfl, hv⟩ := hp
  replace hv := hv.symm
  subst hv
  refine z_ifne (tgt := 23) dX11_status_12 (by decide) (fun h_12 => ?_) (fun h_12 => ?_)
  · replace h_12 := zb_n.mp h_12
    refine z_aload_0 dX11_status_23 ?_
    refine z_getF 348 348 rfl f_X11_66 zl_0 rfl rfl dX11_status_24 ?_
    refine z_iload_1 dX11_status_27 ?_
    refine z_iald zl_348 (by omega) (by omega) dX11_status_28 ?_
    exact z_iret dX11_status_29 (by first | exact Or.inl ⟨by omega, rfl, rfl⟩ | exact Or.inr ⟨by omega, rfl, rfl⟩)
  · replace h_12 := zb_0.mp h_12
    refine z_aload_0 dX11_status_15 ?_
    refine z_bipush dX11_status_16 (by decide) ?_
    refine z_iconst dX11_status_18 (by decide) ?_
    refine z_callV2 (k_X11_refused (by decide) hm.2) m_X11_refused zl_0 l_X11_116 (Nat.le_of_ble_eq_true rfl) ⟨Nat.le_of_ble_eq_true rfl, Nat.le_of_ble_eq_true rfl⟩ ⟨rfl, rfl⟩ dX11_status_19 (fun r μ1 hp => ?_)
    obtain ⟨rfl, hv⟩ := hp
    replace hv := hv.symm
    subst hv
    exact z_iret dX11_status_22 (by first | exact Or.inl ⟨by omega, rfl, rfl⟩ | exact Or.inr ⟨by omega, rfl, rfl⟩)
set_option maxRecDepth 100000 in
set_option maxHeartbeats 4000000 in
theorem k_X12_status {l : Launch} {E : zE} {μ : zM} (hm : zMpre μ) {w : Int} : Ct l E yX12_status cX12_status 2 (some .int) ({ frames := 1, cells := 0, slots := 0, locals := 25 }) [zR 393, zI w] μ (fun r ν => ((0 ≤ w ∧ w ≤ 2) ∧ r = some (zI (μ 398 w)) ∧ ν = μ) ∨ (¬ (0 ≤ w ∧ w ≤ 2) ∧ r = some (zI (-1)) ∧ ν = zup μ 398 0 (μ 398 0 + zq1 μ))) := by
  refine Ct.of RX12 [zR 393, zI w] (by decide +kernel) rfl ⟨rfl, rfl⟩ rfl (Nat.le_of_ble_eq_true rfl) (fun X hX hc0 ha0 => ?_)
  subst hX
  refine z_iload_1 dX12_status_0 ?_
  refine z_i2l dX12_status_1 ?_
  refine z_lconst0 dX12_status_2 ?_
  refine z_ldc2 (n := 2) k_X12_308 dX12_status_3 (by decide +kernel) ?_
  refine z_callS3 (k_X12_in) m_X12_in l_X12_106 (Nat.le_of_ble_eq_true rfl) ⟨Nat.le_of_ble_eq_true rfl, Nat.le_of_ble_eq_true rfl⟩ ⟨rfl, rfl⟩ dX12_status_6 (fun r μ1 hp => ?_)
  obtain ⟨rfl, hv⟩ := hp
  replace hv := hv.symm
  subst hv
  refine z_ifeq (tgt := 21) dX12_status_9 (by decide) (fun h_9 => ?_) (fun h_9 => ?_)
  · replace h_9 := zb_0.mp h_9
    refine z_aload_0 dX12_status_21 ?_
    refine z_iconst dX12_status_22 (by decide) ?_
    refine z_iconst dX12_status_23 (by decide) ?_
    refine z_callV2 (k_X12_refuses hm (by decide) (by decide)) m_X12_refuses zl_393 l_X12_100 (Nat.le_of_ble_eq_true rfl) ⟨Nat.le_of_ble_eq_true rfl, Nat.le_of_ble_eq_true rfl⟩ ⟨rfl, rfl⟩ dX12_status_24 (fun r μ1 hp => ?_)
    obtain ⟨rfl, hv⟩ := hp
    replace hv := hv.symm
    subst hv
    exact z_iret dX12_status_27 (by first | exact Or.inl ⟨by omega, rfl, rfl⟩ | exact Or.inr ⟨by omega, rfl, rfl⟩)
  · replace h_9 := zb_n.mp h_9
    refine z_aload_0 dX12_status_12 ?_
    refine z_getF 398 5 rfl f_X12_23 zl_393 rfl rfl dX12_status_13 ?_
    refine z_iload_1 dX12_status_16 ?_
    refine z_iald zl_398 (by omega) (by omega) dX12_status_17 ?_
    refine z_goto (tgt := 27) dX12_status_18 (by decide) ?_
    exact z_iret dX12_status_27 (by first | exact Or.inl ⟨by omega, rfl, rfl⟩ | exact Or.inr ⟨by omega, rfl, rfl⟩)
set_option maxRecDepth 100000 in
set_option maxHeartbeats 4000000 in
theorem k_X12_countOf {l : Launch} {E : zE} {μ : zM} (hm : zMpre μ) {w : Int} (h0 : 0 ≤ w) (h1 : w ≤ 5) : Ct l E yX12_countOf cX12_countOf 2 (some .int) ({ frames := 0, cells := 0, slots := 0, locals := 0 }) [zR 393, zI w] μ (fun r ν => r = some (zI (zHm (zBV (μ 394)) (μ 393 9) w)) ∧ ν = μ) := by
  refine Ct.of RX12 [zR 393, zI w] (by decide +kernel) rfl ⟨rfl, rfl⟩ rfl (Nat.le_of_ble_eq_true rfl) (fun X hX hc0 ha0 => ?_)
  subst hX
  refine z_iload_1 dX12_countOf_0 ?_
  refine z_iconst dX12_countOf_1 (by decide) ?_
  refine z_icmpge (tgt := 14) dX12_countOf_2 (by decide) (fun h_2 => ?_) (fun h_2 => ?_)
  · refine z_aload_0 dX12_countOf_14 ?_
    refine z_getI 9 rfl f_X12_154 zl_393 rfl dX12_countOf_15 ?_
    exact z_iret dX12_countOf_18 (by
      refine ⟨?_, rfl⟩
      have hs := hm.2.1
      unfold zHm
      rw [← hs, zBV_bc, zBV_pc, zBV_sc, zBV_rc]
      rcases (by omega : w = 0 ∨ w = 1 ∨ w = 2 ∨ w = 3 ∨ w = 4 ∨ w = 5) with e | e | e | e | e | e <;> subst e <;> first | rfl | omega)
  · refine z_aload_0 dX12_countOf_5 ?_
    refine z_getF 394 1 rfl f_X12_7 zl_393 rfl rfl dX12_countOf_6 ?_
    refine z_iload_1 dX12_countOf_9 ?_
    refine z_iald zl_394 (by omega) (by omega) dX12_countOf_10 ?_
    refine z_goto (tgt := 18) dX12_countOf_11 (by decide) ?_
    exact z_iret dX12_countOf_18 (by
      refine ⟨?_, rfl⟩
      have hs := hm.2.1
      unfold zHm
      rw [← hs, zBV_bc, zBV_pc, zBV_sc, zBV_rc]
      rcases (by omega : w = 0 ∨ w = 1 ∨ w = 2 ∨ w = 3 ∨ w = 4 ∨ w = 5) with e | e | e | e | e | e <;> subst e <;> first | rfl | omega)
set_option maxRecDepth 100000 in
set_option maxHeartbeats 4000000 in
theorem k_X12_count {l : Launch} {E : zE} {μ : zM} (hm : zMpre μ) {w : Int} : Ct l E yX12_count cX12_count 2 (some .int) ({ frames := 2, cells := 0, slots := 0, locals := 42 }) [zR 393, zI w] μ (fun r ν => ((0 ≤ w ∧ w ≤ 5) ∧ r = some (zI (zHm (zBV (μ 394)) (μ 393 9) w)) ∧ ν = μ) ∨ (¬ (0 ≤ w ∧ w ≤ 5) ∧ r = some (zI (-2)) ∧ ν = zup μ 398 0 (μ 398 0 + zq1 μ))) := by
  refine Ct.of RX12 [zR 393, zI w] (by decide +kernel) rfl ⟨rfl, rfl⟩ rfl (Nat.le_of_ble_eq_true rfl) (fun X hX hc0 ha0 => ?_)
  subst hX
  refine z_iload_1 dX12_count_0 ?_
  refine z_i2l dX12_count_1 ?_
  refine z_lconst0 dX12_count_2 ?_
  refine z_ldc2 (n := 5) k_X12_247 dX12_count_3 (by decide +kernel) ?_
  refine z_callS3 (k_X12_in) m_X12_in l_X12_106 (Nat.le_of_ble_eq_true rfl) ⟨Nat.le_of_ble_eq_true rfl, Nat.le_of_ble_eq_true rfl⟩ ⟨rfl, rfl⟩ dX12_count_6 (fun r μ1 hp => ?_)
  obtain ⟨rfl, hv⟩ := hp
  replace hv := hv.symm
  subst hv
  refine z_ifeq (tgt := 20) dX12_count_9 (by decide) (fun h_9 => ?_) (fun h_9 => ?_)
  · replace h_9 := zb_0.mp h_9
    refine z_aload_0 dX12_count_20 ?_
    refine z_callV0 (k_X12_bad hm) m_X12_bad zl_393 l_X12_117 (Nat.le_of_ble_eq_true rfl) ⟨Nat.le_of_ble_eq_true rfl, Nat.le_of_ble_eq_true rfl⟩ ⟨rfl, rfl⟩ dX12_count_21 (fun r μ1 hp => ?_)
    obtain ⟨rfl, hv⟩ := hp
    replace hv := hv.symm
    subst hv
    exact z_iret dX12_count_24 (by first | exact Or.inl ⟨by omega, rfl, rfl⟩ | exact Or.inr ⟨by omega, rfl, rfl⟩)
  · replace h_9 := zb_n.mp h_9
    refine z_aload_0 dX12_count_12 ?_
    refine z_iload_1 dX12_count_13 ?_
    refine z_callV1 (k_X12_countOf hm (by omega) (by omega)) m_X12_countOf zl_393 l_X12_358 (Nat.le_of_ble_eq_true rfl) ⟨Nat.le_of_ble_eq_true rfl, Nat.le_of_ble_eq_true rfl⟩ ⟨rfl, rfl⟩ dX12_count_14 (fun r μ1 hp => ?_)
    obtain ⟨rfl, hv⟩ := hp
    replace hv := hv.symm
    subst hv
    refine z_goto (tgt := 24) dX12_count_17 (by decide) ?_
    exact z_iret dX12_count_24 (by first | exact Or.inl ⟨by omega, rfl, rfl⟩ | exact Or.inr ⟨by omega, rfl, rfl⟩)
theorem zHm_n {V : zM} {t w : Int} (ok : zOK V) (ht : 0 ≤ t) : 0 ≤ zHm V t w := by
  unfold zHm
  have h1 := ok.1.2.1.1
  have h2 := ok.2.1.1.1
  have h3 := ok.2.2.1.1.1
  have h4 := ok.2.2.2.1.1
  have h5 := (zsum_b (f := V 0) (B := 1) (n := 36) (fun i a b => by have := (ok.1.1 i a (by omega)).1; omega)).1
  repeat' split
  all_goals assumption
theorem zCt_n {μ : zM} {a : Int} (h : 0 ≤ a) : zCt μ a = μ := zif_f (by omega)
set_option maxRecDepth 100000 in
set_option maxHeartbeats 4000000 in
theorem k_X11_count {l : Launch} {E : zE} {μ : zM} (hm : zXpre μ) (ht : 0 ≤ μ 47 0) {w : Int} : Ct l E yX11_count cX11_count 2 (some .int) ({ frames := 3, cells := 0, slots := 0, locals := 66 }) [zR 0, zI w] μ (fun r ν => ((0 ≤ w ∧ w ≤ 5) ∧ r = some (zI (zHm (zHV μ 1) (μ 47 0) w)) ∧ ν = μ) ∨ (¬ (0 ≤ w ∧ w ≤ 5) ∧ r = some (zI (-2)) ∧ ν = zCt μ (-2))) := by
  refine Ct.of RX11 [zR 0, zI w] (by decide +kernel) rfl ⟨rfl, rfl⟩ rfl (Nat.le_of_ble_eq_true rfl) (fun X hX hc0 ha0 => ?_)
  subst hX
  refine z_aload_0 dX11_count_0 ?_
  refine z_iload_1 dX11_count_1 ?_
  refine z_iconst dX11_count_2 (by decide) ?_
  refine z_iconst dX11_count_3 (by decide) ?_
  refine z_callS3 (k_X11_isIn) m_X11_isIn l_X11_174 (Nat.le_of_ble_eq_true rfl) ⟨Nat.le_of_ble_eq_true rfl, Nat.le_of_ble_eq_true rfl⟩ ⟨rfl, rfl⟩ dX11_count_4 (fun r μ1 hp => ?_)
  obtain ⟨rfl, hv⟩ := hp
  replace hv := hv.symm
  subst hv
  refine z_ifeq (tgt := 18) dX11_count_7 (by decide) (fun h_7 => ?_) (fun h_7 => ?_)
  · replace h_7 := zb_0.mp h_7
    refine z_bipush dX11_count_18 (by decide) ?_
    refine z_callV1 (k_X11_counted hm.2) m_X11_counted zl_0 l_X11_86 (Nat.le_of_ble_eq_true rfl) ⟨Nat.le_of_ble_eq_true rfl, Nat.le_of_ble_eq_true rfl⟩ ⟨rfl, rfl⟩ dX11_count_20 (fun r μ1 hp => ?_)
    obtain ⟨rfl, hv⟩ := hp
    replace hv := hv.symm
    subst hv
    exact z_iret dX11_count_23 (by first | exact Or.inl ⟨by omega, rfl, zCt_n (zHm_n hm.1 ht)⟩ | exact Or.inr ⟨by omega, rfl, rfl⟩)
  · replace h_7 := zb_n.mp h_7
    refine z_aload_0 dX11_count_10 ?_
    refine z_iload_1 dX11_count_11 ?_
    refine z_callV1 (k_X11_howMany hm) m_X11_howMany zl_0 l_X11_295 (Nat.le_of_ble_eq_true rfl) ⟨Nat.le_of_ble_eq_true rfl, Nat.le_of_ble_eq_true rfl⟩ ⟨rfl, rfl⟩ dX11_count_12 (fun r μ1 hp => ?_)
    obtain ⟨rfl, hv⟩ := hp
    replace hv := hv.symm
    subst hv
    refine z_goto (tgt := 20) dX11_count_15 (by decide) ?_
    refine z_callV1 (k_X11_counted hm.2) m_X11_counted zl_0 l_X11_86 (Nat.le_of_ble_eq_true rfl) ⟨Nat.le_of_ble_eq_true rfl, Nat.le_of_ble_eq_true rfl⟩ ⟨rfl, rfl⟩ dX11_count_20 (fun r μ1 hp => ?_)
    obtain ⟨rfl, hv⟩ := hp
    replace hv := hv.symm
    subst hv
    exact z_iret dX11_count_23 (by first | exact Or.inl ⟨by omega, rfl, zCt_n (zHm_n hm.1 ht)⟩ | exact Or.inr ⟨by omega, rfl, rfl⟩)
set_option maxRecDepth 100000 in
set_option maxHeartbeats 4000000 in
theorem k_X11_commonDivisor {l : Launch} {E : zE} {μ : zM} {a b : Int} (ha : 0 ≤ a) (hb : 0 ≤ b) : Ct l E yX11_commonDivisor cX11_commonDivisor 6 (some .int) ({ frames := 0, cells := 0, slots := 0, locals := 0 }) [zI a, zI b] μ (fun r ν => r = some (zI (zGc 100 a b)) ∧ ν = μ) := by
  refine Ct.of RX11 [zI a, zI b, zU, zU, zU, zU] (by decide +kernel) rfl ⟨rfl, rfl⟩ rfl (Nat.le_of_ble_eq_true rfl) (fun X hX hc0 ha0 => ?_)
  subst hX
  have L7 : ∀ (k : Nat) (x y i : Int) (n : Nat), i = 100 - (n : Int) ∧ n ≤ 100 → 0 ≤ x → 0 ≤ y → zGc n x y = zGc 100 a b → n < k → MW X E cX11_commonDivisor RX11 ({ frames := 0, cells := 0, slots := 0, locals := 0 }) (some .int) (fun r ν => r = some (zI (zGc 100 a b)) ∧ ν = μ) 7 [zI a, zI b, zI x, zI y, zI i, zU] [] μ := by
    intro k
    induction k with
    | zero => intro x y i n h1 h2 h3 hg h4; omega
    | succ k ih =>
      intro x y i n h1 h2 h3 hg h4
      refine z_iload_4 dX11_commonDivisor_7 ?_
      refine z_bipush dX11_commonDivisor_9 (by decide) ?_
      refine z_icmpge (tgt := 34) dX11_commonDivisor_11 (by decide) (fun h_11 => ?_) (fun h_11 => ?_)
      · refine z_iload_2 dX11_commonDivisor_34 ?_
        exact z_iret dX11_commonDivisor_35 (by rw [← hg]; first | exact ⟨rfl, rfl⟩ | (rw [zGc_z (by omega)]; exact ⟨rfl, rfl⟩) | (obtain rfl : n = 0 := (by omega); exact ⟨rfl, rfl⟩))
      · refine z_iload_3 dX11_commonDivisor_14 ?_
        refine z_ifle (tgt := 34) dX11_commonDivisor_15 (by decide) (fun h_15 => ?_) (fun h_15 => ?_)
        · refine z_iload_2 dX11_commonDivisor_34 ?_
          exact z_iret dX11_commonDivisor_35 (by rw [← hg]; first | exact ⟨rfl, rfl⟩ | (rw [zGc_z (by omega)]; exact ⟨rfl, rfl⟩) | (obtain rfl : n = 0 := (by omega); exact ⟨rfl, rfl⟩))
        · refine z_iload_2 dX11_commonDivisor_18 ?_
          refine z_iload_3 dX11_commonDivisor_19 ?_
          refine z_irem dX11_commonDivisor_20 (by omega) (by omega) ?_
          refine z_istore_5 rfl dX11_commonDivisor_21 ?_
          refine z_iload_3 dX11_commonDivisor_23 ?_
          refine z_istore_2 rfl dX11_commonDivisor_24 ?_
          refine z_iload_5 dX11_commonDivisor_25 ?_
          refine z_istore_3 rfl dX11_commonDivisor_27 ?_
          refine z_iinc_4 rfl dX11_commonDivisor_28 (by omega) ?_
          refine z_goto (tgt := 7) dX11_commonDivisor_31 (by decide) ?_
          obtain ⟨m, rfl⟩ : ∃ m : Nat, n = m + 1 := ⟨n - 1, by omega⟩
          rw [zGc_s (by omega)] at hg
          have q1 := Int.emod_nonneg x (show y ≠ 0 by omega)
          exact z_weak (ls' := [zI a, zI b, zI y, zI (x % y), zI (i + 1), zU]) ⟨Or.inl rfl, Or.inl rfl, Or.inl rfl, Or.inl rfl, Or.inl rfl, Or.inr rfl, trivial⟩ (ih y (x % y) (i + 1) m (by omega) (by omega) (by omega) hg (by omega))
  refine z_iload_0 dX11_commonDivisor_0 ?_
  refine z_istore_2 rfl dX11_commonDivisor_1 ?_
  refine z_iload_1 dX11_commonDivisor_2 ?_
  refine z_istore_3 rfl dX11_commonDivisor_3 ?_
  refine z_iconst dX11_commonDivisor_4 (by decide) ?_
  refine z_istore_4 rfl dX11_commonDivisor_5 ?_
  exact L7 200 a b 0 100 (by omega) ha hb rfl (by omega)
set_option maxRecDepth 100000 in
set_option maxHeartbeats 4000000 in
theorem k_X12_divisor {l : Launch} {E : zE} {μ : zM} {a b : Int} (ha : 0 ≤ a) (hb : 0 ≤ b) (hb2 : b < 100) : Ct l E yX12_divisor cX12_divisor 5 (some .int) ({ frames := 0, cells := 0, slots := 0, locals := 0 }) [zI a, zI b] μ (fun r ν => r = some (zI (zGc 100 a b)) ∧ ν = μ) := by
  refine Ct.of RX12 [zI a, zI b, zU, zU, zU] (by decide +kernel) rfl ⟨rfl, rfl⟩ rfl (Nat.le_of_ble_eq_true rfl) (fun X hX hc0 ha0 => ?_)
  subst hX
  have L4 : ∀ (k : Nat) (x y : Int) (n : Nat), 0 ≤ x → 0 ≤ y → y < n → zGc n x y = zGc 100 a b → n < k → MW X E cX12_divisor RX12 ({ frames := 0, cells := 0, slots := 0, locals := 0 }) (some .int) (fun r ν => r = some (zI (zGc 100 a b)) ∧ ν = μ) 4 [zI a, zI b, zI x, zI y, zU] [] μ := by
    intro k
    induction k with
    | zero => intro x y n h1 h2 h3 hg h4; omega
    | succ k ih =>
      intro x y n h1 h2 h3 hg h4
      refine z_iload_3 dX12_divisor_4 ?_
      refine z_ifeq (tgt := 21) dX12_divisor_5 (by decide) (fun h_5 => ?_) (fun h_5 => ?_)
      · refine z_iload_2 dX12_divisor_21 ?_
        exact z_iret dX12_divisor_22 (by rw [← hg]; first | exact ⟨rfl, rfl⟩ | (rw [zGc_z (by omega)]; exact ⟨rfl, rfl⟩) | (obtain rfl : n = 0 := (by omega); exact ⟨rfl, rfl⟩))
      · refine z_iload_2 dX12_divisor_8 ?_
        refine z_iload_3 dX12_divisor_9 ?_
        refine z_irem dX12_divisor_10 (by omega) (by omega) ?_
        refine z_istore_4 rfl dX12_divisor_11 ?_
        refine z_iload_3 dX12_divisor_13 ?_
        refine z_istore_2 rfl dX12_divisor_14 ?_
        refine z_iload_4 dX12_divisor_15 ?_
        refine z_istore_3 rfl dX12_divisor_17 ?_
        refine z_goto (tgt := 4) dX12_divisor_18 (by decide) ?_
        obtain ⟨m, rfl⟩ : ∃ m : Nat, n = m + 1 := ⟨n - 1, by omega⟩
        rw [zGc_s (by omega)] at hg
        have q2 := Int.emod_lt_of_pos x (show 0 < y by omega)
        have q1 := Int.emod_nonneg x (show y ≠ 0 by omega)
        exact z_weak (ls' := [zI a, zI b, zI y, zI (x % y), zU]) ⟨Or.inl rfl, Or.inl rfl, Or.inl rfl, Or.inl rfl, Or.inr rfl, trivial⟩ (ih y (x % y) m (by omega) (by omega) (by omega) hg (by omega))
  refine z_iload_0 dX12_divisor_0 ?_
  refine z_istore_2 rfl dX12_divisor_1 ?_
  refine z_iload_1 dX12_divisor_2 ?_
  refine z_istore_3 rfl dX12_divisor_3 ?_
  exact L4 200 a b 100 ha hb (by omega) rfl (by omega)
/-- the fraction of which the upper is so much and the lower 10 -/
def zFn (v : Int) : Int := zGc 100 v 10
theorem zFn_p {v : Int} (h : 0 ≤ v) : 0 < zFn v := zGc_p (by decide) (Or.inr (by decide)) (by decide) h
def zTn (V : zM) (s a : Int) : Int := a * max 0 (V 7 s - V 6 s - V 5 s)
set_option maxRecDepth 100000 in
set_option maxHeartbeats 4000000 in
theorem k_X11_setFraction {l : Launch} {E : zE} {μ : zM} {v : Int} (h0 : 0 ≤ v) : Ct l E yX11_setFraction cX11_setFraction 4 none ({ frames := 1, cells := 0, slots := 0, locals := 25 }) [zR 0, zI v, zI 10] μ (fun r ν => r = none ∧ ν = zup (zup μ 0 11 (v / zFn v)) 0 12 (10 / zFn v)) := by
  refine Ct.of RX11 [zR 0, zI v, zI 10, zU] (by decide +kernel) rfl ⟨rfl, rfl⟩ rfl (Nat.le_of_ble_eq_true rfl) (fun X hX hc0 ha0 => ?_)
  subst hX
  refine z_iload_1 dX11_setFraction_0 ?_
  refine z_iload_2 dX11_setFraction_1 ?_
  refine z_callS2 (k_X11_commonDivisor h0 (by decide)) m_X11_commonDivisor l_X11_336 (Nat.le_of_ble_eq_true rfl) ⟨Nat.le_of_ble_eq_true rfl, Nat.le_of_ble_eq_true rfl⟩ ⟨rfl, rfl⟩ dX11_setFraction_2 (fun r μ1 hp => ?_)
  obtain ⟨rfl, hv⟩ := hp
  replace hv := hv.symm
  subst hv
  have hp := zFn_p h0
  rw [show zGc 100 v 10 = zFn v from rfl]
  refine z_istore_3 rfl dX11_setFraction_5 ?_
  refine z_iload_3 dX11_setFraction_6 ?_
  refine z_ifle (tgt := 24) dX11_setFraction_7 (by decide) (fun h_7 => ?_) (fun h_7 => ?_)
  · exact absurd h_7 (by omega)
  · refine z_aload_0 dX11_setFraction_10 ?_
    refine z_iload_1 dX11_setFraction_11 ?_
    refine z_iload_3 dX11_setFraction_12 ?_
    refine z_idiv dX11_setFraction_13 (by omega) (by omega) ?_
    refine z_putI 11 rfl f_X11_69 p_11_11 zl_0 rfl rfl dX11_setFraction_14 ?_
    refine z_aload_0 dX11_setFraction_17 ?_
    refine z_iload_2 dX11_setFraction_18 ?_
    refine z_iload_3 dX11_setFraction_19 ?_
    refine z_idiv dX11_setFraction_20 (by omega) (by omega) ?_
    refine z_putI 12 rfl f_X11_73 p_11_12 zl_0 rfl rfl dX11_setFraction_21 ?_
    exact z_vret dX11_setFraction_24 (⟨rfl, rfl⟩)
theorem zTn_b {V : zM} (ok : zOK V) {s a : Int} (h0 : 0 ≤ s) (h1 : s < V 3 3) (h2 : 0 ≤ a) (h3 : a ≤ 10) : 0 ≤ zTn V s a ∧ zTn V s a ≤ 1000 := by
  have pp := ok.2.1.2 s h0 h1
  unfold zTn
  rcases Int.le_total 0 (V 7 s - V 6 s - V 5 s) with e | e
  · rw [Int.max_eq_right e]
    have := Int.mul_nonneg h2 e
    have : a * (V 7 s - V 6 s - V 5 s) ≤ 10 * 100 := Int.mul_le_mul h3 (by omega) e (by decide)
    omega
  · rw [Int.max_eq_left e]; omega
set_option maxRecDepth 100000 in
set_option maxHeartbeats 4000000 in
theorem k_X11_tent {l : Launch} {E : zE} {μ : zM} (hm : zXpre μ) {s a : Int} : Ct l E yX11_tent cX11_tent 3 (some .int) ({ frames := 3, cells := 0, slots := 0, locals := 66 }) [zR 0, zI s, zI a] μ (fun r ν => (¬ ((0 ≤ s ∧ s < μ 6 6) ∧ 0 ≤ a ∧ a ≤ 10) ∧ r = some (zI (-2)) ∧ ν = zCt μ (-2)) ∨ (((0 ≤ s ∧ s < μ 6 6) ∧ 0 ≤ a ∧ a ≤ 10) ∧ r = some (zI 1) ∧ ν = zup (zup μ 0 11 (zTn (zHV μ 1) s a / zFn (zTn (zHV μ 1) s a))) 0 12 (10 / zFn (zTn (zHV μ 1) s a)))) := by
  refine Ct.of RX11 [zR 0, zI s, zI a] (by decide +kernel) rfl ⟨rfl, rfl⟩ rfl (Nat.le_of_ble_eq_true rfl) (fun X hX hc0 ha0 => ?_)
  subst hX
  refine z_aload_0 dX11_tent_0 ?_
  refine z_getF 1 1 rfl f_X11_10 zl_0 rfl rfl dX11_tent_1 ?_
  refine z_getF 6 5 rfl f_X11_103 zl_1 rfl rfl dX11_tent_4 ?_
  refine z_iload_1 dX11_tent_7 ?_
  refine z_callV1 (k_X5_has (h := 1) zq2_1 hm.1) m_X5_has zl_6 l_X11_193 (Nat.le_of_ble_eq_true rfl) ⟨Nat.le_of_ble_eq_true rfl, Nat.le_of_ble_eq_true rfl⟩ ⟨rfl, rfl⟩ dX11_tent_8 (fun r μ1 hp => ?_)
  obtain ⟨rfl, hv⟩ := hp
  replace hv := hv.symm
  subst hv
  refine z_ifeq (tgt := 24) dX11_tent_11 (by decide) (fun h_11 => ?_) (fun h_11 => ?_)
  · replace h_11 := zb_0.mp h_11
    refine z_aload_0 dX11_tent_24 ?_
    refine z_bipush dX11_tent_25 (by decide) ?_
    refine z_callV1 (k_X11_counted hm.2) m_X11_counted zl_0 l_X11_86 (Nat.le_of_ble_eq_true rfl) ⟨Nat.le_of_ble_eq_true rfl, Nat.le_of_ble_eq_true rfl⟩ ⟨rfl, rfl⟩ dX11_tent_27 (fun r μ1 hp => ?_)
    obtain ⟨rfl, hv⟩ := hp
    replace hv := hv.symm
    subst hv
    exact z_iret dX11_tent_30 (by first | exact Or.inl ⟨fun q => by first | exact h_11 q.1 | exact h_21 q.2, rfl, rfl⟩ | exact Or.inr ⟨⟨h_11, h_21⟩, rfl, rfl⟩)
  · replace h_11 := zb_n.mp h_11
    refine z_iload_2 dX11_tent_14 ?_
    refine z_iconst dX11_tent_15 (by decide) ?_
    refine z_bipush dX11_tent_16 (by decide) ?_
    refine z_callS3 (k_X11_isIn) m_X11_isIn l_X11_174 (Nat.le_of_ble_eq_true rfl) ⟨Nat.le_of_ble_eq_true rfl, Nat.le_of_ble_eq_true rfl⟩ ⟨rfl, rfl⟩ dX11_tent_18 (fun r μ1 hp => ?_)
    obtain ⟨rfl, hv⟩ := hp
    replace hv := hv.symm
    subst hv
    refine z_ifne (tgt := 31) dX11_tent_21 (by decide) (fun h_21 => ?_) (fun h_21 => ?_)
    · replace h_21 := zb_n.mp h_21
      refine z_aload_0 dX11_tent_31 ?_
      refine z_iload_2 dX11_tent_32 ?_
      refine z_aload_0 dX11_tent_33 ?_
      refine z_getF 1 1 rfl f_X11_10 zl_0 rfl rfl dX11_tent_34 ?_
      refine z_getF 6 5 rfl f_X11_103 zl_1 rfl rfl dX11_tent_37 ?_
      refine z_iload_1 dX11_tent_40 ?_
      refine z_callV1 (k_X5_sleepsInTent (h := 1) zq2_1 hm.1 h_11.1 h_11.2) m_X5_sleepsInTent zl_6 l_X11_289 (Nat.le_of_ble_eq_true rfl) ⟨Nat.le_of_ble_eq_true rfl, Nat.le_of_ble_eq_true rfl⟩ ⟨rfl, rfl⟩ dX11_tent_41 (fun r μ1 hp => ?_)
      obtain ⟨rfl, hv⟩ := hp
      replace hv := hv.symm
      subst hv
      have pp := hm.1.2.1.2 s h_11.1 h_11.2
      have nb := zTn_b hm.1 h_11.1 h_11.2 h_21.1 h_21.2
      have hz : a * max 0 (zHV μ 1 7 s - zHV μ 1 6 s - zHV μ 1 5 s) = zTn (zHV μ 1) s a := rfl
      refine z_imul dX11_tent_44 (by rw [hz]; omega) ?_
      refine z_bipush dX11_tent_45 (by decide) ?_
      refine z_callV2 (k_X11_setFraction nb.1) m_X11_setFraction zl_0 l_X11_292 (Nat.le_of_ble_eq_true rfl) ⟨Nat.le_of_ble_eq_true rfl, Nat.le_of_ble_eq_true rfl⟩ ⟨rfl, rfl⟩ dX11_tent_47 (fun r μ1 hp => ?_)
      obtain ⟨rfl, hv⟩ := hp
      subst hv
      refine z_iconst dX11_tent_50 (by decide) ?_
      exact z_iret dX11_tent_51 (by first | exact Or.inl ⟨fun q => by first | exact h_11 q.1 | exact h_21 q.2, rfl, rfl⟩ | exact Or.inr ⟨⟨h_11, h_21⟩, rfl, rfl⟩)
    · replace h_21 := zb_0.mp h_21
      refine z_aload_0 dX11_tent_24 ?_
      refine z_bipush dX11_tent_25 (by decide) ?_
      refine z_callV1 (k_X11_counted hm.2) m_X11_counted zl_0 l_X11_86 (Nat.le_of_ble_eq_true rfl) ⟨Nat.le_of_ble_eq_true rfl, Nat.le_of_ble_eq_true rfl⟩ ⟨rfl, rfl⟩ dX11_tent_27 (fun r μ1 hp => ?_)
      obtain ⟨rfl, hv⟩ := hp
      replace hv := hv.symm
      subst hv
      exact z_iret dX11_tent_30 (by first | exact Or.inl ⟨fun q => by first | exact h_11 q.1 | exact h_21 q.2, rfl, rfl⟩ | exact Or.inr ⟨⟨h_11, h_21⟩, rfl, rfl⟩)
set_option maxRecDepth 100000 in
set_option maxHeartbeats 4000000 in
theorem k_X12_tent {l : Launch} {E : zE} {μ : zM} (hm : zMpre μ) {s a : Int} : Ct l E yX12_tent cX12_tent 6 (some .int) ({ frames := 2, cells := 0, slots := 0, locals := 46 }) [zR 393, zI s, zI a] μ (fun r ν => (¬ ((0 ≤ s ∧ s < μ 394 2) ∧ 0 ≤ a ∧ a ≤ 10) ∧ r = some (zI (-2)) ∧ ν = zup μ 398 0 (μ 398 0 + zq1 μ)) ∨ (((0 ≤ s ∧ s < μ 394 2) ∧ 0 ≤ a ∧ a ≤ 10) ∧ r = some (zI 1) ∧ ν = zup (zup μ 393 5 (zTn (zBV (μ 394)) s a / zFn (zTn (zBV (μ 394)) s a))) 393 6 (10 / zFn (zTn (zBV (μ 394)) s a)))) := by
  refine Ct.of RX12 [zR 393, zI s, zI a, zU, zU, zU] (by decide +kernel) rfl ⟨rfl, rfl⟩ rfl (Nat.le_of_ble_eq_true rfl) (fun X hX hc0 ha0 => ?_)
  subst hX
  refine z_aload_0 dX12_tent_0 ?_
  refine z_iload_1 dX12_tent_1 ?_
  refine z_callV1 (k_X12_isSleeper hm) m_X12_isSleeper zl_393 l_X12_141 (Nat.le_of_ble_eq_true rfl) ⟨Nat.le_of_ble_eq_true rfl, Nat.le_of_ble_eq_true rfl⟩ ⟨rfl, rfl⟩ dX12_tent_2 (fun r μ1 hp => ?_)
  obtain ⟨rfl, hv⟩ := hp
  replace hv := hv.symm
  subst hv
  refine z_ifeq (tgt := 20) dX12_tent_5 (by decide) (fun h_5 => ?_) (fun h_5 => ?_)
  · replace h_5 := zb_0.mp h_5
    refine z_aload_0 dX12_tent_20 ?_
    refine z_callV0 (k_X12_bad hm) m_X12_bad zl_393 l_X12_117 (Nat.le_of_ble_eq_true rfl) ⟨Nat.le_of_ble_eq_true rfl, Nat.le_of_ble_eq_true rfl⟩ ⟨rfl, rfl⟩ dX12_tent_21 (fun r μ1 hp => ?_)
    obtain ⟨rfl, hv⟩ := hp
    replace hv := hv.symm
    subst hv
    exact z_iret dX12_tent_24 (by first | exact Or.inl ⟨by omega, rfl, rfl⟩ | exact Or.inr ⟨⟨h_5, h_17⟩, rfl, rfl⟩)
  · replace h_5 := zb_n.mp h_5
    refine z_iload_2 dX12_tent_8 ?_
    refine z_i2l dX12_tent_9 ?_
    refine z_lconst0 dX12_tent_10 ?_
    refine z_ldc2 (n := 10) k_X12_350 dX12_tent_11 (by decide +kernel) ?_
    refine z_callS3 (k_X12_in) m_X12_in l_X12_106 (Nat.le_of_ble_eq_true rfl) ⟨Nat.le_of_ble_eq_true rfl, Nat.le_of_ble_eq_true rfl⟩ ⟨rfl, rfl⟩ dX12_tent_14 (fun r μ1 hp => ?_)
    obtain ⟨rfl, hv⟩ := hp
    replace hv := hv.symm
    subst hv
    refine z_ifne (tgt := 25) dX12_tent_17 (by decide) (fun h_17 => ?_) (fun h_17 => ?_)
    · replace h_17 := zb_n.mp h_17
      have pp := hm.1.2.1.2 s h_5.1 h_5.2
      rw [zBV_7 h_5.1 h_5.2, zBV_6 h_5.1 h_5.2, zBV_5 h_5.1 h_5.2, zBV_9 h_5.1 h_5.2] at pp
      have np := hm.1.2.1.1
      rw [zBV_pc] at np
      have nb := zTn_b hm.1 h_5.1 h_5.2 h_17.1 h_17.2
      have hp := zFn_p nb.1
      have hz : zTn (zBV (μ 394)) s a = a * max 0 (μ 394 (90 + 6 * s + 3) - μ 394 (90 + 6 * s + 2) - μ 394 (90 + 6 * s + 1)) := by unfold zTn; rw [zBV_7 h_5.1 h_5.2, zBV_6 h_5.1 h_5.2, zBV_5 h_5.1 h_5.2]
      refine z_aload_0 dX12_tent_25 ?_
      refine z_iload_1 dX12_tent_26 ?_
      refine z_iconst dX12_tent_27 (by decide) ?_
      refine z_callV2 (k_X12_of (by omega) (by omega) (by decide) (by decide)) m_X12_of zl_393 l_X12_147 (Nat.le_of_ble_eq_true rfl) ⟨Nat.le_of_ble_eq_true rfl, Nat.le_of_ble_eq_true rfl⟩ ⟨rfl, rfl⟩ dX12_tent_28 (fun r μ1 hp => ?_)
      obtain ⟨rfl, hv⟩ := hp
      replace hv := hv.symm
      subst hv
      refine z_aload_0 dX12_tent_31 ?_
      refine z_iload_1 dX12_tent_32 ?_
      refine z_iconst dX12_tent_33 (by decide) ?_
      refine z_callV2 (k_X12_of (by omega) (by omega) (by decide) (by decide)) m_X12_of zl_393 l_X12_147 (Nat.le_of_ble_eq_true rfl) ⟨Nat.le_of_ble_eq_true rfl, Nat.le_of_ble_eq_true rfl⟩ ⟨rfl, rfl⟩ dX12_tent_34 (fun r μ1 hp => ?_)
      obtain ⟨rfl, hv⟩ := hp
      replace hv := hv.symm
      subst hv
      refine z_isub dX12_tent_37 (by omega) ?_
      refine z_aload_0 dX12_tent_38 ?_
      refine z_iload_1 dX12_tent_39 ?_
      refine z_iconst dX12_tent_40 (by decide) ?_
      refine z_callV2 (k_X12_of (by omega) (by omega) (by decide) (by decide)) m_X12_of zl_393 l_X12_147 (Nat.le_of_ble_eq_true rfl) ⟨Nat.le_of_ble_eq_true rfl, Nat.le_of_ble_eq_true rfl⟩ ⟨rfl, rfl⟩ dX12_tent_41 (fun r μ1 hp => ?_)
      obtain ⟨rfl, hv⟩ := hp
      replace hv := hv.symm
      subst hv
      refine z_isub dX12_tent_44 (by omega) ?_
      refine z_istore_3 rfl dX12_tent_45 ?_
      refine z_iload_3 dX12_tent_46 ?_
      refine z_ifge (tgt := 54) dX12_tent_47 (by decide) (fun h_47 => ?_) (fun h_47 => ?_)
      · refine z_iload_2 dX12_tent_54 ?_
        refine z_iload_3 dX12_tent_55 ?_
        refine z_imul dX12_tent_56 (by rw [hz, Int.max_eq_right (by omega)] at nb; omega) ?_
        first
          | rw [show a * (μ 394 (90 + 6 * s + 3) - μ 394 (90 + 6 * s + 2) - μ 394 (90 + 6 * s + 1)) = zTn (zBV (μ 394)) s a by rw [hz, Int.max_eq_right (by omega)]]
          | (refine z_eqs (pc' := 57) (st' := [zI (zTn (zBV (μ 394)) s a)]) ?_ rfl rfl (by rw [hz, Int.max_eq_left (by omega), Int.mul_zero]; rfl) rfl)
        refine z_istore_4 rfl dX12_tent_57 ?_
        refine z_iload_4 dX12_tent_59 ?_
        refine z_bipush dX12_tent_61 (by decide) ?_
        refine z_callS2 (k_X12_divisor nb.1 (by decide) (by decide)) m_X12_divisor l_X12_352 (Nat.le_of_ble_eq_true rfl) ⟨Nat.le_of_ble_eq_true rfl, Nat.le_of_ble_eq_true rfl⟩ ⟨rfl, rfl⟩ dX12_tent_63 (fun r μ1 hp => ?_)
        obtain ⟨rfl, hv⟩ := hp
        replace hv := hv.symm
        subst hv
        rw [show zGc 100 (zTn (zBV (μ 394)) s a) 10 = zFn (zTn (zBV (μ 394)) s a) from rfl]
        refine z_istore_5 rfl dX12_tent_66 ?_
        refine z_aload_0 dX12_tent_68 ?_
        refine z_iload_4 dX12_tent_69 ?_
        refine z_iload_5 dX12_tent_71 ?_
        refine z_idiv dX12_tent_73 (by omega) (by omega) ?_
        refine z_putI 5 rfl f_X12_355 p_12_5 zl_393 rfl rfl dX12_tent_74 ?_
        refine z_aload_0 dX12_tent_77 ?_
        refine z_bipush dX12_tent_78 (by decide) ?_
        refine z_iload_5 dX12_tent_80 ?_
        refine z_idiv dX12_tent_82 (by omega) (by omega) ?_
        refine z_putI 6 rfl f_X12_92 p_12_6 zl_393 rfl rfl dX12_tent_83 ?_
        refine z_iconst dX12_tent_86 (by decide) ?_
        exact z_iret dX12_tent_87 (by first | exact Or.inl ⟨by omega, rfl, rfl⟩ | exact Or.inr ⟨⟨h_5, h_17⟩, rfl, rfl⟩)
      · refine z_iconst dX12_tent_50 (by decide) ?_
        refine z_goto (tgt := 57) dX12_tent_51 (by decide) ?_
        first
          | rw [show a * (μ 394 (90 + 6 * s + 3) - μ 394 (90 + 6 * s + 2) - μ 394 (90 + 6 * s + 1)) = zTn (zBV (μ 394)) s a by rw [hz, Int.max_eq_right (by omega)]]
          | (refine z_eqs (pc' := 57) (st' := [zI (zTn (zBV (μ 394)) s a)]) ?_ rfl rfl (by rw [hz, Int.max_eq_left (by omega), Int.mul_zero]; rfl) rfl)
        refine z_istore_4 rfl dX12_tent_57 ?_
        refine z_iload_4 dX12_tent_59 ?_
        refine z_bipush dX12_tent_61 (by decide) ?_
        refine z_callS2 (k_X12_divisor nb.1 (by decide) (by decide)) m_X12_divisor l_X12_352 (Nat.le_of_ble_eq_true rfl) ⟨Nat.le_of_ble_eq_true rfl, Nat.le_of_ble_eq_true rfl⟩ ⟨rfl, rfl⟩ dX12_tent_63 (fun r μ1 hp => ?_)
        obtain ⟨rfl, hv⟩ := hp
        replace hv := hv.symm
        subst hv
        rw [show zGc 100 (zTn (zBV (μ 394)) s a) 10 = zFn (zTn (zBV (μ 394)) s a) from rfl]
        refine z_istore_5 rfl dX12_tent_66 ?_
        refine z_aload_0 dX12_tent_68 ?_
        refine z_iload_4 dX12_tent_69 ?_
        refine z_iload_5 dX12_tent_71 ?_
        refine z_idiv dX12_tent_73 (by omega) (by omega) ?_
        refine z_putI 5 rfl f_X12_355 p_12_5 zl_393 rfl rfl dX12_tent_74 ?_
        refine z_aload_0 dX12_tent_77 ?_
        refine z_bipush dX12_tent_78 (by decide) ?_
        refine z_iload_5 dX12_tent_80 ?_
        refine z_idiv dX12_tent_82 (by omega) (by omega) ?_
        refine z_putI 6 rfl f_X12_92 p_12_6 zl_393 rfl rfl dX12_tent_83 ?_
        refine z_iconst dX12_tent_86 (by decide) ?_
        exact z_iret dX12_tent_87 (by first | exact Or.inl ⟨by omega, rfl, rfl⟩ | exact Or.inr ⟨⟨h_5, h_17⟩, rfl, rfl⟩)
    · replace h_17 := zb_0.mp h_17
      refine z_aload_0 dX12_tent_20 ?_
      refine z_callV0 (k_X12_bad hm) m_X12_bad zl_393 l_X12_117 (Nat.le_of_ble_eq_true rfl) ⟨Nat.le_of_ble_eq_true rfl, Nat.le_of_ble_eq_true rfl⟩ ⟨rfl, rfl⟩ dX12_tent_21 (fun r μ1 hp => ?_)
      obtain ⟨rfl, hv⟩ := hp
      replace hv := hv.symm
      subst hv
      exact z_iret dX12_tent_24 (by first | exact Or.inl ⟨by omega, rfl, rfl⟩ | exact Or.inr ⟨⟨h_5, h_17⟩, rfl, rfl⟩)
