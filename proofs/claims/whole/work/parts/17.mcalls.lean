theorem zMbad1 {sp : Int × zM} {k : Int} {μ : zM} {z : Int} (hm : zMpre μ) (e : sp = (-2 - k, zBV (μ 394))) (hz : z = -2 - k) : zMp sp sp.1 μ (some (zI z)) (zup μ 398 k (μ 398 k + zq1 μ)) := by
  subst hz
  have h := zMbad (z := -2 - k) hm e
  rw [show sp.1 = -2 - k by rw [e]]
  exact h
theorem zMok1 {sp : Int × zM} {z : Int} {V2 : zM} {μ ν : zM} (e : sp = (z, V2)) (hz : -1 ≤ z) (hv : zBV (ν 394) = V2) (hw : ν 394 0 = zsum (V2 0) 36) (hf : ∀ a, a ≠ 394 → ν a = μ a) : zMp sp sp.1 μ (some (zI z)) ν := by
  rw [show sp.1 = z by rw [e]]
  exact zMok e hz hv hw hf
noncomputable def spP (V : zM) (w v : Int) : Int × zM := if w = 0 then spF V v else if w = 1 then spD V v else (-2, V)
theorem spP_ok {V : zM} {w v : Int} (h : zOK V) : zOK (spP V w v).2 := by
  unfold spP
  split
  · exact spF_ok h
  · split
    · exact spD_ok h
    · exact h
def zLx (z : Int) : Int := if z = -2 then -10 else if z = -3 then -20 else z
theorem zMwv {μ : zM} (hm : zMpre μ) {c : Int} (h0 : 0 ≤ c) (h1 : c < 36) : zb (zBV (μ 394) 0 c = 1) = zBV (μ 394) 0 c := by
  rcases (hm.1.1.1 c h0 h1).1 with e | e
  · rw [e]; exact zb_f (by decide)
  · rw [e]; exact zb_t rfl
set_option maxRecDepth 100000 in
set_option maxHeartbeats 4000000 in
theorem k_X12_wall {l : Launch} {E : zE} {μ : zM} (hm : zMpre μ) {c s : Int} (hs : s = 0 ∨ s = 1) : Ct l E yX12_wall cX12_wall 3 (some .int) ({ frames := 2, cells := 0, slots := 0, locals := 45 }) [zR 393, zI c, zI s] μ (fun r ν => zMp (spW (zBV (μ 394)) c s) ((spW (zBV (μ 394)) c s).1) μ r ν) := by
  refine Ct.of RX12 [zR 393, zI c, zI s] (by decide +kernel) rfl ⟨rfl, rfl⟩ rfl (Nat.le_of_ble_eq_true rfl) (fun X hX hc0 ha0 => ?_)
  subst hX
  obtain ⟨nb, nf, nd, np, ns, nr⟩ := zOK_b hm.1
  have hb9 := zOK_b hm.1
  have wsum : 0 ≤ μ 394 0 ∧ μ 394 0 ≤ 36 := by rw [hm.2.1]; have := zsum_b (f := zBV (μ 394) 0) (B := 1) (n := 36) (fun i a b => by have := (hm.1.1.1 i a (by omega)).1; omega); omega
  refine z_iload_1 dX12_wall_0 ?_
  refine z_callS1 (k_X12_isCell) m_X12_isCell l_X12_110 (Nat.le_of_ble_eq_true rfl) ⟨Nat.le_of_ble_eq_true rfl, Nat.le_of_ble_eq_true rfl⟩ ⟨rfl, rfl⟩ dX12_wall_1 (fun r μ1 hp => ?_)
  obtain ⟨rfl, hv⟩ := hp
  replace hv := hv.symm
  subst hv
  refine z_ifeq (tgt := 26) dX12_wall_4 (by decide) (fun h_4 => ?_) (fun h_4 => ?_)
  · replace h_4 := zb_0.mp h_4
    refine z_aload_0 dX12_wall_26 ?_
    refine z_callV0 (k_X12_bad hm) m_X12_bad zl_393 l_X12_117 (Nat.le_of_ble_eq_true rfl) ⟨Nat.le_of_ble_eq_true rfl, Nat.le_of_ble_eq_true rfl⟩ ⟨rfl, rfl⟩ dX12_wall_27 (fun r μ1 hp => ?_)
    obtain ⟨rfl, hv⟩ := hp
    replace hv := hv.symm
    subst hv
    exact z_iret dX12_wall_30 (zMbad1 (k := 0) hm (zif_t (by first | exact Or.inl h_4 | exact Or.inr (Or.inr h_12) | exact Or.inr (Or.inl h_23.symm))) rfl)
  · replace h_4 := zb_n.mp h_4
    refine z_aload_0 dX12_wall_7 ?_
    refine z_iload_1 dX12_wall_8 ?_
    refine z_callV1 (k_X12_isBedAt hm) m_X12_isBedAt zl_393 l_X12_114 (Nat.le_of_ble_eq_true rfl) ⟨Nat.le_of_ble_eq_true rfl, Nat.le_of_ble_eq_true rfl⟩ ⟨rfl, rfl⟩ dX12_wall_9 (fun r μ1 hp => ?_)
    obtain ⟨rfl, hv⟩ := hp
    replace hv := hv.symm
    subst hv
    refine z_ifne (tgt := 26) dX12_wall_12 (by decide) (fun h_12 => ?_) (fun h_12 => ?_)
    · replace h_12 := zb_n.mp h_12
      refine z_aload_0 dX12_wall_26 ?_
      refine z_callV0 (k_X12_bad hm) m_X12_bad zl_393 l_X12_117 (Nat.le_of_ble_eq_true rfl) ⟨Nat.le_of_ble_eq_true rfl, Nat.le_of_ble_eq_true rfl⟩ ⟨rfl, rfl⟩ dX12_wall_27 (fun r μ1 hp => ?_)
      obtain ⟨rfl, hv⟩ := hp
      replace hv := hv.symm
      subst hv
      exact z_iret dX12_wall_30 (zMbad1 (k := 0) hm (zif_t (by first | exact Or.inl h_4 | exact Or.inr (Or.inr h_12) | exact Or.inr (Or.inl h_23.symm))) rfl)
    · replace h_12 := zb_0.mp h_12
      refine z_aload_0 dX12_wall_15 ?_
      refine z_getF 394 1 rfl f_X12_7 zl_393 rfl rfl dX12_wall_16 ?_
      refine z_bipush dX12_wall_19 (by decide) ?_
      refine z_iald zl_394 (by omega) (by omega) dX12_wall_21 ?_
      refine z_iload_1 dX12_wall_22 ?_
      refine z_icmpne (tgt := 31) dX12_wall_23 (by decide) (fun h_23 => ?_) (fun h_23 => ?_)
      · refine z_aload_0 dX12_wall_31 ?_
        refine z_iload_1 dX12_wall_32 ?_
        refine z_callV1 (k_X12_isWall h_4.1 h_4.2) m_X12_isWall zl_393 l_X12_121 (Nat.le_of_ble_eq_true rfl) ⟨Nat.le_of_ble_eq_true rfl, Nat.le_of_ble_eq_true rfl⟩ ⟨rfl, rfl⟩ dX12_wall_33 (fun r μ1 hp => ?_)
        obtain ⟨rfl, hv⟩ := hp
        replace hv := hv.symm
        subst hv
        have w := (hm.1.1.1 c h_4.1 h_4.2).1
        have hw9 := zMwv hm h_4.1 h_4.2
        refine z_iload_2 dX12_wall_36 ?_
        refine z_icmpne (tgt := 45) dX12_wall_37 (by decide) (fun h_37 => ?_) (fun h_37 => ?_)
        · refine z_aload_0 dX12_wall_45 ?_
          refine z_getF 394 1 rfl f_X12_7 zl_393 rfl rfl dX12_wall_46 ?_
          refine z_bipush dX12_wall_49 (by decide) ?_
          refine z_iload_1 dX12_wall_51 ?_
          refine z_iadd dX12_wall_52 (by omega) ?_
          refine z_iload_2 dX12_wall_53 ?_
          refine z_ifeq (tgt := 61) dX12_wall_54 (by decide) (fun h_54 => ?_) (fun h_54 => ?_)
          · refine z_iconst dX12_wall_61 (by decide) ?_
            refine z_iast zl_394 (by omega) (by omega) dX12_wall_62 ?_
            refine z_aload_0 dX12_wall_63 ?_
            refine z_getF 394 1 rfl f_X12_7 zl_393 rfl rfl dX12_wall_64 ?_
            refine z_iconst dX12_wall_67 (by decide) ?_
            refine z_dup2 dX12_wall_68 rfl rfl ?_
            refine z_iald zl_394 (by omega) (by omega) dX12_wall_69 ?_
            refine z_iload_2 dX12_wall_70 ?_
            refine z_ifeq (tgt := 78) dX12_wall_71 (by decide) (fun h_71 => ?_) (fun h_71 => ?_)
            · refine z_iconst dX12_wall_78 (by decide) ?_
              refine z_iadd dX12_wall_79 (by rw [zup_ne (Or.inr (by omega))]; omega) ?_
              refine z_iast zl_394 (by omega) (by omega) dX12_wall_80 ?_
              refine z_iconst dX12_wall_81 (by decide) ?_
              exact z_iret dX12_wall_82 (by
      first
        | exact absurd h_54 h_71
        | exact absurd h_71 h_54
        | (have hh : zsum (zup (zBV (μ 394)) 0 c s 0) 36 = μ 394 0 + s - zBV (μ 394) 0 c := by rw [zup_self, zsum_u h_4.1 h_4.2, ← hm.2.1]
           have hr : zup μ 394 (10 + c) s 394 0 = μ 394 0 := zup_ne (Or.inr (by omega))
           first
             | (obtain rfl : s = 0 := h_54
                exact zMok1 ((zif_f (by rintro (q | q | q); exact q h_4; exact h_23 q.symm; exact h_12 q)).trans (zif_f (by omega))) (by decide) (by rw [zup_fu, zup_fu]; exact zBV_w hb9 h_4.1 h_4.2) (by rw [zup_eq, hr, hh]; omega) (fun a ha => by rw [zup_row ha, zup_row ha]))
             | (obtain rfl : s = 1 := by omega
                exact zMok1 ((zif_f (by rintro (q | q | q); exact q h_4; exact h_23 q.symm; exact h_12 q)).trans (zif_f (by omega))) (by decide) (by rw [zup_fu, zup_fu]; exact zBV_w hb9 h_4.1 h_4.2) (by rw [zup_eq, hr, hh]; omega) (fun a ha => by rw [zup_row ha, zup_row ha]))))
            · refine z_iconst dX12_wall_74 (by decide) ?_
              refine z_goto (tgt := 79) dX12_wall_75 (by decide) ?_
              refine z_iadd dX12_wall_79 (by rw [zup_ne (Or.inr (by omega))]; omega) ?_
              refine z_iast zl_394 (by omega) (by omega) dX12_wall_80 ?_
              refine z_iconst dX12_wall_81 (by decide) ?_
              exact z_iret dX12_wall_82 (by
      first
        | exact absurd h_54 h_71
        | exact absurd h_71 h_54
        | (have hh : zsum (zup (zBV (μ 394)) 0 c s 0) 36 = μ 394 0 + s - zBV (μ 394) 0 c := by rw [zup_self, zsum_u h_4.1 h_4.2, ← hm.2.1]
           have hr : zup μ 394 (10 + c) s 394 0 = μ 394 0 := zup_ne (Or.inr (by omega))
           first
             | (obtain rfl : s = 0 := h_54
                exact zMok1 ((zif_f (by rintro (q | q | q); exact q h_4; exact h_23 q.symm; exact h_12 q)).trans (zif_f (by omega))) (by decide) (by rw [zup_fu, zup_fu]; exact zBV_w hb9 h_4.1 h_4.2) (by rw [zup_eq, hr, hh]; omega) (fun a ha => by rw [zup_row ha, zup_row ha]))
             | (obtain rfl : s = 1 := by omega
                exact zMok1 ((zif_f (by rintro (q | q | q); exact q h_4; exact h_23 q.symm; exact h_12 q)).trans (zif_f (by omega))) (by decide) (by rw [zup_fu, zup_fu]; exact zBV_w hb9 h_4.1 h_4.2) (by rw [zup_eq, hr, hh]; omega) (fun a ha => by rw [zup_row ha, zup_row ha]))))
          · refine z_iconst dX12_wall_57 (by decide) ?_
            refine z_goto (tgt := 62) dX12_wall_58 (by decide) ?_
            refine z_iast zl_394 (by omega) (by omega) dX12_wall_62 ?_
            refine z_aload_0 dX12_wall_63 ?_
            refine z_getF 394 1 rfl f_X12_7 zl_393 rfl rfl dX12_wall_64 ?_
            refine z_iconst dX12_wall_67 (by decide) ?_
            refine z_dup2 dX12_wall_68 rfl rfl ?_
            refine z_iald zl_394 (by omega) (by omega) dX12_wall_69 ?_
            refine z_iload_2 dX12_wall_70 ?_
            refine z_ifeq (tgt := 78) dX12_wall_71 (by decide) (fun h_71 => ?_) (fun h_71 => ?_)
            · refine z_iconst dX12_wall_78 (by decide) ?_
              refine z_iadd dX12_wall_79 (by rw [zup_ne (Or.inr (by omega))]; omega) ?_
              refine z_iast zl_394 (by omega) (by omega) dX12_wall_80 ?_
              refine z_iconst dX12_wall_81 (by decide) ?_
              exact z_iret dX12_wall_82 (by
      first
        | exact absurd h_54 h_71
        | exact absurd h_71 h_54
        | (have hh : zsum (zup (zBV (μ 394)) 0 c s 0) 36 = μ 394 0 + s - zBV (μ 394) 0 c := by rw [zup_self, zsum_u h_4.1 h_4.2, ← hm.2.1]
           have hr : zup μ 394 (10 + c) s 394 0 = μ 394 0 := zup_ne (Or.inr (by omega))
           first
             | (obtain rfl : s = 0 := h_54
                exact zMok1 ((zif_f (by rintro (q | q | q); exact q h_4; exact h_23 q.symm; exact h_12 q)).trans (zif_f (by omega))) (by decide) (by rw [zup_fu, zup_fu]; exact zBV_w hb9 h_4.1 h_4.2) (by rw [zup_eq, hr, hh]; omega) (fun a ha => by rw [zup_row ha, zup_row ha]))
             | (obtain rfl : s = 1 := by omega
                exact zMok1 ((zif_f (by rintro (q | q | q); exact q h_4; exact h_23 q.symm; exact h_12 q)).trans (zif_f (by omega))) (by decide) (by rw [zup_fu, zup_fu]; exact zBV_w hb9 h_4.1 h_4.2) (by rw [zup_eq, hr, hh]; omega) (fun a ha => by rw [zup_row ha, zup_row ha]))))
            · refine z_iconst dX12_wall_74 (by decide) ?_
              refine z_goto (tgt := 79) dX12_wall_75 (by decide) ?_
              refine z_iadd dX12_wall_79 (by rw [zup_ne (Or.inr (by omega))]; omega) ?_
              refine z_iast zl_394 (by omega) (by omega) dX12_wall_80 ?_
              refine z_iconst dX12_wall_81 (by decide) ?_
              exact z_iret dX12_wall_82 (by
      first
        | exact absurd h_54 h_71
        | exact absurd h_71 h_54
        | (have hh : zsum (zup (zBV (μ 394)) 0 c s 0) 36 = μ 394 0 + s - zBV (μ 394) 0 c := by rw [zup_self, zsum_u h_4.1 h_4.2, ← hm.2.1]
           have hr : zup μ 394 (10 + c) s 394 0 = μ 394 0 := zup_ne (Or.inr (by omega))
           first
             | (obtain rfl : s = 0 := h_54
                exact zMok1 ((zif_f (by rintro (q | q | q); exact q h_4; exact h_23 q.symm; exact h_12 q)).trans (zif_f (by omega))) (by decide) (by rw [zup_fu, zup_fu]; exact zBV_w hb9 h_4.1 h_4.2) (by rw [zup_eq, hr, hh]; omega) (fun a ha => by rw [zup_row ha, zup_row ha]))
             | (obtain rfl : s = 1 := by omega
                exact zMok1 ((zif_f (by rintro (q | q | q); exact q h_4; exact h_23 q.symm; exact h_12 q)).trans (zif_f (by omega))) (by decide) (by rw [zup_fu, zup_fu]; exact zBV_w hb9 h_4.1 h_4.2) (by rw [zup_eq, hr, hh]; omega) (fun a ha => by rw [zup_row ha, zup_row ha]))))
        · refine z_aload_0 dX12_wall_40 ?_
          refine z_callV0 (k_X12_no hm) m_X12_no zl_393 l_X12_124 (Nat.le_of_ble_eq_true rfl) ⟨Nat.le_of_ble_eq_true rfl, Nat.le_of_ble_eq_true rfl⟩ ⟨rfl, rfl⟩ dX12_wall_41 (fun r μ1 hp => ?_)
          obtain ⟨rfl, hv⟩ := hp
          replace hv := hv.symm
          subst hv
          exact z_iret dX12_wall_44 (zMbad1 (k := 1) hm ((zif_f (by rintro (q | q | q); exact q h_4; exact h_23 q.symm; exact h_12 q)).trans (zif_t (by omega))) rfl)
      · refine z_aload_0 dX12_wall_26 ?_
        refine z_callV0 (k_X12_bad hm) m_X12_bad zl_393 l_X12_117 (Nat.le_of_ble_eq_true rfl) ⟨Nat.le_of_ble_eq_true rfl, Nat.le_of_ble_eq_true rfl⟩ ⟨rfl, rfl⟩ dX12_wall_27 (fun r μ1 hp => ?_)
        obtain ⟨rfl, hv⟩ := hp
        replace hv := hv.symm
        subst hv
        exact z_iret dX12_wall_30 (zMbad1 (k := 0) hm (zif_t (by first | exact Or.inl h_4 | exact Or.inr (Or.inr h_12) | exact Or.inr (Or.inl h_23.symm))) rfl)
set_option maxRecDepth 100000 in
set_option maxHeartbeats 4000000 in
theorem k_X12_board {l : Launch} {E : zE} {μ : zM} (hm : zMpre μ) {c s : Int} : Ct l E yX12_board cX12_board 3 (some .int) ({ frames := 2, cells := 0, slots := 0, locals := 45 }) [zR 393, zI c, zI s] μ (fun r ν => zMp (spC (zBV (μ 394)) c s) ((spC (zBV (μ 394)) c s).1) μ r ν) := by
  refine Ct.of RX12 [zR 393, zI c, zI s] (by decide +kernel) rfl ⟨rfl, rfl⟩ rfl (Nat.le_of_ble_eq_true rfl) (fun X hX hc0 ha0 => ?_)
  subst hX
  obtain ⟨nb, nf, nd, np, ns, nr⟩ := zOK_b hm.1
  have hb9 := zOK_b hm.1
  refine z_iload_1 dX12_board_0 ?_
  refine z_callS1 (k_X12_isCell) m_X12_isCell l_X12_110 (Nat.le_of_ble_eq_true rfl) ⟨Nat.le_of_ble_eq_true rfl, Nat.le_of_ble_eq_true rfl⟩ ⟨rfl, rfl⟩ dX12_board_1 (fun r μ1 hp => ?_)
  obtain ⟨rfl, hv⟩ := hp
  replace hv := hv.symm
  subst hv
  refine z_ifeq (tgt := 31) dX12_board_4 (by decide) (fun h_4 => ?_) (fun h_4 => ?_)
  · replace h_4 := zb_0.mp h_4
    refine z_aload_0 dX12_board_31 ?_
    refine z_callV0 (k_X12_bad hm) m_X12_bad zl_393 l_X12_117 (Nat.le_of_ble_eq_true rfl) ⟨Nat.le_of_ble_eq_true rfl, Nat.le_of_ble_eq_true rfl⟩ ⟨rfl, rfl⟩ dX12_board_32 (fun r μ1 hp => ?_)
    obtain ⟨rfl, hv⟩ := hp
    replace hv := hv.symm
    subst hv
    exact z_iret dX12_board_35 (by first | exact zMbad1 (k := 0) hm (zif_t (by first | exact Or.inl h_4 | exact Or.inr h_16)) rfl | exact zMok1 (zif_f (by rintro (q | q); exact q h_4; exact q h_16)) (by have := (hm.1.1.1 c h_4.1 h_4.2).2; omega) (by rw [zup_fu]; exact zBV_c hb9 h_4.1 h_4.2) (by rw [zup_fu, zfu_n (by omega)]; exact hm.2.1) (fun a ha => zup_row ha))
  · replace h_4 := zb_n.mp h_4
    refine z_iload_2 dX12_board_7 ?_
    refine z_i2l dX12_board_8 ?_
    refine z_lconst0 dX12_board_9 ?_
    refine z_ldc2 (n := 40) k_X12_127 dX12_board_10 (by decide +kernel) ?_
    refine z_callS3 (k_X12_in) m_X12_in l_X12_106 (Nat.le_of_ble_eq_true rfl) ⟨Nat.le_of_ble_eq_true rfl, Nat.le_of_ble_eq_true rfl⟩ ⟨rfl, rfl⟩ dX12_board_13 (fun r μ1 hp => ?_)
    obtain ⟨rfl, hv⟩ := hp
    replace hv := hv.symm
    subst hv
    refine z_ifeq (tgt := 31) dX12_board_16 (by decide) (fun h_16 => ?_) (fun h_16 => ?_)
    · replace h_16 := zb_0.mp h_16
      refine z_aload_0 dX12_board_31 ?_
      refine z_callV0 (k_X12_bad hm) m_X12_bad zl_393 l_X12_117 (Nat.le_of_ble_eq_true rfl) ⟨Nat.le_of_ble_eq_true rfl, Nat.le_of_ble_eq_true rfl⟩ ⟨rfl, rfl⟩ dX12_board_32 (fun r μ1 hp => ?_)
      obtain ⟨rfl, hv⟩ := hp
      replace hv := hv.symm
      subst hv
      exact z_iret dX12_board_35 (by first | exact zMbad1 (k := 0) hm (zif_t (by first | exact Or.inl h_4 | exact Or.inr h_16)) rfl | exact zMok1 (zif_f (by rintro (q | q); exact q h_4; exact q h_16)) (by have := (hm.1.1.1 c h_4.1 h_4.2).2; omega) (by rw [zup_fu]; exact zBV_c hb9 h_4.1 h_4.2) (by rw [zup_fu, zfu_n (by omega)]; exact hm.2.1) (fun a ha => zup_row ha))
    · replace h_16 := zb_n.mp h_16
      refine z_aload_0 dX12_board_19 ?_
      refine z_bipush dX12_board_20 (by decide) ?_
      refine z_iload_1 dX12_board_22 ?_
      refine z_iadd dX12_board_23 (by omega) ?_
      refine z_iload_2 dX12_board_24 ?_
      refine z_callV2 (k_X12_puts (by omega) (by omega)) m_X12_puts zl_393 l_X12_129 (Nat.le_of_ble_eq_true rfl) ⟨Nat.le_of_ble_eq_true rfl, Nat.le_of_ble_eq_true rfl⟩ ⟨rfl, rfl⟩ dX12_board_25 (fun r μ1 hp => ?_)
      obtain ⟨rfl, hv⟩ := hp
      replace hv := hv.symm
      subst hv
      rw [← zBV_1 (b := μ 394) h_4.1 h_4.2]
      refine z_goto (tgt := 35) dX12_board_28 (by decide) ?_
      exact z_iret dX12_board_35 (by first | exact zMbad1 (k := 0) hm (zif_t (by first | exact Or.inl h_4 | exact Or.inr h_16)) rfl | exact zMok1 (zif_f (by rintro (q | q); exact q h_4; exact q h_16)) (by have := (hm.1.1.1 c h_4.1 h_4.2).2; omega) (by rw [zup_fu]; exact zBV_c hb9 h_4.1 h_4.2) (by rw [zup_fu, zfu_n (by omega)]; exact hm.2.1) (fun a ha => zup_row ha))
set_option maxRecDepth 100000 in
set_option maxHeartbeats 4000000 in
theorem k_X12_put {l : Launch} {E : zE} {μ : zM} (hm : zMpre μ) {w v : Int} : Ct l E yX12_put cX12_put 3 (some .int) ({ frames := 2, cells := 0, slots := 0, locals := 45 }) [zR 393, zI w, zI v] μ (fun r ν => zMp (spP (zBV (μ 394)) w v) ((spP (zBV (μ 394)) w v).1) μ r ν) := by
  refine Ct.of RX12 [zR 393, zI w, zI v] (by decide +kernel) rfl ⟨rfl, rfl⟩ rfl (Nat.le_of_ble_eq_true rfl) (fun X hX hc0 ha0 => ?_)
  subst hX
  obtain ⟨nb, nf, nd, np, ns, nr⟩ := zOK_b hm.1
  have hb9 := zOK_b hm.1
  refine z_iload_1 dX12_put_0 ?_
  refine z_ifne (tgt := 23) dX12_put_1 (by decide) (fun h_1 => ?_) (fun h_1 => ?_)
  · refine z_iload_1 dX12_put_23 ?_
    refine z_iconst dX12_put_24 (by decide) ?_
    refine z_icmpne (tgt := 51) dX12_put_25 (by decide) (fun h_25 => ?_) (fun h_25 => ?_)
    · refine z_aload_0 dX12_put_51 ?_
      refine z_callV0 (k_X12_bad hm) m_X12_bad zl_393 l_X12_117 (Nat.le_of_ble_eq_true rfl) ⟨Nat.le_of_ble_eq_true rfl, Nat.le_of_ble_eq_true rfl⟩ ⟨rfl, rfl⟩ dX12_put_52 (fun r μ1 hp => ?_)
      obtain ⟨rfl, hv⟩ := hp
      replace hv := hv.symm
      subst hv
      exact z_iret dX12_put_55 (by
      first
        | exact absurd (h_1.symm.trans h_25) (by decide)
        | (refine zMbad1 (k := 0) hm ?_ rfl
           unfold spP
           first
             | (rw [if_pos h_1]; exact zif_t h_13)
             | (rw [if_neg h_1, if_neg h_25]; rfl)
             | (rw [if_neg h_1, if_neg h_25])
             | (rw [if_neg h_1, if_pos h_25]; exact zif_t (by first | exact Or.inl h_32 | exact Or.inr h_40))))
    · refine z_iload_2 dX12_put_28 ?_
      refine z_callS1 (k_X12_isCell) m_X12_isCell l_X12_110 (Nat.le_of_ble_eq_true rfl) ⟨Nat.le_of_ble_eq_true rfl, Nat.le_of_ble_eq_true rfl⟩ ⟨rfl, rfl⟩ dX12_put_29 (fun r μ1 hp => ?_)
      obtain ⟨rfl, hv⟩ := hp
      replace hv := hv.symm
      subst hv
      refine z_ifeq (tgt := 51) dX12_put_32 (by decide) (fun h_32 => ?_) (fun h_32 => ?_)
      · replace h_32 := zb_0.mp h_32
        refine z_aload_0 dX12_put_51 ?_
        refine z_callV0 (k_X12_bad hm) m_X12_bad zl_393 l_X12_117 (Nat.le_of_ble_eq_true rfl) ⟨Nat.le_of_ble_eq_true rfl, Nat.le_of_ble_eq_true rfl⟩ ⟨rfl, rfl⟩ dX12_put_52 (fun r μ1 hp => ?_)
        obtain ⟨rfl, hv⟩ := hp
        replace hv := hv.symm
        subst hv
        exact z_iret dX12_put_55 (by
      first
        | exact absurd (h_1.symm.trans h_25) (by decide)
        | (refine zMbad1 (k := 0) hm ?_ rfl
           unfold spP
           first
             | (rw [if_pos h_1]; exact zif_t h_13)
             | (rw [if_neg h_1, if_neg h_25]; rfl)
             | (rw [if_neg h_1, if_neg h_25])
             | (rw [if_neg h_1, if_pos h_25]; exact zif_t (by first | exact Or.inl h_32 | exact Or.inr h_40))))
      · replace h_32 := zb_n.mp h_32
        refine z_aload_0 dX12_put_35 ?_
        refine z_iload_2 dX12_put_36 ?_
        refine z_callV1 (k_X12_isWall h_32.1 h_32.2) m_X12_isWall zl_393 l_X12_121 (Nat.le_of_ble_eq_true rfl) ⟨Nat.le_of_ble_eq_true rfl, Nat.le_of_ble_eq_true rfl⟩ ⟨rfl, rfl⟩ dX12_put_37 (fun r μ1 hp => ?_)
        obtain ⟨rfl, hv⟩ := hp
        replace hv := hv.symm
        subst hv
        refine z_ifne (tgt := 51) dX12_put_40 (by decide) (fun h_40 => ?_) (fun h_40 => ?_)
        · replace h_40 := zb_n.mp h_40
          refine z_aload_0 dX12_put_51 ?_
          refine z_callV0 (k_X12_bad hm) m_X12_bad zl_393 l_X12_117 (Nat.le_of_ble_eq_true rfl) ⟨Nat.le_of_ble_eq_true rfl, Nat.le_of_ble_eq_true rfl⟩ ⟨rfl, rfl⟩ dX12_put_52 (fun r μ1 hp => ?_)
          obtain ⟨rfl, hv⟩ := hp
          replace hv := hv.symm
          subst hv
          exact z_iret dX12_put_55 (by
      first
        | exact absurd (h_1.symm.trans h_25) (by decide)
        | (refine zMbad1 (k := 0) hm ?_ rfl
           unfold spP
           first
             | (rw [if_pos h_1]; exact zif_t h_13)
             | (rw [if_neg h_1, if_neg h_25]; rfl)
             | (rw [if_neg h_1, if_neg h_25])
             | (rw [if_neg h_1, if_pos h_25]; exact zif_t (by first | exact Or.inl h_32 | exact Or.inr h_40))))
        · replace h_40 := zb_0.mp h_40
          refine z_aload_0 dX12_put_43 ?_
          refine z_bipush dX12_put_44 (by decide) ?_
          refine z_iload_2 dX12_put_46 ?_
          refine z_callV2 (k_X12_puts (by omega) (by omega)) m_X12_puts zl_393 l_X12_129 (Nat.le_of_ble_eq_true rfl) ⟨Nat.le_of_ble_eq_true rfl, Nat.le_of_ble_eq_true rfl⟩ ⟨rfl, rfl⟩ dX12_put_47 (fun r μ1 hp => ?_)
          obtain ⟨rfl, hv⟩ := hp
          replace hv := hv.symm
          subst hv
          exact z_iret dX12_put_50 (by unfold spP; rw [if_neg (by omega), if_pos h_25]; exact zMok1 (zif_f (by rintro (q | q); exact q h_32; exact h_40 q)) (by omega) (by rw [zup_fu]; exact zBV_d hb9) (by rw [zup_fu, zfu_n (by omega)]; exact hm.2.1) (fun a ha => zup_row ha))
  · refine z_iload_2 dX12_put_4 ?_
    refine z_i2l dX12_put_5 ?_
    refine z_lconst0 dX12_put_6 ?_
    refine z_ldc2 (n := 9) k_X12_132 dX12_put_7 (by decide +kernel) ?_
    refine z_callS3 (k_X12_in) m_X12_in l_X12_106 (Nat.le_of_ble_eq_true rfl) ⟨Nat.le_of_ble_eq_true rfl, Nat.le_of_ble_eq_true rfl⟩ ⟨rfl, rfl⟩ dX12_put_10 (fun r μ1 hp => ?_)
    obtain ⟨rfl, hv⟩ := hp
    replace hv := hv.symm
    subst hv
    refine z_ifeq (tgt := 23) dX12_put_13 (by decide) (fun h_13 => ?_) (fun h_13 => ?_)
    · replace h_13 := zb_0.mp h_13
      refine z_iload_1 dX12_put_23 ?_
      refine z_iconst dX12_put_24 (by decide) ?_
      refine z_icmpne (tgt := 51) dX12_put_25 (by decide) (fun h_25 => ?_) (fun h_25 => ?_)
      · refine z_aload_0 dX12_put_51 ?_
        refine z_callV0 (k_X12_bad hm) m_X12_bad zl_393 l_X12_117 (Nat.le_of_ble_eq_true rfl) ⟨Nat.le_of_ble_eq_true rfl, Nat.le_of_ble_eq_true rfl⟩ ⟨rfl, rfl⟩ dX12_put_52 (fun r μ1 hp => ?_)
        obtain ⟨rfl, hv⟩ := hp
        replace hv := hv.symm
        subst hv
        exact z_iret dX12_put_55 (by
      first
        | exact absurd (h_1.symm.trans h_25) (by decide)
        | (refine zMbad1 (k := 0) hm ?_ rfl
           unfold spP
           first
             | (rw [if_pos h_1]; exact zif_t h_13)
             | (rw [if_neg h_1, if_neg h_25]; rfl)
             | (rw [if_neg h_1, if_neg h_25])
             | (rw [if_neg h_1, if_pos h_25]; exact zif_t (by first | exact Or.inl h_32 | exact Or.inr h_40))))
      · refine z_iload_2 dX12_put_28 ?_
        refine z_callS1 (k_X12_isCell) m_X12_isCell l_X12_110 (Nat.le_of_ble_eq_true rfl) ⟨Nat.le_of_ble_eq_true rfl, Nat.le_of_ble_eq_true rfl⟩ ⟨rfl, rfl⟩ dX12_put_29 (fun r μ1 hp => ?_)
        obtain ⟨rfl, hv⟩ := hp
        replace hv := hv.symm
        subst hv
        refine z_ifeq (tgt := 51) dX12_put_32 (by decide) (fun h_32 => ?_) (fun h_32 => ?_)
        · replace h_32 := zb_0.mp h_32
          refine z_aload_0 dX12_put_51 ?_
          refine z_callV0 (k_X12_bad hm) m_X12_bad zl_393 l_X12_117 (Nat.le_of_ble_eq_true rfl) ⟨Nat.le_of_ble_eq_true rfl, Nat.le_of_ble_eq_true rfl⟩ ⟨rfl, rfl⟩ dX12_put_52 (fun r μ1 hp => ?_)
          obtain ⟨rfl, hv⟩ := hp
          replace hv := hv.symm
          subst hv
          exact z_iret dX12_put_55 (by
      first
        | exact absurd (h_1.symm.trans h_25) (by decide)
        | (refine zMbad1 (k := 0) hm ?_ rfl
           unfold spP
           first
             | (rw [if_pos h_1]; exact zif_t h_13)
             | (rw [if_neg h_1, if_neg h_25]; rfl)
             | (rw [if_neg h_1, if_neg h_25])
             | (rw [if_neg h_1, if_pos h_25]; exact zif_t (by first | exact Or.inl h_32 | exact Or.inr h_40))))
        · replace h_32 := zb_n.mp h_32
          refine z_aload_0 dX12_put_35 ?_
          refine z_iload_2 dX12_put_36 ?_
          refine z_callV1 (k_X12_isWall h_32.1 h_32.2) m_X12_isWall zl_393 l_X12_121 (Nat.le_of_ble_eq_true rfl) ⟨Nat.le_of_ble_eq_true rfl, Nat.le_of_ble_eq_true rfl⟩ ⟨rfl, rfl⟩ dX12_put_37 (fun r μ1 hp => ?_)
          obtain ⟨rfl, hv⟩ := hp
          replace hv := hv.symm
          subst hv
          refine z_ifne (tgt := 51) dX12_put_40 (by decide) (fun h_40 => ?_) (fun h_40 => ?_)
          · replace h_40 := zb_n.mp h_40
            refine z_aload_0 dX12_put_51 ?_
            refine z_callV0 (k_X12_bad hm) m_X12_bad zl_393 l_X12_117 (Nat.le_of_ble_eq_true rfl) ⟨Nat.le_of_ble_eq_true rfl, Nat.le_of_ble_eq_true rfl⟩ ⟨rfl, rfl⟩ dX12_put_52 (fun r μ1 hp => ?_)
            obtain ⟨rfl, hv⟩ := hp
            replace hv := hv.symm
            subst hv
            exact z_iret dX12_put_55 (by
      first
        | exact absurd (h_1.symm.trans h_25) (by decide)
        | (refine zMbad1 (k := 0) hm ?_ rfl
           unfold spP
           first
             | (rw [if_pos h_1]; exact zif_t h_13)
             | (rw [if_neg h_1, if_neg h_25]; rfl)
             | (rw [if_neg h_1, if_neg h_25])
             | (rw [if_neg h_1, if_pos h_25]; exact zif_t (by first | exact Or.inl h_32 | exact Or.inr h_40))))
          · replace h_40 := zb_0.mp h_40
            refine z_aload_0 dX12_put_43 ?_
            refine z_bipush dX12_put_44 (by decide) ?_
            refine z_iload_2 dX12_put_46 ?_
            refine z_callV2 (k_X12_puts (by omega) (by omega)) m_X12_puts zl_393 l_X12_129 (Nat.le_of_ble_eq_true rfl) ⟨Nat.le_of_ble_eq_true rfl, Nat.le_of_ble_eq_true rfl⟩ ⟨rfl, rfl⟩ dX12_put_47 (fun r μ1 hp => ?_)
            obtain ⟨rfl, hv⟩ := hp
            replace hv := hv.symm
            subst hv
            exact z_iret dX12_put_50 (by unfold spP; rw [if_neg (by omega), if_pos h_25]; exact zMok1 (zif_f (by rintro (q | q); exact q h_32; exact h_40 q)) (by omega) (by rw [zup_fu]; exact zBV_d hb9) (by rw [zup_fu, zfu_n (by omega)]; exact hm.2.1) (fun a ha => zup_row ha))
    · replace h_13 := zb_n.mp h_13
      refine z_aload_0 dX12_put_16 ?_
      refine z_iconst dX12_put_17 (by decide) ?_
      refine z_iload_2 dX12_put_18 ?_
      refine z_callV2 (k_X12_puts (by omega) (by omega)) m_X12_puts zl_393 l_X12_129 (Nat.le_of_ble_eq_true rfl) ⟨Nat.le_of_ble_eq_true rfl, Nat.le_of_ble_eq_true rfl⟩ ⟨rfl, rfl⟩ dX12_put_19 (fun r μ1 hp => ?_)
      obtain ⟨rfl, hv⟩ := hp
      replace hv := hv.symm
      subst hv
      exact z_iret dX12_put_22 (by unfold spP; rw [if_pos h_1]; exact zMok1 (zif_f (fun q => q h_13)) (by omega) (by rw [zup_fu]; exact zBV_f hb9) (by rw [zup_fu, zfu_n (by omega)]; exact hm.2.1) (fun a ha => zup_row ha))
set_option maxRecDepth 100000 in
set_option maxHeartbeats 4000000 in
theorem k_X12_bed {l : Launch} {E : zE} {μ : zM} (hm : zMpre μ) {c : Int} : Ct l E yX12_bed cX12_bed 2 (some .int) ({ frames := 2, cells := 0, slots := 0, locals := 45 }) [zR 393, zI c] μ (fun r ν => zMp (spB (zBV (μ 394)) c) ((spB (zBV (μ 394)) c).1) μ r ν) := by
  refine Ct.of RX12 [zR 393, zI c] (by decide +kernel) rfl ⟨rfl, rfl⟩ rfl (Nat.le_of_ble_eq_true rfl) (fun X hX hc0 ha0 => ?_)
  subst hX
  obtain ⟨nb, nf, nd, np, ns, nr⟩ := zOK_b hm.1
  have hb9 := zOK_b hm.1
  refine z_iload_1 dX12_bed_0 ?_
  refine z_callS1 (k_X12_isCell) m_X12_isCell l_X12_110 (Nat.le_of_ble_eq_true rfl) ⟨Nat.le_of_ble_eq_true rfl, Nat.le_of_ble_eq_true rfl⟩ ⟨rfl, rfl⟩ dX12_bed_1 (fun r μ1 hp => ?_)
  obtain ⟨rfl, hv⟩ := hp
  replace hv := hv.symm
  subst hv
  refine z_ifeq (tgt := 23) dX12_bed_4 (by decide) (fun h_4 => ?_) (fun h_4 => ?_)
  · replace h_4 := zb_0.mp h_4
    refine z_aload_0 dX12_bed_23 ?_
    refine z_callV0 (k_X12_bad hm) m_X12_bad zl_393 l_X12_117 (Nat.le_of_ble_eq_true rfl) ⟨Nat.le_of_ble_eq_true rfl, Nat.le_of_ble_eq_true rfl⟩ ⟨rfl, rfl⟩ dX12_bed_24 (fun r μ1 hp => ?_)
    obtain ⟨rfl, hv⟩ := hp
    replace hv := hv.symm
    subst hv
    exact z_iret dX12_bed_27 (zMbad1 (k := 0) hm (zif_t (by first | exact Or.inl h_4 | exact Or.inr (Or.inl h_12) | exact Or.inr (Or.inr h_20))) rfl)
  · replace h_4 := zb_n.mp h_4
    refine z_aload_0 dX12_bed_7 ?_
    refine z_iload_1 dX12_bed_8 ?_
    refine z_callV1 (k_X12_isWall h_4.1 h_4.2) m_X12_isWall zl_393 l_X12_121 (Nat.le_of_ble_eq_true rfl) ⟨Nat.le_of_ble_eq_true rfl, Nat.le_of_ble_eq_true rfl⟩ ⟨rfl, rfl⟩ dX12_bed_9 (fun r μ1 hp => ?_)
    obtain ⟨rfl, hv⟩ := hp
    replace hv := hv.symm
    subst hv
    refine z_ifne (tgt := 23) dX12_bed_12 (by decide) (fun h_12 => ?_) (fun h_12 => ?_)
    · replace h_12 := zb_n.mp h_12
      refine z_aload_0 dX12_bed_23 ?_
      refine z_callV0 (k_X12_bad hm) m_X12_bad zl_393 l_X12_117 (Nat.le_of_ble_eq_true rfl) ⟨Nat.le_of_ble_eq_true rfl, Nat.le_of_ble_eq_true rfl⟩ ⟨rfl, rfl⟩ dX12_bed_24 (fun r μ1 hp => ?_)
      obtain ⟨rfl, hv⟩ := hp
      replace hv := hv.symm
      subst hv
      exact z_iret dX12_bed_27 (zMbad1 (k := 0) hm (zif_t (by first | exact Or.inl h_4 | exact Or.inr (Or.inl h_12) | exact Or.inr (Or.inr h_20))) rfl)
    · replace h_12 := zb_0.mp h_12
      refine z_aload_0 dX12_bed_15 ?_
      refine z_iload_1 dX12_bed_16 ?_
      refine z_callV1 (k_X12_isBedAt hm) m_X12_isBedAt zl_393 l_X12_114 (Nat.le_of_ble_eq_true rfl) ⟨Nat.le_of_ble_eq_true rfl, Nat.le_of_ble_eq_true rfl⟩ ⟨rfl, rfl⟩ dX12_bed_17 (fun r μ1 hp => ?_)
      obtain ⟨rfl, hv⟩ := hp
      replace hv := hv.symm
      subst hv
      refine z_ifeq (tgt := 28) dX12_bed_20 (by decide) (fun h_20 => ?_) (fun h_20 => ?_)
      · replace h_20 := zb_0.mp h_20
        refine z_aload_0 dX12_bed_28 ?_
        refine z_getF 394 1 rfl f_X12_7 zl_393 rfl rfl dX12_bed_29 ?_
        refine z_iconst dX12_bed_32 (by decide) ?_
        refine z_iald zl_394 (by omega) (by omega) dX12_bed_33 ?_
        refine z_bipush dX12_bed_34 (by decide) ?_
        refine z_icmpne (tgt := 44) dX12_bed_36 (by decide) (fun h_36 => ?_) (fun h_36 => ?_)
        · refine z_aload_0 dX12_bed_44 ?_
          refine z_getF 394 1 rfl f_X12_7 zl_393 rfl rfl dX12_bed_45 ?_
          refine z_bipush dX12_bed_48 (by decide) ?_
          refine z_aload_0 dX12_bed_50 ?_
          refine z_getF 394 1 rfl f_X12_7 zl_393 rfl rfl dX12_bed_51 ?_
          refine z_iconst dX12_bed_54 (by decide) ?_
          refine z_iald zl_394 (by omega) (by omega) dX12_bed_55 ?_
          
          refine z_iadd dX12_bed_56 (by omega) ?_
          refine z_iload_1 dX12_bed_57 ?_
          refine z_iast zl_394 (by omega) (by omega) dX12_bed_58 ?_
          refine z_aload_0 dX12_bed_59 ?_
          refine z_getF 394 1 rfl f_X12_7 zl_393 rfl rfl dX12_bed_60 ?_
          refine z_iconst dX12_bed_63 (by decide) ?_
          refine z_dup2 dX12_bed_64 rfl rfl ?_
          refine z_iald zl_394 (by omega) (by omega) dX12_bed_65 ?_
          rw [zup_ne (Or.inr (by omega))]
          refine z_iconst dX12_bed_66 (by decide) ?_
          refine z_iadd dX12_bed_67 (by omega) ?_
          refine z_iast zl_394 (by omega) (by omega) dX12_bed_68 ?_
          refine z_aload_0 dX12_bed_69 ?_
          refine z_getF 394 1 rfl f_X12_7 zl_393 rfl rfl dX12_bed_70 ?_
          refine z_iconst dX12_bed_73 (by decide) ?_
          refine z_iald zl_394 (by omega) (by omega) dX12_bed_74 ?_
          refine z_iconst dX12_bed_75 (by decide) ?_
          rw [zup_eq]
          refine z_isub dX12_bed_76 (by omega) ?_
          exact z_iret dX12_bed_77 (by rw [show μ 394 1 + 1 - 1 = μ 394 1 by omega]; exact zMok1 ((zif_f (by rintro (q | q | q); exact q h_4; exact h_12 q; exact h_20 q)).trans (zif_f (by rw [zBV_bc]; omega))) (by omega) (by rw [zup_fu, zup_fu]; exact zBV_b hb9 rfl (by omega)) (by rw [zup_fu, zup_fu, zfu_n (by omega), zfu_n (by omega)]; exact hm.2.1) (fun a ha => by rw [zup_row ha, zup_row ha]))
        · refine z_aload_0 dX12_bed_39 ?_
          refine z_callV0 (k_X12_full hm) m_X12_full zl_393 l_X12_134 (Nat.le_of_ble_eq_true rfl) ⟨Nat.le_of_ble_eq_true rfl, Nat.le_of_ble_eq_true rfl⟩ ⟨rfl, rfl⟩ dX12_bed_40 (fun r μ1 hp => ?_)
          obtain ⟨rfl, hv⟩ := hp
          replace hv := hv.symm
          subst hv
          exact z_iret dX12_bed_43 (zMbad1 (k := 2) hm ((zif_f (by rintro (q | q | q); exact q h_4; exact h_12 q; exact h_20 q)).trans (zif_t (by rw [zBV_bc]; omega))) rfl)
      · replace h_20 := zb_n.mp h_20
        refine z_aload_0 dX12_bed_23 ?_
        refine z_callV0 (k_X12_bad hm) m_X12_bad zl_393 l_X12_117 (Nat.le_of_ble_eq_true rfl) ⟨Nat.le_of_ble_eq_true rfl, Nat.le_of_ble_eq_true rfl⟩ ⟨rfl, rfl⟩ dX12_bed_24 (fun r μ1 hp => ?_)
        obtain ⟨rfl, hv⟩ := hp
        replace hv := hv.symm
        subst hv
        exact z_iret dX12_bed_27 (zMbad1 (k := 0) hm (zif_t (by first | exact Or.inl h_4 | exact Or.inr (Or.inl h_12) | exact Or.inr (Or.inr h_20))) rfl)
set_option maxRecDepth 100000 in
set_option maxHeartbeats 4000000 in
theorem k_X12_sleeper {l : Launch} {E : zE} {μ : zM} (hm : zMpre μ) {a b c d e : Int} : Ct l E yX12_sleeper cX12_sleeper 7 (some .int) ({ frames := 2, cells := 0, slots := 0, locals := 42 }) [zR 393, zI a, zI b, zI c, zI d, zI e] μ (fun r ν => zMp (spS (zBV (μ 394)) a b c d e) ((spS (zBV (μ 394)) a b c d e).1) μ r ν) := by
  refine Ct.of RX12 [zR 393, zI a, zI b, zI c, zI d, zI e, zU] (by decide +kernel) rfl ⟨rfl, rfl⟩ rfl (Nat.le_of_ble_eq_true rfl) (fun X hX hc0 ha0 => ?_)
  subst hX
  obtain ⟨nb, nf, nd, np, ns, nr⟩ := zOK_b hm.1
  have hb9 := zOK_b hm.1
  refine z_iload_1 dX12_sleeper_0 ?_
  refine z_i2l dX12_sleeper_1 ?_
  refine z_lconst1 dX12_sleeper_2 ?_
  refine z_ldc2 (n := 60) k_X12_137 dX12_sleeper_3 (by decide +kernel) ?_
  refine z_callS3 (k_X12_in) m_X12_in l_X12_106 (Nat.le_of_ble_eq_true rfl) ⟨Nat.le_of_ble_eq_true rfl, Nat.le_of_ble_eq_true rfl⟩ ⟨rfl, rfl⟩ dX12_sleeper_6 (fun r μ1 hp => ?_)
  obtain ⟨rfl, hv⟩ := hp
  replace hv := hv.symm
  subst hv
  refine z_ifeq (tgt := 65) dX12_sleeper_9 (by decide) (fun h_9 => ?_) (fun h_9 => ?_)
  · replace h_9 := zb_0.mp h_9
    refine z_aload_0 dX12_sleeper_65 ?_
    refine z_callV0 (k_X12_bad hm) m_X12_bad zl_393 l_X12_117 (Nat.le_of_ble_eq_true rfl) ⟨Nat.le_of_ble_eq_true rfl, Nat.le_of_ble_eq_true rfl⟩ ⟨rfl, rfl⟩ dX12_sleeper_66 (fun r μ1 hp => ?_)
    obtain ⟨rfl, hv⟩ := hp
    replace hv := hv.symm
    subst hv
    exact z_iret dX12_sleeper_69 (zMbad1 (k := 0) hm (zif_t (by first | exact Or.inl h_9 | exact Or.inr (Or.inl h_21) | exact Or.inr (Or.inr (Or.inl h_33)) | exact Or.inr (Or.inr (Or.inr (Or.inl h_49))) | exact Or.inr (Or.inr (Or.inr (Or.inr h_62))))) rfl)
  · replace h_9 := zb_n.mp h_9
    refine z_iload_2 dX12_sleeper_12 ?_
    refine z_i2l dX12_sleeper_13 ?_
    refine z_lconst1 dX12_sleeper_14 ?_
    refine z_ldc2 (n := 9) k_X12_132 dX12_sleeper_15 (by decide +kernel) ?_
    refine z_callS3 (k_X12_in) m_X12_in l_X12_106 (Nat.le_of_ble_eq_true rfl) ⟨Nat.le_of_ble_eq_true rfl, Nat.le_of_ble_eq_true rfl⟩ ⟨rfl, rfl⟩ dX12_sleeper_18 (fun r μ1 hp => ?_)
    obtain ⟨rfl, hv⟩ := hp
    replace hv := hv.symm
    subst hv
    refine z_ifeq (tgt := 65) dX12_sleeper_21 (by decide) (fun h_21 => ?_) (fun h_21 => ?_)
    · replace h_21 := zb_0.mp h_21
      refine z_aload_0 dX12_sleeper_65 ?_
      refine z_callV0 (k_X12_bad hm) m_X12_bad zl_393 l_X12_117 (Nat.le_of_ble_eq_true rfl) ⟨Nat.le_of_ble_eq_true rfl, Nat.le_of_ble_eq_true rfl⟩ ⟨rfl, rfl⟩ dX12_sleeper_66 (fun r μ1 hp => ?_)
      obtain ⟨rfl, hv⟩ := hp
      replace hv := hv.symm
      subst hv
      exact z_iret dX12_sleeper_69 (zMbad1 (k := 0) hm (zif_t (by first | exact Or.inl h_9 | exact Or.inr (Or.inl h_21) | exact Or.inr (Or.inr (Or.inl h_33)) | exact Or.inr (Or.inr (Or.inr (Or.inl h_49))) | exact Or.inr (Or.inr (Or.inr (Or.inr h_62))))) rfl)
    · replace h_21 := zb_n.mp h_21
      refine z_iload_3 dX12_sleeper_24 ?_
      refine z_i2l dX12_sleeper_25 ?_
      refine z_lconst0 dX12_sleeper_26 ?_
      refine z_ldc2 (n := 39) k_X12_139 dX12_sleeper_27 (by decide +kernel) ?_
      refine z_callS3 (k_X12_in) m_X12_in l_X12_106 (Nat.le_of_ble_eq_true rfl) ⟨Nat.le_of_ble_eq_true rfl, Nat.le_of_ble_eq_true rfl⟩ ⟨rfl, rfl⟩ dX12_sleeper_30 (fun r μ1 hp => ?_)
      obtain ⟨rfl, hv⟩ := hp
      replace hv := hv.symm
      subst hv
      refine z_ifeq (tgt := 65) dX12_sleeper_33 (by decide) (fun h_33 => ?_) (fun h_33 => ?_)
      · replace h_33 := zb_0.mp h_33
        refine z_aload_0 dX12_sleeper_65 ?_
        refine z_callV0 (k_X12_bad hm) m_X12_bad zl_393 l_X12_117 (Nat.le_of_ble_eq_true rfl) ⟨Nat.le_of_ble_eq_true rfl, Nat.le_of_ble_eq_true rfl⟩ ⟨rfl, rfl⟩ dX12_sleeper_66 (fun r μ1 hp => ?_)
        obtain ⟨rfl, hv⟩ := hp
        replace hv := hv.symm
        subst hv
        exact z_iret dX12_sleeper_69 (zMbad1 (k := 0) hm (zif_t (by first | exact Or.inl h_9 | exact Or.inr (Or.inl h_21) | exact Or.inr (Or.inr (Or.inl h_33)) | exact Or.inr (Or.inr (Or.inr (Or.inl h_49))) | exact Or.inr (Or.inr (Or.inr (Or.inr h_62))))) rfl)
      · replace h_33 := zb_n.mp h_33
        refine z_iload_4 dX12_sleeper_36 ?_
        refine z_i2l dX12_sleeper_38 ?_
        refine z_iload_3 dX12_sleeper_39 ?_
        refine z_iconst dX12_sleeper_40 (by decide) ?_
        refine z_iadd dX12_sleeper_41 (by omega) ?_
        refine z_i2l dX12_sleeper_42 ?_
        refine z_ldc2 (n := 40) k_X12_127 dX12_sleeper_43 (by decide +kernel) ?_
        refine z_callS3 (k_X12_in) m_X12_in l_X12_106 (Nat.le_of_ble_eq_true rfl) ⟨Nat.le_of_ble_eq_true rfl, Nat.le_of_ble_eq_true rfl⟩ ⟨rfl, rfl⟩ dX12_sleeper_46 (fun r μ1 hp => ?_)
        obtain ⟨rfl, hv⟩ := hp
        replace hv := hv.symm
        subst hv
        refine z_ifeq (tgt := 65) dX12_sleeper_49 (by decide) (fun h_49 => ?_) (fun h_49 => ?_)
        · replace h_49 := zb_0.mp h_49
          refine z_aload_0 dX12_sleeper_65 ?_
          refine z_callV0 (k_X12_bad hm) m_X12_bad zl_393 l_X12_117 (Nat.le_of_ble_eq_true rfl) ⟨Nat.le_of_ble_eq_true rfl, Nat.le_of_ble_eq_true rfl⟩ ⟨rfl, rfl⟩ dX12_sleeper_66 (fun r μ1 hp => ?_)
          obtain ⟨rfl, hv⟩ := hp
          replace hv := hv.symm
          subst hv
          exact z_iret dX12_sleeper_69 (zMbad1 (k := 0) hm (zif_t (by first | exact Or.inl h_9 | exact Or.inr (Or.inl h_21) | exact Or.inr (Or.inr (Or.inl h_33)) | exact Or.inr (Or.inr (Or.inr (Or.inl h_49))) | exact Or.inr (Or.inr (Or.inr (Or.inr h_62))))) rfl)
        · replace h_49 := zb_n.mp h_49
          refine z_iload_5 dX12_sleeper_52 ?_
          refine z_i2l dX12_sleeper_54 ?_
          refine z_lconst0 dX12_sleeper_55 ?_
          refine z_ldc2 (n := 60) k_X12_137 dX12_sleeper_56 (by decide +kernel) ?_
          refine z_callS3 (k_X12_in) m_X12_in l_X12_106 (Nat.le_of_ble_eq_true rfl) ⟨Nat.le_of_ble_eq_true rfl, Nat.le_of_ble_eq_true rfl⟩ ⟨rfl, rfl⟩ dX12_sleeper_59 (fun r μ1 hp => ?_)
          obtain ⟨rfl, hv⟩ := hp
          replace hv := hv.symm
          subst hv
          refine z_ifne (tgt := 70) dX12_sleeper_62 (by decide) (fun h_62 => ?_) (fun h_62 => ?_)
          · replace h_62 := zb_n.mp h_62
            refine z_aload_0 dX12_sleeper_70 ?_
            refine z_getF 394 1 rfl f_X12_7 zl_393 rfl rfl dX12_sleeper_71 ?_
            refine z_iconst dX12_sleeper_74 (by decide) ?_
            refine z_iald zl_394 (by omega) (by omega) dX12_sleeper_75 ?_
            refine z_iconst dX12_sleeper_76 (by decide) ?_
            refine z_icmpne (tgt := 85) dX12_sleeper_77 (by decide) (fun h_77 => ?_) (fun h_77 => ?_)
            · refine z_bipush dX12_sleeper_85 (by decide) ?_
              refine z_bipush dX12_sleeper_87 (by decide) ?_
              refine z_aload_0 dX12_sleeper_89 ?_
              refine z_getF 394 1 rfl f_X12_7 zl_393 rfl rfl dX12_sleeper_90 ?_
              refine z_iconst dX12_sleeper_93 (by decide) ?_
              refine z_iald zl_394 (by omega) (by omega) dX12_sleeper_94 ?_
              refine z_imul dX12_sleeper_95 (by omega) ?_
              refine z_iadd dX12_sleeper_96 (by omega) ?_
              refine z_istore_6 rfl dX12_sleeper_97 ?_
              refine z_aload_0 dX12_sleeper_99 ?_
              refine z_getF 394 1 rfl f_X12_7 zl_393 rfl rfl dX12_sleeper_100 ?_
              refine z_iload_6 dX12_sleeper_103 ?_
              refine z_iload_1 dX12_sleeper_105 ?_
              refine z_iast zl_394 (by omega) (by omega) dX12_sleeper_106 ?_
              refine z_aload_0 dX12_sleeper_107 ?_
              refine z_getF 394 1 rfl f_X12_7 zl_393 rfl rfl dX12_sleeper_108 ?_
              refine z_iload_6 dX12_sleeper_111 ?_
              refine z_iconst dX12_sleeper_113 (by decide) ?_
              refine z_iadd dX12_sleeper_114 (by omega) ?_
              refine z_iload_2 dX12_sleeper_115 ?_
              refine z_iast zl_394 (by omega) (by omega) dX12_sleeper_116 ?_
              refine z_aload_0 dX12_sleeper_117 ?_
              refine z_getF 394 1 rfl f_X12_7 zl_393 rfl rfl dX12_sleeper_118 ?_
              refine z_iload_6 dX12_sleeper_121 ?_
              refine z_iconst dX12_sleeper_123 (by decide) ?_
              refine z_iadd dX12_sleeper_124 (by omega) ?_
              refine z_iload_3 dX12_sleeper_125 ?_
              refine z_iast zl_394 (by omega) (by omega) dX12_sleeper_126 ?_
              refine z_aload_0 dX12_sleeper_127 ?_
              refine z_getF 394 1 rfl f_X12_7 zl_393 rfl rfl dX12_sleeper_128 ?_
              refine z_iload_6 dX12_sleeper_131 ?_
              refine z_iconst dX12_sleeper_133 (by decide) ?_
              refine z_iadd dX12_sleeper_134 (by omega) ?_
              refine z_iload_4 dX12_sleeper_135 ?_
              refine z_iast zl_394 (by omega) (by omega) dX12_sleeper_137 ?_
              refine z_aload_0 dX12_sleeper_138 ?_
              refine z_getF 394 1 rfl f_X12_7 zl_393 rfl rfl dX12_sleeper_139 ?_
              refine z_iload_6 dX12_sleeper_142 ?_
              refine z_iconst dX12_sleeper_144 (by decide) ?_
              refine z_iadd dX12_sleeper_145 (by omega) ?_
              refine z_iload_5 dX12_sleeper_146 ?_
              refine z_iast zl_394 (by omega) (by omega) dX12_sleeper_148 ?_
              refine z_aload_0 dX12_sleeper_149 ?_
              refine z_getF 394 1 rfl f_X12_7 zl_393 rfl rfl dX12_sleeper_150 ?_
              refine z_iload_6 dX12_sleeper_153 ?_
              refine z_iconst dX12_sleeper_155 (by decide) ?_
              refine z_iadd dX12_sleeper_156 (by omega) ?_
              refine z_iconst dX12_sleeper_157 (by decide) ?_
              refine z_iast zl_394 (by omega) (by omega) dX12_sleeper_158 ?_
              refine z_aload_0 dX12_sleeper_159 ?_
              refine z_getF 394 1 rfl f_X12_7 zl_393 rfl rfl dX12_sleeper_160 ?_
              refine z_iconst dX12_sleeper_163 (by decide) ?_
              refine z_dup2 dX12_sleeper_164 rfl rfl ?_
              refine z_iald zl_394 (by omega) (by omega) dX12_sleeper_165 ?_
              repeat (rw [zup_ne (Or.inr (by omega))])
              refine z_iconst dX12_sleeper_166 (by decide) ?_
              refine z_iadd dX12_sleeper_167 (by omega) ?_
              refine z_iast zl_394 (by omega) (by omega) dX12_sleeper_168 ?_
              refine z_aload_0 dX12_sleeper_169 ?_
              refine z_getF 394 1 rfl f_X12_7 zl_393 rfl rfl dX12_sleeper_170 ?_
              refine z_iconst dX12_sleeper_173 (by decide) ?_
              refine z_iald zl_394 (by omega) (by omega) dX12_sleeper_174 ?_
              rw [zup_eq]
              refine z_iconst dX12_sleeper_175 (by decide) ?_
              refine z_isub dX12_sleeper_176 (by omega) ?_
              exact z_iret dX12_sleeper_177 (by rw [show μ 394 2 + 1 - 1 = μ 394 2 by omega]; exact zMok1 ((zif_f (by rintro (q | q | q | q | q); exact q h_9; exact q h_21; exact q h_33; exact q h_49; exact q h_62)).trans (zif_f (by rw [zBV_pc]; omega))) (by omega) (by simp only [zup_fu]; exact zBV_p hb9 rfl (by omega)) (by simp only [zup_fu]; (repeat (rw [zfu_n (by omega)])); exact hm.2.1) (fun x hx => by repeat (rw [zup_row hx])))
            · refine z_aload_0 dX12_sleeper_80 ?_
              refine z_callV0 (k_X12_full hm) m_X12_full zl_393 l_X12_134 (Nat.le_of_ble_eq_true rfl) ⟨Nat.le_of_ble_eq_true rfl, Nat.le_of_ble_eq_true rfl⟩ ⟨rfl, rfl⟩ dX12_sleeper_81 (fun r μ1 hp => ?_)
              obtain ⟨rfl, hv⟩ := hp
              replace hv := hv.symm
              subst hv
              exact z_iret dX12_sleeper_84 (zMbad1 (k := 2) hm ((zif_f (by rintro (q | q | q | q | q); exact q h_9; exact q h_21; exact q h_33; exact q h_49; exact q h_62)).trans (zif_t (by rw [zBV_pc]; omega))) rfl)
          · replace h_62 := zb_0.mp h_62
            refine z_aload_0 dX12_sleeper_65 ?_
            refine z_callV0 (k_X12_bad hm) m_X12_bad zl_393 l_X12_117 (Nat.le_of_ble_eq_true rfl) ⟨Nat.le_of_ble_eq_true rfl, Nat.le_of_ble_eq_true rfl⟩ ⟨rfl, rfl⟩ dX12_sleeper_66 (fun r μ1 hp => ?_)
            obtain ⟨rfl, hv⟩ := hp
            replace hv := hv.symm
            subst hv
            exact z_iret dX12_sleeper_69 (zMbad1 (k := 0) hm (zif_t (by first | exact Or.inl h_9 | exact Or.inr (Or.inl h_21) | exact Or.inr (Or.inr (Or.inl h_33)) | exact Or.inr (Or.inr (Or.inr (Or.inl h_49))) | exact Or.inr (Or.inr (Or.inr (Or.inr h_62))))) rfl)
set_option maxRecDepth 100000 in
set_option maxHeartbeats 4000000 in
theorem k_X12_still {l : Launch} {E : zE} {μ : zM} (hm : zMpre μ) : Ct l E yX12_still cX12_still 1 (some .int) ({ frames := 2, cells := 0, slots := 0, locals := 42 }) [zR 393] μ (fun r ν => zMp (spX (zBV (μ 394))) ((spX (zBV (μ 394))).1) μ r ν) := by
  refine Ct.of RX12 [zR 393] (by decide +kernel) rfl ⟨rfl, rfl⟩ rfl (Nat.le_of_ble_eq_true rfl) (fun X hX hc0 ha0 => ?_)
  subst hX
  obtain ⟨nb, nf, nd, np, ns, nr⟩ := zOK_b hm.1
  have hb9 := zOK_b hm.1
  refine z_aload_0 dX12_still_0 ?_
  refine z_getF 394 1 rfl f_X12_7 zl_393 rfl rfl dX12_still_1 ?_
  refine z_iconst dX12_still_4 (by decide) ?_
  refine z_iald zl_394 (by omega) (by omega) dX12_still_5 ?_
  refine z_ifne (tgt := 14) dX12_still_6 (by decide) (fun h_6 => ?_) (fun h_6 => ?_)
  · refine z_aload_0 dX12_still_14 ?_
    refine z_getF 394 1 rfl f_X12_7 zl_393 rfl rfl dX12_still_15 ?_
    refine z_iconst dX12_still_18 (by decide) ?_
    refine z_dup2 dX12_still_19 rfl rfl ?_
    refine z_iald zl_394 (by omega) (by omega) dX12_still_20 ?_
    refine z_iconst dX12_still_21 (by decide) ?_
    refine z_isub dX12_still_22 (by omega) ?_
    refine z_iast zl_394 (by omega) (by omega) dX12_still_23 ?_
    refine z_iconst dX12_still_24 (by decide) ?_
    exact z_iret dX12_still_25 (zMok1 (zif_f (by rw [zBV_sc]; omega)) (by decide) (by rw [zup_fu]; exact zBV_x hb9 (by omega)) (by rw [zup_fu, zfu_n (by omega)]; exact hm.2.1) (fun a ha => zup_row ha))
  · refine z_aload_0 dX12_still_9 ?_
    refine z_callV0 (k_X12_no hm) m_X12_no zl_393 l_X12_124 (Nat.le_of_ble_eq_true rfl) ⟨Nat.le_of_ble_eq_true rfl, Nat.le_of_ble_eq_true rfl⟩ ⟨rfl, rfl⟩ dX12_still_10 (fun r μ1 hp => ?_)
    obtain ⟨rfl, hv⟩ := hp
    replace hv := hv.symm
    subst hv
    exact z_iret dX12_still_13 (zMbad1 (k := 1) hm (zif_t (by rw [zBV_sc]; omega)) rfl)
set_option maxRecDepth 100000 in
set_option maxHeartbeats 4000000 in
theorem k_X12_rule {l : Launch} {E : zE} {μ : zM} (hm : zMpre μ) {s b m : Int} (hmm : m = 0 ∨ m = 1) : Ct l E yX12_rule cX12_rule 5 (some .int) ({ frames := 2, cells := 0, slots := 0, locals := 46 }) [zR 393, zI s, zI b, zI m] μ (fun r ν => zMp (spR (zBV (μ 394)) s b m) ((spR (zBV (μ 394)) s b m).1) μ r ν) := by
  refine Ct.of RX12 [zR 393, zI s, zI b, zI m, zU] (by decide +kernel) rfl ⟨rfl, rfl⟩ rfl (Nat.le_of_ble_eq_true rfl) (fun X hX hc0 ha0 => ?_)
  subst hX
  obtain ⟨nb, nf, nd, np, ns, nr⟩ := zOK_b hm.1
  have hb9 := zOK_b hm.1
  refine z_aload_0 dX12_rule_0 ?_
  refine z_iload_1 dX12_rule_1 ?_
  refine z_callV1 (k_X12_isSleeper hm) m_X12_isSleeper zl_393 l_X12_141 (Nat.le_of_ble_eq_true rfl) ⟨Nat.le_of_ble_eq_true rfl, Nat.le_of_ble_eq_true rfl⟩ ⟨rfl, rfl⟩ dX12_rule_2 (fun r μ1 hp => ?_)
  obtain ⟨rfl, hv⟩ := hp
  replace hv := hv.symm
  subst hv
  refine z_ifeq (tgt := 16) dX12_rule_5 (by decide) (fun h_5 => ?_) (fun h_5 => ?_)
  · replace h_5 := zb_0.mp h_5
    refine z_aload_0 dX12_rule_16 ?_
    refine z_callV0 (k_X12_bad hm) m_X12_bad zl_393 l_X12_117 (Nat.le_of_ble_eq_true rfl) ⟨Nat.le_of_ble_eq_true rfl, Nat.le_of_ble_eq_true rfl⟩ ⟨rfl, rfl⟩ dX12_rule_17 (fun r μ1 hp => ?_)
    obtain ⟨rfl, hv⟩ := hp
    replace hv := hv.symm
    subst hv
    exact z_iret dX12_rule_20 (zMbad1 (k := 0) hm (zif_t (by first | exact Or.inl h_5 | exact Or.inr h_13)) rfl)
  · replace h_5 := zb_n.mp h_5
    refine z_aload_0 dX12_rule_8 ?_
    refine z_iload_2 dX12_rule_9 ?_
    refine z_callV1 (k_X12_isBed hm) m_X12_isBed zl_393 l_X12_144 (Nat.le_of_ble_eq_true rfl) ⟨Nat.le_of_ble_eq_true rfl, Nat.le_of_ble_eq_true rfl⟩ ⟨rfl, rfl⟩ dX12_rule_10 (fun r μ1 hp => ?_)
    obtain ⟨rfl, hv⟩ := hp
    replace hv := hv.symm
    subst hv
    refine z_ifne (tgt := 21) dX12_rule_13 (by decide) (fun h_13 => ?_) (fun h_13 => ?_)
    · replace h_13 := zb_n.mp h_13
      refine z_aload_0 dX12_rule_21 ?_
      refine z_getF 394 1 rfl f_X12_7 zl_393 rfl rfl dX12_rule_22 ?_
      refine z_iconst dX12_rule_25 (by decide) ?_
      refine z_iald zl_394 (by omega) (by omega) dX12_rule_26 ?_
      refine z_iconst dX12_rule_27 (by decide) ?_
      refine z_icmpne (tgt := 36) dX12_rule_28 (by decide) (fun h_28 => ?_) (fun h_28 => ?_)
      · refine z_sipush dX12_rule_36 (by decide) ?_
        refine z_iconst dX12_rule_39 (by decide) ?_
        refine z_aload_0 dX12_rule_40 ?_
        refine z_getF 394 1 rfl f_X12_7 zl_393 rfl rfl dX12_rule_41 ?_
        refine z_iconst dX12_rule_44 (by decide) ?_
        refine z_iald zl_394 (by omega) (by omega) dX12_rule_45 ?_
        refine z_imul dX12_rule_46 (by omega) ?_
        refine z_iadd dX12_rule_47 (by omega) ?_
        refine z_istore_4 rfl dX12_rule_48 ?_
        refine z_aload_0 dX12_rule_50 ?_
        refine z_getF 394 1 rfl f_X12_7 zl_393 rfl rfl dX12_rule_51 ?_
        refine z_iload_4 dX12_rule_54 ?_
        refine z_iload_1 dX12_rule_56 ?_
        refine z_iast zl_394 (by omega) (by omega) dX12_rule_57 ?_
        refine z_aload_0 dX12_rule_58 ?_
        refine z_getF 394 1 rfl f_X12_7 zl_393 rfl rfl dX12_rule_59 ?_
        refine z_iload_4 dX12_rule_62 ?_
        refine z_iconst dX12_rule_64 (by decide) ?_
        refine z_iadd dX12_rule_65 (by omega) ?_
        refine z_iload_2 dX12_rule_66 ?_
        refine z_iast zl_394 (by omega) (by omega) dX12_rule_67 ?_
        refine z_aload_0 dX12_rule_68 ?_
        refine z_getF 394 1 rfl f_X12_7 zl_393 rfl rfl dX12_rule_69 ?_
        refine z_iload_4 dX12_rule_72 ?_
        refine z_iconst dX12_rule_74 (by decide) ?_
        refine z_iadd dX12_rule_75 (by omega) ?_
        refine z_iload_3 dX12_rule_76 ?_
        refine z_ifeq (tgt := 84) dX12_rule_77 (by decide) (fun h_77 => ?_) (fun h_77 => ?_)
        · obtain rfl : m = 0 := h_77
          refine z_iconst dX12_rule_84 (by decide) ?_
          refine z_iast zl_394 (by omega) (by omega) dX12_rule_85 ?_
          refine z_aload_0 dX12_rule_86 ?_
          refine z_getF 394 1 rfl f_X12_7 zl_393 rfl rfl dX12_rule_87 ?_
          refine z_iconst dX12_rule_90 (by decide) ?_
          refine z_dup2 dX12_rule_91 rfl rfl ?_
          refine z_iald zl_394 (by omega) (by omega) dX12_rule_92 ?_
          repeat (rw [zup_ne (Or.inr (by omega))])
          refine z_iconst dX12_rule_93 (by decide) ?_
          refine z_iadd dX12_rule_94 (by omega) ?_
          refine z_iast zl_394 (by omega) (by omega) dX12_rule_95 ?_
          refine z_aload_0 dX12_rule_96 ?_
          refine z_getF 394 1 rfl f_X12_7 zl_393 rfl rfl dX12_rule_97 ?_
          refine z_iconst dX12_rule_100 (by decide) ?_
          refine z_iald zl_394 (by omega) (by omega) dX12_rule_101 ?_
          rw [zup_eq]
          refine z_iconst dX12_rule_102 (by decide) ?_
          refine z_isub dX12_rule_103 (by omega) ?_
          exact z_iret dX12_rule_104 (by rw [show μ 394 4 + 1 - 1 = μ 394 4 by omega]; exact zMok1 ((zif_f (by rintro (q | q); exact q h_5; exact q h_13)).trans (zif_f (by rw [zBV_rc]; omega))) (by omega) (by simp only [zup_fu]; exact zBV_r hb9 rfl (by omega)) (by simp only [zup_fu]; (repeat (rw [zfu_n (by omega)])); exact hm.2.1) (fun x hx => by repeat (rw [zup_row hx])))
        · obtain rfl : m = 1 := by omega
          refine z_iconst dX12_rule_80 (by decide) ?_
          refine z_goto (tgt := 85) dX12_rule_81 (by decide) ?_
          refine z_iast zl_394 (by omega) (by omega) dX12_rule_85 ?_
          refine z_aload_0 dX12_rule_86 ?_
          refine z_getF 394 1 rfl f_X12_7 zl_393 rfl rfl dX12_rule_87 ?_
          refine z_iconst dX12_rule_90 (by decide) ?_
          refine z_dup2 dX12_rule_91 rfl rfl ?_
          refine z_iald zl_394 (by omega) (by omega) dX12_rule_92 ?_
          repeat (rw [zup_ne (Or.inr (by omega))])
          refine z_iconst dX12_rule_93 (by decide) ?_
          refine z_iadd dX12_rule_94 (by omega) ?_
          refine z_iast zl_394 (by omega) (by omega) dX12_rule_95 ?_
          refine z_aload_0 dX12_rule_96 ?_
          refine z_getF 394 1 rfl f_X12_7 zl_393 rfl rfl dX12_rule_97 ?_
          refine z_iconst dX12_rule_100 (by decide) ?_
          refine z_iald zl_394 (by omega) (by omega) dX12_rule_101 ?_
          rw [zup_eq]
          refine z_iconst dX12_rule_102 (by decide) ?_
          refine z_isub dX12_rule_103 (by omega) ?_
          exact z_iret dX12_rule_104 (by rw [show μ 394 4 + 1 - 1 = μ 394 4 by omega]; exact zMok1 ((zif_f (by rintro (q | q); exact q h_5; exact q h_13)).trans (zif_f (by rw [zBV_rc]; omega))) (by omega) (by simp only [zup_fu]; exact zBV_r hb9 rfl (by omega)) (by simp only [zup_fu]; (repeat (rw [zfu_n (by omega)])); exact hm.2.1) (fun x hx => by repeat (rw [zup_row hx])))
      · refine z_aload_0 dX12_rule_31 ?_
        refine z_callV0 (k_X12_full hm) m_X12_full zl_393 l_X12_134 (Nat.le_of_ble_eq_true rfl) ⟨Nat.le_of_ble_eq_true rfl, Nat.le_of_ble_eq_true rfl⟩ ⟨rfl, rfl⟩ dX12_rule_32 (fun r μ1 hp => ?_)
        obtain ⟨rfl, hv⟩ := hp
        replace hv := hv.symm
        subst hv
        exact z_iret dX12_rule_35 (zMbad1 (k := 2) hm ((zif_f (by rintro (q | q); exact q h_5; exact q h_13)).trans (zif_t (by rw [zBV_rc]; omega))) rfl)
    · replace h_13 := zb_0.mp h_13
      refine z_aload_0 dX12_rule_16 ?_
      refine z_callV0 (k_X12_bad hm) m_X12_bad zl_393 l_X12_117 (Nat.le_of_ble_eq_true rfl) ⟨Nat.le_of_ble_eq_true rfl, Nat.le_of_ble_eq_true rfl⟩ ⟨rfl, rfl⟩ dX12_rule_17 (fun r μ1 hp => ?_)
      obtain ⟨rfl, hv⟩ := hp
      replace hv := hv.symm
      subst hv
      exact z_iret dX12_rule_20 (zMbad1 (k := 0) hm (zif_t (by first | exact Or.inl h_5 | exact Or.inr h_13)) rfl)
set_option maxRecDepth 100000 in
set_option maxHeartbeats 4000000 in
theorem k_X12_free {l : Launch} {E : zE} {μ : zM} (hm : zMpre μ) : Ct l E yX12_free cX12_free 1 (some .int) ({ frames := 1, cells := 0, slots := 0, locals := 23 }) [zR 393] μ (fun r ν => zMp (((zBV (μ 394) 3 5, zfree (zBV (μ 394))) : Int × zM)) ((((zBV (μ 394) 3 5, zfree (zBV (μ 394))) : Int × zM)).1) μ r ν) := by
  refine Ct.of RX12 [zR 393] (by decide +kernel) rfl ⟨rfl, rfl⟩ rfl (Nat.le_of_ble_eq_true rfl) (fun X hX hc0 ha0 => ?_)
  subst hX
  obtain ⟨nb, nf, nd, np, ns, nr⟩ := zOK_b hm.1
  have hb9 := zOK_b hm.1
  refine z_aload_0 dX12_free_0 ?_
  refine z_iconst dX12_free_1 (by decide) ?_
  refine z_iconst dX12_free_2 (by decide) ?_
  refine z_callV2 (k_X12_puts (by decide) (by decide)) m_X12_puts zl_393 l_X12_129 (Nat.le_of_ble_eq_true rfl) ⟨Nat.le_of_ble_eq_true rfl, Nat.le_of_ble_eq_true rfl⟩ ⟨rfl, rfl⟩ dX12_free_3 (fun r μ1 hp => ?_)
  obtain ⟨rfl, hv⟩ := hp
  replace hv := hv.symm
  subst hv
  exact z_iret dX12_free_6 (zMok1 (by rw [zBV_rc]) (by omega) (by rw [zup_fu]; exact zBV_e hb9) (by rw [zup_fu, zfu_n (by omega)]; exact hm.2.1) (fun a ha => zup_row ha))
set_option maxRecDepth 100000 in
set_option maxHeartbeats 4000000 in
theorem k_X12_lie {l : Launch} {E : zE} {μ : zM} (hm : zMpre μ) {s b : Int} : Ct l E yX12_lie cX12_lie 4 (some .int) ({ frames := 2, cells := 0, slots := 0, locals := 46 }) [zR 393, zI s, zI b] μ (fun r ν => zMp (spL (zBV (μ 394)) s b) (zLx (spL (zBV (μ 394)) s b).1) μ r ν) := by
  refine Ct.of RX12 [zR 393, zI s, zI b, zU] (by decide +kernel) rfl ⟨rfl, rfl⟩ rfl (Nat.le_of_ble_eq_true rfl) (fun X hX hc0 ha0 => ?_)
  subst hX
  obtain ⟨nb, nf, nd, np, ns, nr⟩ := zOK_b hm.1
  have hb9 := zOK_b hm.1
  have L4 : ¬ (¬ (0 ≤ s ∧ s < zBV (μ 394) 3 3) ∨ (b ≠ -1 ∧ ¬ (0 ≤ b ∧ b < zBV (μ 394) 3 0))) → (0 ≤ s ∧ s < μ 394 2) → MW X E cX12_lie RX12 ({ frames := 2, cells := 0, slots := 0, locals := 46 }) (some .int) (fun r ν => zMp (spL (zBV (μ 394)) s b) (zLx (spL (zBV (μ 394)) s b).1) μ r ν) 31 [zR 393, zI s, zI b, zI 0] [] μ := fun hbad h_5 => by
    have L3 : ∀ (k : Nat) (i : Int), 0 ≤ i → i ≤ μ 394 2 → (∀ j, 0 ≤ j → j < i → j ≠ s → μ 394 (90 + 6 * j + 5) ≠ b) → μ 394 2 - i < k → MW X E cX12_lie RX12 ({ frames := 2, cells := 0, slots := 0, locals := 46 }) (some .int) (fun r ν => zMp (spL (zBV (μ 394)) s b) (zLx (spL (zBV (μ 394)) s b).1) μ r ν) 31 [zR 393, zI s, zI b, zI i] [] μ := by
      intro k
      induction k with
      | zero => intro i h1 h2 hno h3; omega
      | succ k ih =>
        intro i h1 h2 hno h3
        refine z_iload_3 dX12_lie_31 ?_
        refine z_aload_0 dX12_lie_32 ?_
        refine z_getF 394 1 rfl f_X12_7 zl_393 rfl rfl dX12_lie_33 ?_
        refine z_iconst dX12_lie_36 (by decide) ?_
        refine z_iald zl_394 (by omega) (by omega) dX12_lie_37 ?_
        refine z_icmpge (tgt := 75) dX12_lie_38 (by decide) (fun h_38 => ?_) (fun h_38 => ?_)
        · refine z_aload_0 dX12_lie_75 ?_
          refine z_bipush dX12_lie_76 (by decide) ?_
          refine z_bipush dX12_lie_78 (by decide) ?_
          refine z_iload_1 dX12_lie_80 ?_
          refine z_imul dX12_lie_81 (by omega) ?_
          refine z_iadd dX12_lie_82 (by omega) ?_
          refine z_iconst dX12_lie_83 (by decide) ?_
          refine z_iadd dX12_lie_84 (by omega) ?_
          refine z_iload_2 dX12_lie_85 ?_
          refine z_callV2 (k_X12_puts (by omega) (by omega)) m_X12_puts zl_393 l_X12_129 (Nat.le_of_ble_eq_true rfl) ⟨Nat.le_of_ble_eq_true rfl, Nat.le_of_ble_eq_true rfl⟩ ⟨rfl, rfl⟩ dX12_lie_86 (fun r μ1 hp => ?_)
          obtain ⟨rfl, hv⟩ := hp
          replace hv := hv.symm
          subst hv
          exact z_iret dX12_lie_89 (by
          have e : spL (zBV (μ 394)) s b = (μ 394 (90 + 6 * s + 5), zup (zBV (μ 394)) 9 s b) := (zif_f hbad).trans ((zif_f (by
            rintro ⟨q1, q2⟩
            obtain ⟨j, j0, j1, jn, je⟩ := zTK_b.mp q2
            first
              | exact hno j j0 (by omega) jn je
              | exact q1 (by assumption))).trans (by rw [zBV_9 h_5.1 h_5.2]))
          have hz : -1 ≤ μ 394 (90 + 6 * s + 5) := by
            have := (hm.1.2.1.2 s h_5.1 h_5.2).2.2.2.2.1
            rwa [zBV_9 h_5.1 h_5.2] at this
          rw [show zLx (spL (zBV (μ 394)) s b).1 = μ 394 (90 + 6 * s + 5) by rw [e]; unfold zLx; dsimp only; rw [if_neg (by omega), if_neg (by omega)]]
          exact zMok e hz (by rw [zup_fu]; exact zBV_l hb9 h_5.1 h_5.2) (by rw [zup_fu, zfu_n (by omega)]; exact hm.2.1) (fun a ha => zup_row ha))
        · refine z_iload_2 dX12_lie_41 ?_
          refine z_iconst dX12_lie_42 (by decide) ?_
          refine z_icmpeq (tgt := 75) dX12_lie_43 (by decide) (fun h_43 => ?_) (fun h_43 => ?_)
          · refine z_aload_0 dX12_lie_75 ?_
            refine z_bipush dX12_lie_76 (by decide) ?_
            refine z_bipush dX12_lie_78 (by decide) ?_
            refine z_iload_1 dX12_lie_80 ?_
            refine z_imul dX12_lie_81 (by omega) ?_
            refine z_iadd dX12_lie_82 (by omega) ?_
            refine z_iconst dX12_lie_83 (by decide) ?_
            refine z_iadd dX12_lie_84 (by omega) ?_
            refine z_iload_2 dX12_lie_85 ?_
            refine z_callV2 (k_X12_puts (by omega) (by omega)) m_X12_puts zl_393 l_X12_129 (Nat.le_of_ble_eq_true rfl) ⟨Nat.le_of_ble_eq_true rfl, Nat.le_of_ble_eq_true rfl⟩ ⟨rfl, rfl⟩ dX12_lie_86 (fun r μ1 hp => ?_)
            obtain ⟨rfl, hv⟩ := hp
            replace hv := hv.symm
            subst hv
            exact z_iret dX12_lie_89 (by
          have e : spL (zBV (μ 394)) s b = (μ 394 (90 + 6 * s + 5), zup (zBV (μ 394)) 9 s b) := (zif_f hbad).trans ((zif_f (by
            rintro ⟨q1, q2⟩
            obtain ⟨j, j0, j1, jn, je⟩ := zTK_b.mp q2
            first
              | exact hno j j0 (by omega) jn je
              | exact q1 (by assumption))).trans (by rw [zBV_9 h_5.1 h_5.2]))
          have hz : -1 ≤ μ 394 (90 + 6 * s + 5) := by
            have := (hm.1.2.1.2 s h_5.1 h_5.2).2.2.2.2.1
            rwa [zBV_9 h_5.1 h_5.2] at this
          rw [show zLx (spL (zBV (μ 394)) s b).1 = μ 394 (90 + 6 * s + 5) by rw [e]; unfold zLx; dsimp only; rw [if_neg (by omega), if_neg (by omega)]]
          exact zMok e hz (by rw [zup_fu]; exact zBV_l hb9 h_5.1 h_5.2) (by rw [zup_fu, zfu_n (by omega)]; exact hm.2.1) (fun a ha => zup_row ha))
          · refine z_iload_3 dX12_lie_46 ?_
            refine z_iload_1 dX12_lie_47 ?_
            refine z_icmpeq (tgt := 69) dX12_lie_48 (by decide) (fun h_48 => ?_) (fun h_48 => ?_)
            · refine z_iinc_3 rfl dX12_lie_69 (by omega) ?_
              refine z_goto (tgt := 31) dX12_lie_72 (by decide) ?_
              exact ih (i + 1) (by omega) (by omega) (fun j j0 j1 jn => by rcases Int.lt_or_eq_of_le (show j ≤ i by omega) with q | q; exact hno j j0 q jn; (first | exact absurd (q.trans h_48) jn | (rw [q]; exact h_58))) (by omega)
            · refine z_aload_0 dX12_lie_51 ?_
              refine z_iload_3 dX12_lie_52 ?_
              refine z_iconst dX12_lie_53 (by decide) ?_
              refine z_callV2 (k_X12_of (by omega) (by omega) (by decide) (by decide)) m_X12_of zl_393 l_X12_147 (Nat.le_of_ble_eq_true rfl) ⟨Nat.le_of_ble_eq_true rfl, Nat.le_of_ble_eq_true rfl⟩ ⟨rfl, rfl⟩ dX12_lie_54 (fun r μ1 hp => ?_)
              obtain ⟨rfl, hv⟩ := hp
              replace hv := hv.symm
              subst hv
              refine z_iload_2 dX12_lie_57 ?_
              refine z_icmpne (tgt := 69) dX12_lie_58 (by decide) (fun h_58 => ?_) (fun h_58 => ?_)
              · refine z_iinc_3 rfl dX12_lie_69 (by omega) ?_
                refine z_goto (tgt := 31) dX12_lie_72 (by decide) ?_
                exact ih (i + 1) (by omega) (by omega) (fun j j0 j1 jn => by rcases Int.lt_or_eq_of_le (show j ≤ i by omega) with q | q; exact hno j j0 q jn; (first | exact absurd (q.trans h_48) jn | (rw [q]; exact h_58))) (by omega)
              · refine z_aload_0 dX12_lie_61 ?_
                refine z_iconst dX12_lie_62 (by decide) ?_
                refine z_bipush dX12_lie_63 (by decide) ?_
                refine z_callV2 (k_X12_refuses hm (by decide) (by decide)) m_X12_refuses zl_393 l_X12_100 (Nat.le_of_ble_eq_true rfl) ⟨Nat.le_of_ble_eq_true rfl, Nat.le_of_ble_eq_true rfl⟩ ⟨rfl, rfl⟩ dX12_lie_65 (fun r μ1 hp => ?_)
                obtain ⟨rfl, hv⟩ := hp
                replace hv := hv.symm
                subst hv
                exact z_iret dX12_lie_68 (by
          have e : spL (zBV (μ 394)) s b = (-2 - 1, zBV (μ 394)) := (zif_f hbad).trans (zif_t ⟨h_43, zTK_b.mpr ⟨i, h1, by omega, h_48, h_58⟩⟩)
          rw [show zLx (spL (zBV (μ 394)) s b).1 = -20 by rw [e]; rfl]
          exact zMbad hm e)
    exact L3 7 0 (by omega) (by omega) (fun j j0 j1 => by omega) (by omega)
  refine z_aload_0 dX12_lie_0 ?_
  refine z_iload_1 dX12_lie_1 ?_
  refine z_callV1 (k_X12_isSleeper hm) m_X12_isSleeper zl_393 l_X12_141 (Nat.le_of_ble_eq_true rfl) ⟨Nat.le_of_ble_eq_true rfl, Nat.le_of_ble_eq_true rfl⟩ ⟨rfl, rfl⟩ dX12_lie_2 (fun r μ1 hp => ?_)
  obtain ⟨rfl, hv⟩ := hp
  replace hv := hv.symm
  subst hv
  refine z_ifeq (tgt := 21) dX12_lie_5 (by decide) (fun h_5 => ?_) (fun h_5 => ?_)
  · replace h_5 := zb_0.mp h_5
    refine z_aload_0 dX12_lie_21 ?_
    refine z_iconst dX12_lie_22 (by decide) ?_
    refine z_bipush dX12_lie_23 (by decide) ?_
    refine z_callV2 (k_X12_refuses hm (by decide) (by decide)) m_X12_refuses zl_393 l_X12_100 (Nat.le_of_ble_eq_true rfl) ⟨Nat.le_of_ble_eq_true rfl, Nat.le_of_ble_eq_true rfl⟩ ⟨rfl, rfl⟩ dX12_lie_25 (fun r μ1 hp => ?_)
    obtain ⟨rfl, hv⟩ := hp
    replace hv := hv.symm
    subst hv
    exact z_iret dX12_lie_28 (by
      have e : spL (zBV (μ 394)) s b = (-2 - 0, zBV (μ 394)) := zif_t (by first | exact Or.inl h_5 | exact Or.inr ⟨h_10, h_18⟩)
      rw [show zLx (spL (zBV (μ 394)) s b).1 = -10 by rw [e]; rfl]
      exact zMbad hm e)
  · replace h_5 := zb_n.mp h_5
    refine z_iload_2 dX12_lie_8 ?_
    refine z_iconst dX12_lie_9 (by decide) ?_
    refine z_icmpeq (tgt := 29) dX12_lie_10 (by decide) (fun h_10 => ?_) (fun h_10 => ?_)
    · refine z_iconst dX12_lie_29 (by decide) ?_
      refine z_istore_3 rfl dX12_lie_30 ?_
      exact L4 (by rintro (q | q); exact q h_5; (first | exact q.1 (by assumption) | exact q.2 h_18)) h_5
    · refine z_aload_0 dX12_lie_13 ?_
      refine z_iload_2 dX12_lie_14 ?_
      refine z_callV1 (k_X12_isBed hm) m_X12_isBed zl_393 l_X12_144 (Nat.le_of_ble_eq_true rfl) ⟨Nat.le_of_ble_eq_true rfl, Nat.le_of_ble_eq_true rfl⟩ ⟨rfl, rfl⟩ dX12_lie_15 (fun r μ1 hp => ?_)
      obtain ⟨rfl, hv⟩ := hp
      replace hv := hv.symm
      subst hv
      refine z_ifne (tgt := 29) dX12_lie_18 (by decide) (fun h_18 => ?_) (fun h_18 => ?_)
      · replace h_18 := zb_n.mp h_18
        refine z_iconst dX12_lie_29 (by decide) ?_
        refine z_istore_3 rfl dX12_lie_30 ?_
        exact L4 (by rintro (q | q); exact q h_5; (first | exact q.1 (by assumption) | exact q.2 h_18)) h_5
      · replace h_18 := zb_0.mp h_18
        refine z_aload_0 dX12_lie_21 ?_
        refine z_iconst dX12_lie_22 (by decide) ?_
        refine z_bipush dX12_lie_23 (by decide) ?_
        refine z_callV2 (k_X12_refuses hm (by decide) (by decide)) m_X12_refuses zl_393 l_X12_100 (Nat.le_of_ble_eq_true rfl) ⟨Nat.le_of_ble_eq_true rfl, Nat.le_of_ble_eq_true rfl⟩ ⟨rfl, rfl⟩ dX12_lie_25 (fun r μ1 hp => ?_)
        obtain ⟨rfl, hv⟩ := hp
        replace hv := hv.symm
        subst hv
        exact z_iret dX12_lie_28 (by
      have e : spL (zBV (μ 394)) s b = (-2 - 0, zBV (μ 394)) := zif_t (by first | exact Or.inl h_5 | exact Or.inr ⟨h_10, h_18⟩)
      rw [show zLx (spL (zBV (μ 394)) s b).1 = -10 by rw [e]; rfl]
      exact zMbad hm e)
set_option maxRecDepth 100000 in
set_option maxHeartbeats 4000000 in
theorem k_X12_sound {l : Launch} {E : zE} {μ : zM} (hm : zMpre μ) {k x a b v : Int} : Ct l E yX12_sound cX12_sound 8 (some .int) ({ frames := 2, cells := 0, slots := 0, locals := 46 }) [zR 393, zI k, zI x, zI a, zI b, zI v] μ (fun r ν => zMp (spN (zBV (μ 394)) k x a b v) ((spN (zBV (μ 394)) k x a b v).1) μ r ν) := by
  refine Ct.of RX12 [zR 393, zI k, zI x, zI a, zI b, zI v, zU, zU] (by decide +kernel) rfl ⟨rfl, rfl⟩ rfl (Nat.le_of_ble_eq_true rfl) (fun X hX hc0 ha0 => ?_)
  subst hX
  obtain ⟨nb, nf, nd, np, ns, nr⟩ := zOK_b hm.1
  have hb9 := zOK_b hm.1
  have L3 : ∀ (P : Prop), (P ↔ (k = 0 ∧ 0 ≤ x ∧ x < 36) ∨ (k = 4 ∧ x = 0) ∨ (k ≠ 0 ∧ k ≠ 4 ∧ 0 ≤ x ∧ x < μ 394 2)) → MW X E cX12_sound RX12 ({ frames := 2, cells := 0, slots := 0, locals := 46 }) (some .int) (fun r ν => zMp (spN (zBV (μ 394)) k x a b v) ((spN (zBV (μ 394)) k x a b v).1) μ r ν) 33 [zR 393, zI k, zI x, zI a, zI b, zI v, zU, zU] [zI (zb P)] μ := by
    intro P hP
    refine z_istore_6 rfl dX12_sound_33 ?_
    refine z_iload_1 dX12_sound_35 ?_
    refine z_i2l dX12_sound_36 ?_
    refine z_lconst0 dX12_sound_37 ?_
    refine z_ldc2 (n := 4) k_X12_150 dX12_sound_38 (by decide +kernel) ?_
    refine z_callS3 (k_X12_in) m_X12_in l_X12_106 (Nat.le_of_ble_eq_true rfl) ⟨Nat.le_of_ble_eq_true rfl, Nat.le_of_ble_eq_true rfl⟩ ⟨rfl, rfl⟩ dX12_sound_41 (fun r μ1 hp => ?_)
    obtain ⟨rfl, hv⟩ := hp
    replace hv := hv.symm
    subst hv
    refine z_ifeq (tgt := 90) dX12_sound_44 (by decide) (fun h_44 => ?_) (fun h_44 => ?_)
    · replace h_44 := zb_0.mp h_44
      refine z_aload_0 dX12_sound_90 ?_
      refine z_callV0 (k_X12_bad hm) m_X12_bad zl_393 l_X12_117 (Nat.le_of_ble_eq_true rfl) ⟨Nat.le_of_ble_eq_true rfl, Nat.le_of_ble_eq_true rfl⟩ ⟨rfl, rfl⟩ dX12_sound_91 (fun r μ1 hp => ?_)
      obtain ⟨rfl, hv⟩ := hp
      replace hv := hv.symm
      subst hv
      exact z_iret dX12_sound_94 (zMbad1 (k := 0) hm (zif_t (by unfold zOf; rw [zBV_pc]; first | omega | (have q9 := mt hP.mpr h_49; omega) | (have q9 := hP.mp h_49; omega))) rfl)
    · replace h_44 := zb_n.mp h_44
      refine z_iload_6 dX12_sound_47 ?_
      refine z_ifeq (tgt := 90) dX12_sound_49 (by decide) (fun h_49 => ?_) (fun h_49 => ?_)
      · replace h_49 := zb_0.mp h_49
        refine z_aload_0 dX12_sound_90 ?_
        refine z_callV0 (k_X12_bad hm) m_X12_bad zl_393 l_X12_117 (Nat.le_of_ble_eq_true rfl) ⟨Nat.le_of_ble_eq_true rfl, Nat.le_of_ble_eq_true rfl⟩ ⟨rfl, rfl⟩ dX12_sound_91 (fun r μ1 hp => ?_)
        obtain ⟨rfl, hv⟩ := hp
        replace hv := hv.symm
        subst hv
        exact z_iret dX12_sound_94 (zMbad1 (k := 0) hm (zif_t (by unfold zOf; rw [zBV_pc]; first | omega | (have q9 := mt hP.mpr h_49; omega) | (have q9 := hP.mp h_49; omega))) rfl)
      · replace h_49 := zb_n.mp h_49
        refine z_iload_4 dX12_sound_52 ?_
        refine z_i2l dX12_sound_54 ?_
        refine z_lconst0 dX12_sound_55 ?_
        refine z_ldc2 (n := 39) k_X12_139 dX12_sound_56 (by decide +kernel) ?_
        refine z_callS3 (k_X12_in) m_X12_in l_X12_106 (Nat.le_of_ble_eq_true rfl) ⟨Nat.le_of_ble_eq_true rfl, Nat.le_of_ble_eq_true rfl⟩ ⟨rfl, rfl⟩ dX12_sound_59 (fun r μ1 hp => ?_)
        obtain ⟨rfl, hv⟩ := hp
        replace hv := hv.symm
        subst hv
        refine z_ifeq (tgt := 90) dX12_sound_62 (by decide) (fun h_62 => ?_) (fun h_62 => ?_)
        · replace h_62 := zb_0.mp h_62
          refine z_aload_0 dX12_sound_90 ?_
          refine z_callV0 (k_X12_bad hm) m_X12_bad zl_393 l_X12_117 (Nat.le_of_ble_eq_true rfl) ⟨Nat.le_of_ble_eq_true rfl, Nat.le_of_ble_eq_true rfl⟩ ⟨rfl, rfl⟩ dX12_sound_91 (fun r μ1 hp => ?_)
          obtain ⟨rfl, hv⟩ := hp
          replace hv := hv.symm
          subst hv
          exact z_iret dX12_sound_94 (zMbad1 (k := 0) hm (zif_t (by unfold zOf; rw [zBV_pc]; first | omega | (have q9 := mt hP.mpr h_49; omega) | (have q9 := hP.mp h_49; omega))) rfl)
        · replace h_62 := zb_n.mp h_62
          refine z_iload_3 dX12_sound_65 ?_
          refine z_i2l dX12_sound_66 ?_
          refine z_lconst0 dX12_sound_67 ?_
          refine z_iload_4 dX12_sound_68 ?_
          refine z_i2l dX12_sound_70 ?_
          refine z_callS3 (k_X12_in) m_X12_in l_X12_106 (Nat.le_of_ble_eq_true rfl) ⟨Nat.le_of_ble_eq_true rfl, Nat.le_of_ble_eq_true rfl⟩ ⟨rfl, rfl⟩ dX12_sound_71 (fun r μ1 hp => ?_)
          obtain ⟨rfl, hv⟩ := hp
          replace hv := hv.symm
          subst hv
          refine z_ifeq (tgt := 90) dX12_sound_74 (by decide) (fun h_74 => ?_) (fun h_74 => ?_)
          · replace h_74 := zb_0.mp h_74
            refine z_aload_0 dX12_sound_90 ?_
            refine z_callV0 (k_X12_bad hm) m_X12_bad zl_393 l_X12_117 (Nat.le_of_ble_eq_true rfl) ⟨Nat.le_of_ble_eq_true rfl, Nat.le_of_ble_eq_true rfl⟩ ⟨rfl, rfl⟩ dX12_sound_91 (fun r μ1 hp => ?_)
            obtain ⟨rfl, hv⟩ := hp
            replace hv := hv.symm
            subst hv
            exact z_iret dX12_sound_94 (zMbad1 (k := 0) hm (zif_t (by unfold zOf; rw [zBV_pc]; first | omega | (have q9 := mt hP.mpr h_49; omega) | (have q9 := hP.mp h_49; omega))) rfl)
          · replace h_74 := zb_n.mp h_74
            refine z_iload_5 dX12_sound_77 ?_
            refine z_i2l dX12_sound_79 ?_
            refine z_lconst0 dX12_sound_80 ?_
            refine z_ldc2 (n := 60) k_X12_137 dX12_sound_81 (by decide +kernel) ?_
            refine z_callS3 (k_X12_in) m_X12_in l_X12_106 (Nat.le_of_ble_eq_true rfl) ⟨Nat.le_of_ble_eq_true rfl, Nat.le_of_ble_eq_true rfl⟩ ⟨rfl, rfl⟩ dX12_sound_84 (fun r μ1 hp => ?_)
            obtain ⟨rfl, hv⟩ := hp
            replace hv := hv.symm
            subst hv
            refine z_ifne (tgt := 95) dX12_sound_87 (by decide) (fun h_87 => ?_) (fun h_87 => ?_)
            · replace h_87 := zb_n.mp h_87
              refine z_aload_0 dX12_sound_95 ?_
              refine z_getF 394 1 rfl f_X12_7 zl_393 rfl rfl dX12_sound_96 ?_
              refine z_iconst dX12_sound_99 (by decide) ?_
              refine z_iald zl_394 (by omega) (by omega) dX12_sound_100 ?_
              refine z_bipush dX12_sound_101 (by decide) ?_
              refine z_icmpne (tgt := 111) dX12_sound_103 (by decide) (fun h_103 => ?_) (fun h_103 => ?_)
              · refine z_bipush dX12_sound_111 (by decide) ?_
                refine z_iconst dX12_sound_113 (by decide) ?_
                refine z_aload_0 dX12_sound_114 ?_
                refine z_getF 394 1 rfl f_X12_7 zl_393 rfl rfl dX12_sound_115 ?_
                refine z_iconst dX12_sound_118 (by decide) ?_
                refine z_iald zl_394 (by omega) (by omega) dX12_sound_119 ?_
                refine z_imul dX12_sound_120 (by omega) ?_
                refine z_iadd dX12_sound_121 (by omega) ?_
                refine z_istore_7 rfl dX12_sound_122 ?_
                refine z_aload_0 dX12_sound_124 ?_
                refine z_getF 394 1 rfl f_X12_7 zl_393 rfl rfl dX12_sound_125 ?_
                refine z_iload_7 dX12_sound_128 ?_
                refine z_iload_1 dX12_sound_130 ?_
                refine z_iast zl_394 (by omega) (by omega) dX12_sound_131 ?_
                refine z_aload_0 dX12_sound_132 ?_
                refine z_getF 394 1 rfl f_X12_7 zl_393 rfl rfl dX12_sound_133 ?_
                refine z_iload_7 dX12_sound_136 ?_
                refine z_iconst dX12_sound_138 (by decide) ?_
                refine z_iadd dX12_sound_139 (by omega) ?_
                refine z_iload_2 dX12_sound_140 ?_
                refine z_iast zl_394 (by omega) (by omega) dX12_sound_141 ?_
                refine z_aload_0 dX12_sound_142 ?_
                refine z_getF 394 1 rfl f_X12_7 zl_393 rfl rfl dX12_sound_143 ?_
                refine z_iload_7 dX12_sound_146 ?_
                refine z_iconst dX12_sound_148 (by decide) ?_
                refine z_iadd dX12_sound_149 (by omega) ?_
                refine z_iload_3 dX12_sound_150 ?_
                refine z_iast zl_394 (by omega) (by omega) dX12_sound_151 ?_
                refine z_aload_0 dX12_sound_152 ?_
                refine z_getF 394 1 rfl f_X12_7 zl_393 rfl rfl dX12_sound_153 ?_
                refine z_iload_7 dX12_sound_156 ?_
                refine z_iconst dX12_sound_158 (by decide) ?_
                refine z_iadd dX12_sound_159 (by omega) ?_
                refine z_iload_4 dX12_sound_160 ?_
                refine z_iast zl_394 (by omega) (by omega) dX12_sound_162 ?_
                refine z_aload_0 dX12_sound_163 ?_
                refine z_getF 394 1 rfl f_X12_7 zl_393 rfl rfl dX12_sound_164 ?_
                refine z_iload_7 dX12_sound_167 ?_
                refine z_iconst dX12_sound_169 (by decide) ?_
                refine z_iadd dX12_sound_170 (by omega) ?_
                refine z_iload_5 dX12_sound_171 ?_
                refine z_iast zl_394 (by omega) (by omega) dX12_sound_173 ?_
                refine z_aload_0 dX12_sound_174 ?_
                refine z_getF 394 1 rfl f_X12_7 zl_393 rfl rfl dX12_sound_175 ?_
                refine z_iconst dX12_sound_178 (by decide) ?_
                refine z_dup2 dX12_sound_179 rfl rfl ?_
                refine z_iald zl_394 (by omega) (by omega) dX12_sound_180 ?_
                repeat (rw [zup_ne (Or.inr (by omega))])
                refine z_iconst dX12_sound_181 (by decide) ?_
                refine z_iadd dX12_sound_182 (by omega) ?_
                refine z_iast zl_394 (by omega) (by omega) dX12_sound_183 ?_
                refine z_aload_0 dX12_sound_184 ?_
                refine z_getF 394 1 rfl f_X12_7 zl_393 rfl rfl dX12_sound_185 ?_
                refine z_iconst dX12_sound_188 (by decide) ?_
                refine z_iald zl_394 (by omega) (by omega) dX12_sound_189 ?_
                rw [zup_eq]
                refine z_iconst dX12_sound_190 (by decide) ?_
                refine z_isub dX12_sound_191 (by omega) ?_
                exact z_iret dX12_sound_192 (by rw [show μ 394 3 + 1 - 1 = μ 394 3 by omega]; exact zMok1 ((zif_f (by unfold zOf; rw [zBV_pc]; have q9 := hP.mp h_49; omega)).trans (zif_f (by rw [zBV_sc]; omega))) (by omega) (by simp only [zup_fu]; exact zBV_s hb9 rfl (by omega)) (by simp only [zup_fu]; (repeat (rw [zfu_n (by omega)])); exact hm.2.1) (fun x hx => by repeat (rw [zup_row hx])))
              · refine z_aload_0 dX12_sound_106 ?_
                refine z_callV0 (k_X12_full hm) m_X12_full zl_393 l_X12_134 (Nat.le_of_ble_eq_true rfl) ⟨Nat.le_of_ble_eq_true rfl, Nat.le_of_ble_eq_true rfl⟩ ⟨rfl, rfl⟩ dX12_sound_107 (fun r μ1 hp => ?_)
                obtain ⟨rfl, hv⟩ := hp
                replace hv := hv.symm
                subst hv
                exact z_iret dX12_sound_110 (zMbad1 (k := 2) hm ((zif_f (by unfold zOf; rw [zBV_pc]; have q9 := hP.mp h_49; omega)).trans (zif_t (by rw [zBV_sc]; omega))) rfl)
            · replace h_87 := zb_0.mp h_87
              refine z_aload_0 dX12_sound_90 ?_
              refine z_callV0 (k_X12_bad hm) m_X12_bad zl_393 l_X12_117 (Nat.le_of_ble_eq_true rfl) ⟨Nat.le_of_ble_eq_true rfl, Nat.le_of_ble_eq_true rfl⟩ ⟨rfl, rfl⟩ dX12_sound_91 (fun r μ1 hp => ?_)
              obtain ⟨rfl, hv⟩ := hp
              replace hv := hv.symm
              subst hv
              exact z_iret dX12_sound_94 (zMbad1 (k := 0) hm (zif_t (by unfold zOf; rw [zBV_pc]; first | omega | (have q9 := mt hP.mpr h_49; omega) | (have q9 := hP.mp h_49; omega))) rfl)
  refine z_iload_1 dX12_sound_0 ?_
  refine z_ifne (tgt := 11) dX12_sound_1 (by decide) (fun h_1 => ?_) (fun h_1 => ?_)
  · refine z_iload_1 dX12_sound_11 ?_
    refine z_iconst dX12_sound_12 (by decide) ?_
    refine z_icmpne (tgt := 28) dX12_sound_13 (by decide) (fun h_13 => ?_) (fun h_13 => ?_)
    · refine z_aload_0 dX12_sound_28 ?_
      refine z_iload_2 dX12_sound_29 ?_
      refine z_callV1 (k_X12_isSleeper hm) m_X12_isSleeper zl_393 l_X12_141 (Nat.le_of_ble_eq_true rfl) ⟨Nat.le_of_ble_eq_true rfl, Nat.le_of_ble_eq_true rfl⟩ ⟨rfl, rfl⟩ dX12_sound_30 (fun r μ1 hp => ?_)
      obtain ⟨rfl, hv⟩ := hp
      replace hv := hv.symm
      subst hv
      first | exact L3 _ (by omega) | exact z_eqs (L3 True ⟨fun _ => by omega, fun _ => trivial⟩) rfl rfl (by rw [zb_t trivial]) rfl | exact z_eqs (L3 False ⟨fun q => q.elim, fun q => by omega⟩) rfl rfl (by rw [zb_f (fun q => q)]) rfl
    · refine z_iload_2 dX12_sound_16 ?_
      refine z_ifne (tgt := 24) dX12_sound_17 (by decide) (fun h_17 => ?_) (fun h_17 => ?_)
      · refine z_iconst dX12_sound_24 (by decide) ?_
        refine z_goto (tgt := 33) dX12_sound_25 (by decide) ?_
        first | exact L3 _ (by omega) | exact z_eqs (L3 True ⟨fun _ => by omega, fun _ => trivial⟩) rfl rfl (by rw [zb_t trivial]) rfl | exact z_eqs (L3 False ⟨fun q => q.elim, fun q => by omega⟩) rfl rfl (by rw [zb_f (fun q => q)]) rfl
      · refine z_iconst dX12_sound_20 (by decide) ?_
        refine z_goto (tgt := 33) dX12_sound_21 (by decide) ?_
        first | exact L3 _ (by omega) | exact z_eqs (L3 True ⟨fun _ => by omega, fun _ => trivial⟩) rfl rfl (by rw [zb_t trivial]) rfl | exact z_eqs (L3 False ⟨fun q => q.elim, fun q => by omega⟩) rfl rfl (by rw [zb_f (fun q => q)]) rfl
  · refine z_iload_2 dX12_sound_4 ?_
    refine z_callS1 (k_X12_isCell) m_X12_isCell l_X12_110 (Nat.le_of_ble_eq_true rfl) ⟨Nat.le_of_ble_eq_true rfl, Nat.le_of_ble_eq_true rfl⟩ ⟨rfl, rfl⟩ dX12_sound_5 (fun r μ1 hp => ?_)
    obtain ⟨rfl, hv⟩ := hp
    replace hv := hv.symm
    subst hv
    refine z_goto (tgt := 33) dX12_sound_8 (by decide) ?_
    first | exact L3 _ (by omega) | exact z_eqs (L3 True ⟨fun _ => by omega, fun _ => trivial⟩) rfl rfl (by rw [zb_t trivial]) rfl | exact z_eqs (L3 False ⟨fun q => q.elim, fun q => by omega⟩) rfl rfl (by rw [zb_f (fun q => q)]) rfl
