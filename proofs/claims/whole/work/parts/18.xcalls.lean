/-! THE CLASS'S CALLS OF THE HOUSE -/
def zXpre (μ : zM) : Prop := zOK (zHV μ 1) ∧ ∀ j, 0 ≤ j → j < 3 → 0 ≤ μ 348 j ∧ μ 348 j ≤ 100000
/-- an answer is counted where it is a refusal -/
noncomputable def zCt (μ : zM) (a : Int) : zM := zif (a = -2 ∨ a = -3 ∨ a = -4) (zup μ 348 (-2 - a) (μ 348 (-2 - a) + 1)) μ
def zXp (sp : Int × zM) (z : Int) (μ : zM) (r : Option zAV) (ν : zM) : Prop := r = some (zI z) ∧ zHV ν 1 = sp.2 ∧ (∀ j, 0 ≤ j → j < 3 → ν 348 j = μ 348 j + zRk 0 sp.1 j) ∧ ∀ a, (a < 1 ∨ 23 ≤ a) → a ≠ 348 → ν a = μ a
theorem zCt_348 {μ : zM} {a j : Int} (h0 : 0 ≤ j) (h1 : j < 3) : zCt μ a 348 j = μ 348 j + zRk 0 a j := by
  unfold zCt zRk
  by_cases h : a = -2 ∨ a = -3 ∨ a = -4
  · rw [zif_t h, zup_ap]
    by_cases q : j = -2 - a
    · rw [if_pos ⟨rfl, q⟩, if_pos ⟨rfl, by omega⟩, q]
    · rw [if_neg (fun r => q r.2), if_neg (fun r => q (by omega)), Int.add_zero]
  · rw [zif_f h, if_neg (fun r => h (by omega)), Int.add_zero]
theorem zCt_o {μ : zM} {a : Int} {x : Nat} (h : x ≠ 348) : zCt μ a x = μ x := by
  unfold zCt
  rcases Classical.em (a = -2 ∨ a = -3 ∨ a = -4) with q | q
  · rw [zif_t q, zup_row h]
  · rw [zif_f q]
theorem zXc {sp : Int × zM} {μ μ1 : zM} {lo n : Nat} (w1 : zHV μ1 1 = sp.2) (w2 : zFr lo n μ μ1) (h0 : 1 ≤ lo) (h1 : lo + n ≤ 23) : zXp sp sp.1 μ (some (zI sp.1)) (zCt μ1 sp.1) := by
  have hf : zFr 348 1 μ1 (zCt μ1 sp.1) := fun a ha => zCt_o (by omega)
  refine ⟨rfl, (zHV_fr hf (by omega)).trans w1, fun j j0 j1 => ?_, fun a ha hb => ?_⟩
  · rw [zCt_348 j0 j1, w2 348 (by omega)]
  · rw [zCt_o hb, w2 a (by omega)]
theorem zXbad {sp : Int × zM} {μ : zM} {z c : Int} (e : sp = (c, zHV μ 1)) (hc : c = -2 ∨ c = -3 ∨ c = -4) : zXp sp z μ (some (zI z)) (zup μ 348 (-2 - c) (μ 348 (-2 - c) + 1)) := by
  subst e
  have hf : zFr 348 1 μ (zup μ 348 (-2 - c) (μ 348 (-2 - c) + 1)) := zFr_up (by omega) (by omega)
  refine ⟨rfl, zHV_fr hf (by omega), fun j j0 j1 => ?_, fun a ha hb => zup_row hb⟩
  have e : zup μ 348 (-2 - c) (μ 348 (-2 - c) + 1) = zCt μ c := by unfold zCt; rw [zif_t hc]
  rw [e, zCt_348 j0 j1]
theorem zXok {sp : Int × zM} {μ μ1 : zM} {z : Int} {V2 : zM} {lo n : Nat} (e : sp = (z, V2)) (hz : -1 ≤ z) (w1 : zHV μ1 1 = V2) (w2 : zFr lo n μ μ1) (h0 : 1 ≤ lo) (h1 : lo + n ≤ 23) : zXp sp sp.1 μ (some (zI z)) μ1 := by
  subst e
  refine ⟨rfl, w1, fun j j0 j1 => ?_, fun a ha hb => w2 a (by omega)⟩
  rw [w2 348 (by omega)]
  unfold zRk
  rw [if_neg (by intro r; have := r.2; dsimp only at this; omega), Int.add_zero]
set_option maxRecDepth 100000 in
set_option maxHeartbeats 4000000 in
theorem k_X11_refused {l : Launch} {E : zE} {μ : zM} {c v : Int} (hc : c = -2 ∨ c = -3 ∨ c = -4) (hb : ∀ j, 0 ≤ j → j < 3 → 0 ≤ μ 348 j ∧ μ 348 j ≤ 100000) : Ct l E yX11_refused cX11_refused 4 (some .int) ({ frames := 1, cells := 0, slots := 0, locals := 22 }) [zR 0, zI c, zI v] μ (fun r ν => r = some (zI v) ∧ ν = zup μ 348 (-2 - c) (μ 348 (-2 - c) + 1)) := by
  refine Ct.of RX11 [zR 0, zI c, zI v, zU] (by decide +kernel) rfl ⟨rfl, rfl⟩ rfl (Nat.le_of_ble_eq_true rfl) (fun X hX hc0 ha0 => ?_)
  subst hX
  have hb2 := hb (-2 - c) (by omega) (by omega)
  refine z_bipush dX11_refused_0 (by decide) ?_
  refine z_iload_1 dX11_refused_2 ?_
  refine z_isub dX11_refused_3 (by omega) ?_
  refine z_istore_3 rfl dX11_refused_4 ?_
  refine z_iload_3 dX11_refused_5 ?_
  refine z_iconst dX11_refused_6 (by decide) ?_
  refine z_aload_0 dX11_refused_7 ?_
  refine z_getF 348 348 rfl f_X11_66 zl_0 rfl rfl dX11_refused_8 ?_
  refine z_alen (Or.inl zl_348) (by decide) dX11_refused_11 ?_
  refine z_iconst dX11_refused_12 (by decide) ?_
  refine z_isub dX11_refused_13 (by omega) ?_
  refine z_callS3 (k_X11_isIn) m_X11_isIn l_X11_174 (Nat.le_of_ble_eq_true rfl) ⟨Nat.le_of_ble_eq_true rfl, Nat.le_of_ble_eq_true rfl⟩ ⟨rfl, rfl⟩ dX11_refused_14 (fun r μ1 hp => ?_)
  obtain ⟨rfl, hv⟩ := hp
  replace hv := hv.symm
  subst hv
  refine z_ifeq (tgt := 30) dX11_refused_17 (by decide) (fun h_17 => ?_) (fun h_17 => ?_)
  · replace h_17 := zb_0.mp h_17
    exact absurd (by omega) h_17
  · replace h_17 := zb_n.mp h_17
    refine z_aload_0 dX11_refused_20 ?_
    refine z_getF 348 348 rfl f_X11_66 zl_0 rfl rfl dX11_refused_21 ?_
    refine z_iload_3 dX11_refused_24 ?_
    refine z_dup2 dX11_refused_25 rfl rfl ?_
    refine z_iald zl_348 (by omega) (by omega) dX11_refused_26 ?_
    refine z_iconst dX11_refused_27 (by decide) ?_
    refine z_iadd dX11_refused_28 (by omega) ?_
    refine z_iast zl_348 (by omega) (by omega) dX11_refused_29 ?_
    refine z_iload_2 dX11_refused_30 ?_
    exact z_iret dX11_refused_31 (⟨rfl, rfl⟩)
set_option maxRecDepth 100000 in
set_option maxHeartbeats 4000000 in
theorem k_X11_counted {l : Launch} {E : zE} {μ : zM} {a : Int} (hb : ∀ j, 0 ≤ j → j < 3 → 0 ≤ μ 348 j ∧ μ 348 j ≤ 100000) : Ct l E yX11_counted cX11_counted 2 (some .int) ({ frames := 2, cells := 0, slots := 0, locals := 45 }) [zR 0, zI a] μ (fun r ν => r = some (zI a) ∧ ν = zCt μ a) := by
  refine Ct.of RX11 [zR 0, zI a] (by decide +kernel) rfl ⟨rfl, rfl⟩ rfl (Nat.le_of_ble_eq_true rfl) (fun X hX hc0 ha0 => ?_)
  subst hX
  refine z_iload_1 dX11_counted_0 ?_
  refine z_bipush dX11_counted_1 (by decide) ?_
  refine z_icmpeq (tgt := 18) dX11_counted_3 (by decide) (fun h_3 => ?_) (fun h_3 => ?_)
  · refine z_aload_0 dX11_counted_18 ?_
    refine z_iload_1 dX11_counted_19 ?_
    refine z_iload_1 dX11_counted_20 ?_
    refine z_callV2 (k_X11_refused (by omega) hb) m_X11_refused zl_0 l_X11_116 (Nat.le_of_ble_eq_true rfl) ⟨Nat.le_of_ble_eq_true rfl, Nat.le_of_ble_eq_true rfl⟩ ⟨rfl, rfl⟩ dX11_counted_21 (fun r μ1 hp => ?_)
    obtain ⟨rfl, hv⟩ := hp
    replace hv := hv.symm
    subst hv
    refine z_goto (tgt := 28) dX11_counted_24 (by decide) ?_
    exact z_iret dX11_counted_28 (by unfold zCt; first | rw [zif_t (by omega)]; exact ⟨rfl, rfl⟩ | rw [zif_f (by omega)]; exact ⟨rfl, rfl⟩)
  · refine z_iload_1 dX11_counted_6 ?_
    refine z_bipush dX11_counted_7 (by decide) ?_
    refine z_icmpeq (tgt := 18) dX11_counted_9 (by decide) (fun h_9 => ?_) (fun h_9 => ?_)
    · refine z_aload_0 dX11_counted_18 ?_
      refine z_iload_1 dX11_counted_19 ?_
      refine z_iload_1 dX11_counted_20 ?_
      refine z_callV2 (k_X11_refused (by omega) hb) m_X11_refused zl_0 l_X11_116 (Nat.le_of_ble_eq_true rfl) ⟨Nat.le_of_ble_eq_true rfl, Nat.le_of_ble_eq_true rfl⟩ ⟨rfl, rfl⟩ dX11_counted_21 (fun r μ1 hp => ?_)
      obtain ⟨rfl, hv⟩ := hp
      replace hv := hv.symm
      subst hv
      refine z_goto (tgt := 28) dX11_counted_24 (by decide) ?_
      exact z_iret dX11_counted_28 (by unfold zCt; first | rw [zif_t (by omega)]; exact ⟨rfl, rfl⟩ | rw [zif_f (by omega)]; exact ⟨rfl, rfl⟩)
    · refine z_iload_1 dX11_counted_12 ?_
      refine z_bipush dX11_counted_13 (by decide) ?_
      refine z_icmpne (tgt := 27) dX11_counted_15 (by decide) (fun h_15 => ?_) (fun h_15 => ?_)
      · refine z_iload_1 dX11_counted_27 ?_
        exact z_iret dX11_counted_28 (by unfold zCt; first | rw [zif_t (by omega)]; exact ⟨rfl, rfl⟩ | rw [zif_f (by omega)]; exact ⟨rfl, rfl⟩)
      · refine z_aload_0 dX11_counted_18 ?_
        refine z_iload_1 dX11_counted_19 ?_
        refine z_iload_1 dX11_counted_20 ?_
        refine z_callV2 (k_X11_refused (by omega) hb) m_X11_refused zl_0 l_X11_116 (Nat.le_of_ble_eq_true rfl) ⟨Nat.le_of_ble_eq_true rfl, Nat.le_of_ble_eq_true rfl⟩ ⟨rfl, rfl⟩ dX11_counted_21 (fun r μ1 hp => ?_)
        obtain ⟨rfl, hv⟩ := hp
        replace hv := hv.symm
        subst hv
        refine z_goto (tgt := 28) dX11_counted_24 (by decide) ?_
        exact z_iret dX11_counted_28 (by unfold zCt; first | rw [zif_t (by omega)]; exact ⟨rfl, rfl⟩ | rw [zif_f (by omega)]; exact ⟨rfl, rfl⟩)
set_option maxRecDepth 100000 in
set_option maxHeartbeats 4000000 in
theorem k_X11_wall {l : Launch} {E : zE} {μ : zM} (hm : zXpre μ) {c s : Int} (hs : s = 0 ∨ s = 1) : Ct l E yX11_wall cX11_wall 3 (some .int) ({ frames := 3, cells := 0, slots := 0, locals := 66 }) [zR 0, zI c, zI s] μ (fun r ν => zXp (spW (zHV μ 1) c s) ((spW (zHV μ 1) c s).1) μ r ν) := by
  refine Ct.of RX11 [zR 0, zI c, zI s] (by decide +kernel) rfl ⟨rfl, rfl⟩ rfl (Nat.le_of_ble_eq_true rfl) (fun X hX hc0 ha0 => ?_)
  subst hX
  refine z_aload_0 dX11_wall_0 ?_
  refine z_aload_0 dX11_wall_1 ?_
  refine z_getF 1 1 rfl f_X11_10 zl_0 rfl rfl dX11_wall_2 ?_
  refine z_getF 2 1 rfl f_X11_76 zl_1 rfl rfl dX11_wall_5 ?_
  refine z_iload_1 dX11_wall_8 ?_
  refine z_iload_2 dX11_wall_9 ?_
  refine z_callV2 (k_X1_setWall (h := 1) zq2_1 hm.1 hs) m_X1_setWall zl_2 l_X11_80 (Nat.le_of_ble_eq_true rfl) ⟨Nat.le_of_ble_eq_true rfl, Nat.le_of_ble_eq_true rfl⟩ ⟨rfl, rfl⟩ dX11_wall_10 (fun r μ1 hp => ?_)
  obtain ⟨rfl, w1, w2⟩ := hp
  have hb1 : ∀ j, 0 ≤ j → j < 3 → 0 ≤ μ1 348 j ∧ μ1 348 j ≤ 100000 := by rw [w2 348 (by omega)]; exact hm.2
  refine z_callV1 (k_X11_counted hb1) m_X11_counted zl_0 l_X11_86 (Nat.le_of_ble_eq_true rfl) ⟨Nat.le_of_ble_eq_true rfl, Nat.le_of_ble_eq_true rfl⟩ ⟨rfl, rfl⟩ dX11_wall_13 (fun r μ1 hp => ?_)
  obtain ⟨rfl, hv⟩ := hp
  replace hv := hv.symm
  subst hv
  exact z_iret dX11_wall_16 (zXc w1 w2 (by omega) (by omega))
set_option maxRecDepth 100000 in
set_option maxHeartbeats 4000000 in
theorem k_X11_board {l : Launch} {E : zE} {μ : zM} (hm : zXpre μ) {c s : Int} : Ct l E yX11_board cX11_board 3 (some .int) ({ frames := 3, cells := 0, slots := 0, locals := 66 }) [zR 0, zI c, zI s] μ (fun r ν => zXp (spC (zHV μ 1) c s) ((spC (zHV μ 1) c s).1) μ r ν) := by
  refine Ct.of RX11 [zR 0, zI c, zI s] (by decide +kernel) rfl ⟨rfl, rfl⟩ rfl (Nat.le_of_ble_eq_true rfl) (fun X hX hc0 ha0 => ?_)
  subst hX
  refine z_aload_0 dX11_board_0 ?_
  refine z_aload_0 dX11_board_1 ?_
  refine z_getF 1 1 rfl f_X11_10 zl_0 rfl rfl dX11_board_2 ?_
  refine z_getF 2 1 rfl f_X11_76 zl_1 rfl rfl dX11_board_5 ?_
  refine z_iload_1 dX11_board_8 ?_
  refine z_iload_2 dX11_board_9 ?_
  refine z_callV2 (k_X1_setCreak (h := 1) zq2_1 hm.1) m_X1_setCreak zl_2 l_X11_90 (Nat.le_of_ble_eq_true rfl) ⟨Nat.le_of_ble_eq_true rfl, Nat.le_of_ble_eq_true rfl⟩ ⟨rfl, rfl⟩ dX11_board_10 (fun r μ1 hp => ?_)
  obtain ⟨rfl, w1, w2⟩ := hp
  have hb1 : ∀ j, 0 ≤ j → j < 3 → 0 ≤ μ1 348 j ∧ μ1 348 j ≤ 100000 := by rw [w2 348 (by omega)]; exact hm.2
  refine z_callV1 (k_X11_counted hb1) m_X11_counted zl_0 l_X11_86 (Nat.le_of_ble_eq_true rfl) ⟨Nat.le_of_ble_eq_true rfl, Nat.le_of_ble_eq_true rfl⟩ ⟨rfl, rfl⟩ dX11_board_13 (fun r μ1 hp => ?_)
  obtain ⟨rfl, hv⟩ := hp
  replace hv := hv.symm
  subst hv
  exact z_iret dX11_board_16 (zXc w1 w2 (by omega) (by omega))
set_option maxRecDepth 100000 in
set_option maxHeartbeats 4000000 in
theorem k_X11_bed {l : Launch} {E : zE} {μ : zM} (hm : zXpre μ) {c : Int} : Ct l E yX11_bed cX11_bed 2 (some .int) ({ frames := 3, cells := 0, slots := 0, locals := 66 }) [zR 0, zI c] μ (fun r ν => zXp (spB (zHV μ 1) c) ((spB (zHV μ 1) c).1) μ r ν) := by
  refine Ct.of RX11 [zR 0, zI c] (by decide +kernel) rfl ⟨rfl, rfl⟩ rfl (Nat.le_of_ble_eq_true rfl) (fun X hX hc0 ha0 => ?_)
  subst hX
  refine z_aload_0 dX11_bed_0 ?_
  refine z_aload_0 dX11_bed_1 ?_
  refine z_getF 1 1 rfl f_X11_10 zl_0 rfl rfl dX11_bed_2 ?_
  refine z_getF 2 1 rfl f_X11_76 zl_1 rfl rfl dX11_bed_5 ?_
  refine z_iload_1 dX11_bed_8 ?_
  refine z_callV1 (k_X1_addBed (h := 1) zq2_1 hm.1) m_X1_addBed zl_2 l_X11_100 (Nat.le_of_ble_eq_true rfl) ⟨Nat.le_of_ble_eq_true rfl, Nat.le_of_ble_eq_true rfl⟩ ⟨rfl, rfl⟩ dX11_bed_9 (fun r μ1 hp => ?_)
  obtain ⟨rfl, w1, w2⟩ := hp
  have hb1 : ∀ j, 0 ≤ j → j < 3 → 0 ≤ μ1 348 j ∧ μ1 348 j ≤ 100000 := by rw [w2 348 (by omega)]; exact hm.2
  refine z_callV1 (k_X11_counted hb1) m_X11_counted zl_0 l_X11_86 (Nat.le_of_ble_eq_true rfl) ⟨Nat.le_of_ble_eq_true rfl, Nat.le_of_ble_eq_true rfl⟩ ⟨rfl, rfl⟩ dX11_bed_12 (fun r μ1 hp => ?_)
  obtain ⟨rfl, hv⟩ := hp
  replace hv := hv.symm
  subst hv
  exact z_iret dX11_bed_15 (zXc w1 w2 (by omega) (by omega))
set_option maxRecDepth 100000 in
set_option maxHeartbeats 4000000 in
theorem k_X11_sleeper {l : Launch} {E : zE} {μ : zM} (hm : zXpre μ) {a b c d e : Int} : Ct l E yX11_sleeper cX11_sleeper 6 (some .int) ({ frames := 3, cells := 0, slots := 0, locals := 66 }) [zR 0, zI a, zI b, zI c, zI d, zI e] μ (fun r ν => zXp (spS (zHV μ 1) a b c d e) ((spS (zHV μ 1) a b c d e).1) μ r ν) := by
  refine Ct.of RX11 [zR 0, zI a, zI b, zI c, zI d, zI e] (by decide +kernel) rfl ⟨rfl, rfl⟩ rfl (Nat.le_of_ble_eq_true rfl) (fun X hX hc0 ha0 => ?_)
  subst hX
  refine z_aload_0 dX11_sleeper_0 ?_
  refine z_aload_0 dX11_sleeper_1 ?_
  refine z_getF 1 1 rfl f_X11_10 zl_0 rfl rfl dX11_sleeper_2 ?_
  refine z_getF 6 5 rfl f_X11_103 zl_1 rfl rfl dX11_sleeper_5 ?_
  refine z_iload_1 dX11_sleeper_8 ?_
  refine z_iload_2 dX11_sleeper_9 ?_
  refine z_iload_3 dX11_sleeper_10 ?_
  refine z_iload_4 dX11_sleeper_11 ?_
  refine z_iload_5 dX11_sleeper_13 ?_
  refine z_callV5 (k_X5_add (h := 1) zq2_1 hm.1) m_X5_add zl_6 l_X11_107 (Nat.le_of_ble_eq_true rfl) ⟨Nat.le_of_ble_eq_true rfl, Nat.le_of_ble_eq_true rfl⟩ ⟨rfl, rfl⟩ dX11_sleeper_15 (fun r μ1 hp => ?_)
  obtain ⟨rfl, w1, w2⟩ := hp
  have hb1 : ∀ j, 0 ≤ j → j < 3 → 0 ≤ μ1 348 j ∧ μ1 348 j ≤ 100000 := by rw [w2 348 (by omega)]; exact hm.2
  refine z_callV1 (k_X11_counted hb1) m_X11_counted zl_0 l_X11_86 (Nat.le_of_ble_eq_true rfl) ⟨Nat.le_of_ble_eq_true rfl, Nat.le_of_ble_eq_true rfl⟩ ⟨rfl, rfl⟩ dX11_sleeper_18 (fun r μ1 hp => ?_)
  obtain ⟨rfl, hv⟩ := hp
  replace hv := hv.symm
  subst hv
  exact z_iret dX11_sleeper_21 (zXc w1 w2 (by omega) (by omega))
set_option maxRecDepth 100000 in
set_option maxHeartbeats 4000000 in
theorem k_X11_sound {l : Launch} {E : zE} {μ : zM} (hm : zXpre μ) {k x a b v : Int} : Ct l E yX11_sound cX11_sound 6 (some .int) ({ frames := 3, cells := 0, slots := 0, locals := 72 }) [zR 0, zI k, zI x, zI a, zI b, zI v] μ (fun r ν => zXp (spN (zHV μ 1) k x a b v) ((spN (zHV μ 1) k x a b v).1) μ r ν) := by
  refine Ct.of RX11 [zR 0, zI k, zI x, zI a, zI b, zI v] (by decide +kernel) rfl ⟨rfl, rfl⟩ rfl (Nat.le_of_ble_eq_true rfl) (fun X hX hc0 ha0 => ?_)
  subst hX
  refine z_aload_0 dX11_sound_0 ?_
  refine z_aload_0 dX11_sound_1 ?_
  refine z_getF 1 1 rfl f_X11_10 zl_0 rfl rfl dX11_sound_2 ?_
  refine z_iload_1 dX11_sound_5 ?_
  refine z_iload_2 dX11_sound_6 ?_
  refine z_iload_3 dX11_sound_7 ?_
  refine z_iload_4 dX11_sound_8 ?_
  refine z_iload_5 dX11_sound_10 ?_
  refine z_callV5 (k_X2_addSound (h := 1) zq2_1 hm.1) m_X2_addSound zl_1 l_X11_119 (Nat.le_of_ble_eq_true rfl) ⟨Nat.le_of_ble_eq_true rfl, Nat.le_of_ble_eq_true rfl⟩ ⟨rfl, rfl⟩ dX11_sound_12 (fun r μ1 hp => ?_)
  obtain ⟨rfl, w1, w2⟩ := hp
  have hb1 : ∀ j, 0 ≤ j → j < 3 → 0 ≤ μ1 348 j ∧ μ1 348 j ≤ 100000 := by rw [w2 348 (by omega)]; exact hm.2
  refine z_callV1 (k_X11_counted hb1) m_X11_counted zl_0 l_X11_86 (Nat.le_of_ble_eq_true rfl) ⟨Nat.le_of_ble_eq_true rfl, Nat.le_of_ble_eq_true rfl⟩ ⟨rfl, rfl⟩ dX11_sound_15 (fun r μ1 hp => ?_)
  obtain ⟨rfl, hv⟩ := hp
  replace hv := hv.symm
  subst hv
  exact z_iret dX11_sound_18 (zXc w1 w2 (by omega) (by omega))
set_option maxRecDepth 100000 in
set_option maxHeartbeats 4000000 in
theorem k_X11_still {l : Launch} {E : zE} {μ : zM} (hm : zXpre μ) : Ct l E yX11_still cX11_still 1 (some .int) ({ frames := 3, cells := 0, slots := 0, locals := 66 }) [zR 0] μ (fun r ν => zXp (spX (zHV μ 1)) ((spX (zHV μ 1)).1) μ r ν) := by
  refine Ct.of RX11 [zR 0] (by decide +kernel) rfl ⟨rfl, rfl⟩ rfl (Nat.le_of_ble_eq_true rfl) (fun X hX hc0 ha0 => ?_)
  subst hX
  refine z_aload_0 dX11_still_0 ?_
  refine z_aload_0 dX11_still_1 ?_
  refine z_getF 1 1 rfl f_X11_10 zl_0 rfl rfl dX11_still_2 ?_
  refine z_getF 13 12 rfl f_X11_122 zl_1 rfl rfl dX11_still_5 ?_
  refine z_callV0 (k_X9_dropLast (h := 1) zq2_1 hm.1) m_X9_dropLast zl_13 l_X11_126 (Nat.le_of_ble_eq_true rfl) ⟨Nat.le_of_ble_eq_true rfl, Nat.le_of_ble_eq_true rfl⟩ ⟨rfl, rfl⟩ dX11_still_8 (fun r μ1 hp => ?_)
  obtain ⟨rfl, w1, w2⟩ := hp
  have hb1 : ∀ j, 0 ≤ j → j < 3 → 0 ≤ μ1 348 j ∧ μ1 348 j ≤ 100000 := by rw [w2 348 (by omega)]; exact hm.2
  refine z_callV1 (k_X11_counted hb1) m_X11_counted zl_0 l_X11_86 (Nat.le_of_ble_eq_true rfl) ⟨Nat.le_of_ble_eq_true rfl, Nat.le_of_ble_eq_true rfl⟩ ⟨rfl, rfl⟩ dX11_still_11 (fun r μ1 hp => ?_)
  obtain ⟨rfl, hv⟩ := hp
  replace hv := hv.symm
  subst hv
  exact z_iret dX11_still_14 (zXc w1 w2 (by omega) (by omega))
set_option maxRecDepth 100000 in
set_option maxHeartbeats 4000000 in
theorem k_X11_put {l : Launch} {E : zE} {μ : zM} (hm : zXpre μ) {w v : Int} : Ct l E yX11_put cX11_put 3 (some .int) ({ frames := 3, cells := 0, slots := 0, locals := 66 }) [zR 0, zI w, zI v] μ (fun r ν => zXp (spP (zHV μ 1) w v) ((spP (zHV μ 1) w v).1) μ r ν) := by
  refine Ct.of RX11 [zR 0, zI w, zI v] (by decide +kernel) rfl ⟨rfl, rfl⟩ rfl (Nat.le_of_ble_eq_true rfl) (fun X hX hc0 ha0 => ?_)
  subst hX
  refine z_iload_1 dX11_put_0 ?_
  refine z_ifne (tgt := 20) dX11_put_1 (by decide) (fun h_1 => ?_) (fun h_1 => ?_)
  · refine z_aload_0 dX11_put_20 ?_
    refine z_iload_1 dX11_put_21 ?_
    refine z_iconst dX11_put_22 (by decide) ?_
    refine z_icmpne (tgt := 40) dX11_put_23 (by decide) (fun h_23 => ?_) (fun h_23 => ?_)
    · have hb1 := hm.2
      refine z_bipush dX11_put_40 (by decide) ?_
      refine z_callV1 (k_X11_counted hb1) m_X11_counted zl_0 l_X11_86 (Nat.le_of_ble_eq_true rfl) ⟨Nat.le_of_ble_eq_true rfl, Nat.le_of_ble_eq_true rfl⟩ ⟨rfl, rfl⟩ dX11_put_42 (fun r μ1 hp => ?_)
      obtain ⟨rfl, hv⟩ := hp
      replace hv := hv.symm
      subst hv
      exact z_iret dX11_put_45 (by
      unfold spP
      first
        | (rw [if_pos h_1]; exact zXc w1 w2 (by omega) (by omega))
        | (rw [if_neg h_1, if_pos h_23]; exact zXc w1 w2 (by omega) (by omega))
        | (rw [if_neg h_1, if_neg h_23]; exact zXc (sp := (-2, zHV μ 1)) (lo := 1) (n := 0) rfl zFr_rf (by omega) (by omega)))
    · refine z_aload_0 dX11_put_26 ?_
      refine z_getF 1 1 rfl f_X11_10 zl_0 rfl rfl dX11_put_27 ?_
      refine z_getF 2 1 rfl f_X11_76 zl_1 rfl rfl dX11_put_30 ?_
      refine z_iload_2 dX11_put_33 ?_
      refine z_callV1 (k_X1_setDoor (h := 1) zq2_1 hm.1) m_X1_setDoor zl_2 l_X11_97 (Nat.le_of_ble_eq_true rfl) ⟨Nat.le_of_ble_eq_true rfl, Nat.le_of_ble_eq_true rfl⟩ ⟨rfl, rfl⟩ dX11_put_34 (fun r μ1 hp => ?_)
      obtain ⟨rfl, w1, w2⟩ := hp
      have hb1 : ∀ j, 0 ≤ j → j < 3 → 0 ≤ μ1 348 j ∧ μ1 348 j ≤ 100000 := by rw [w2 348 (by omega)]; exact hm.2
      refine z_goto (tgt := 42) dX11_put_37 (by decide) ?_
      refine z_callV1 (k_X11_counted hb1) m_X11_counted zl_0 l_X11_86 (Nat.le_of_ble_eq_true rfl) ⟨Nat.le_of_ble_eq_true rfl, Nat.le_of_ble_eq_true rfl⟩ ⟨rfl, rfl⟩ dX11_put_42 (fun r μ1 hp => ?_)
      obtain ⟨rfl, hv⟩ := hp
      replace hv := hv.symm
      subst hv
      exact z_iret dX11_put_45 (by
      unfold spP
      first
        | (rw [if_pos h_1]; exact zXc w1 w2 (by omega) (by omega))
        | (rw [if_neg h_1, if_pos h_23]; exact zXc w1 w2 (by omega) (by omega))
        | (rw [if_neg h_1, if_neg h_23]; exact zXc (sp := (-2, zHV μ 1)) (lo := 1) (n := 0) rfl zFr_rf (by omega) (by omega)))
  · refine z_aload_0 dX11_put_4 ?_
    refine z_aload_0 dX11_put_5 ?_
    refine z_getF 1 1 rfl f_X11_10 zl_0 rfl rfl dX11_put_6 ?_
    refine z_getF 2 1 rfl f_X11_76 zl_1 rfl rfl dX11_put_9 ?_
    refine z_iload_2 dX11_put_12 ?_
    refine z_callV1 (k_X1_setFade (h := 1) zq2_1 hm.1) m_X1_setFade zl_2 l_X11_94 (Nat.le_of_ble_eq_true rfl) ⟨Nat.le_of_ble_eq_true rfl, Nat.le_of_ble_eq_true rfl⟩ ⟨rfl, rfl⟩ dX11_put_13 (fun r μ1 hp => ?_)
    obtain ⟨rfl, w1, w2⟩ := hp
    have hb1 : ∀ j, 0 ≤ j → j < 3 → 0 ≤ μ1 348 j ∧ μ1 348 j ≤ 100000 := by rw [w2 348 (by omega)]; exact hm.2
    refine z_callV1 (k_X11_counted hb1) m_X11_counted zl_0 l_X11_86 (Nat.le_of_ble_eq_true rfl) ⟨Nat.le_of_ble_eq_true rfl, Nat.le_of_ble_eq_true rfl⟩ ⟨rfl, rfl⟩ dX11_put_16 (fun r μ1 hp => ?_)
    obtain ⟨rfl, hv⟩ := hp
    replace hv := hv.symm
    subst hv
    exact z_iret dX11_put_19 (by
      unfold spP
      first
        | (rw [if_pos h_1]; exact zXc w1 w2 (by omega) (by omega))
        | (rw [if_neg h_1, if_pos h_23]; exact zXc w1 w2 (by omega) (by omega))
        | (rw [if_neg h_1, if_neg h_23]; exact zXc (sp := (-2, zHV μ 1)) (lo := 1) (n := 0) rfl zFr_rf (by omega) (by omega)))
theorem spL_n4 {V : zM} {s b : Int} (ok : zOK V) : (spL V s b).1 ≠ -4 := by
  unfold spL
  refine zif_i (p := fun (q : Int × zM) => q.1 ≠ -4) (fun _ => by show (-2 : Int) ≠ -4; decide) (fun h => zif_i (p := fun (q : Int × zM) => q.1 ≠ -4) (fun _ => by show (-3 : Int) ≠ -4; decide) (fun _ => ?_))
  show V 9 s ≠ -4
  have := (ok.2.1.2 s (by omega) (by omega)).2.2.2.2
  omega
set_option maxRecDepth 100000 in
set_option maxHeartbeats 4000000 in
theorem k_X11_lie {l : Launch} {E : zE} {μ : zM} (hm : zXpre μ) {s b : Int} : Ct l E yX11_lie cX11_lie 4 (some .int) ({ frames := 2, cells := 0, slots := 0, locals := 46 }) [zR 0, zI s, zI b] μ (fun r ν => zXp (spL (zHV μ 1) s b) (zLx (spL (zHV μ 1) s b).1) μ r ν) := by
  refine Ct.of RX11 [zR 0, zI s, zI b, zU] (by decide +kernel) rfl ⟨rfl, rfl⟩ rfl (Nat.le_of_ble_eq_true rfl) (fun X hX hc0 ha0 => ?_)
  subst hX
  refine z_aload_0 dX11_lie_0 ?_
  refine z_getF 1 1 rfl f_X11_10 zl_0 rfl rfl dX11_lie_1 ?_
  refine z_iload_1 dX11_lie_4 ?_
  refine z_iload_2 dX11_lie_5 ?_
  refine z_callV2 (k_X2_lay (h := 1) zq2_1 hm.1) m_X2_lay zl_1 l_X11_113 (Nat.le_of_ble_eq_true rfl) ⟨Nat.le_of_ble_eq_true rfl, Nat.le_of_ble_eq_true rfl⟩ ⟨rfl, rfl⟩ dX11_lie_6 (fun r μ1 hp => ?_)
  obtain ⟨rfl, w1, w2⟩ := hp
  have hb1 : ∀ j, 0 ≤ j → j < 3 → 0 ≤ μ1 348 j ∧ μ1 348 j ≤ 100000 := by rw [w2 348 (by omega)]; exact hm.2
  refine z_istore_3 rfl dX11_lie_9 ?_
  refine z_iload_3 dX11_lie_10 ?_
  refine z_bipush dX11_lie_11 (by decide) ?_
  refine z_icmpne (tgt := 25) dX11_lie_13 (by decide) (fun h_13 => ?_) (fun h_13 => ?_)
  · refine z_iload_3 dX11_lie_25 ?_
    refine z_bipush dX11_lie_26 (by decide) ?_
    refine z_icmpne (tgt := 42) dX11_lie_28 (by decide) (fun h_28 => ?_) (fun h_28 => ?_)
    · refine z_iload_3 dX11_lie_42 ?_
      exact z_iret dX11_lie_43 (by
      refine ⟨?_, ?_, fun j j0 j1 => ?_, fun a ha hb => ?_⟩
      · unfold zLx; first | (rw [if_pos h_13]) | (rw [if_neg h_13, if_pos h_28]) | (rw [if_neg h_13, if_neg h_28])
      · first | exact w1 | exact (zHV_fr (a := 348) (n := 1) (zFr_up (by omega) (by omega)) (by omega)).trans w1
      · first
          | (rw [zup_ap, w2 348 (by omega)]; unfold zRk; rw [h_13]; by_cases q : j = 0
             · subst q; rfl
             · rw [if_neg (by omega), if_neg (by omega), Int.add_zero])
          | (rw [zup_ap, w2 348 (by omega)]; unfold zRk; rw [h_28]; by_cases q : j = 1
             · subst q; rfl
             · rw [if_neg (by omega), if_neg (by omega), Int.add_zero])
          | (have h4 : (spL (zHV μ 1) s b).1 ≠ -4 := spL_n4 hm.1
             rw [w2 348 (by omega)]; unfold zRk; rw [if_neg (by omega), Int.add_zero])
      · first | (rw [zup_row hb]; exact w2 a (by omega)) | exact w2 a (by omega))
    · refine z_aload_0 dX11_lie_31 ?_
      refine z_bipush dX11_lie_32 (by decide) ?_
      refine z_bipush dX11_lie_34 (by decide) ?_
      refine z_callV2 (k_X11_refused (by decide) hb1) m_X11_refused zl_0 l_X11_116 (Nat.le_of_ble_eq_true rfl) ⟨Nat.le_of_ble_eq_true rfl, Nat.le_of_ble_eq_true rfl⟩ ⟨rfl, rfl⟩ dX11_lie_36 (fun r μ1 hp => ?_)
      obtain ⟨rfl, hv⟩ := hp
      replace hv := hv.symm
      subst hv
      refine z_goto (tgt := 43) dX11_lie_39 (by decide) ?_
      exact z_iret dX11_lie_43 (by
      refine ⟨?_, ?_, fun j j0 j1 => ?_, fun a ha hb => ?_⟩
      · unfold zLx; first | (rw [if_pos h_13]) | (rw [if_neg h_13, if_pos h_28]) | (rw [if_neg h_13, if_neg h_28])
      · first | exact w1 | exact (zHV_fr (a := 348) (n := 1) (zFr_up (by omega) (by omega)) (by omega)).trans w1
      · first
          | (rw [zup_ap, w2 348 (by omega)]; unfold zRk; rw [h_13]; by_cases q : j = 0
             · subst q; rfl
             · rw [if_neg (by omega), if_neg (by omega), Int.add_zero])
          | (rw [zup_ap, w2 348 (by omega)]; unfold zRk; rw [h_28]; by_cases q : j = 1
             · subst q; rfl
             · rw [if_neg (by omega), if_neg (by omega), Int.add_zero])
          | (have h4 : (spL (zHV μ 1) s b).1 ≠ -4 := spL_n4 hm.1
             rw [w2 348 (by omega)]; unfold zRk; rw [if_neg (by omega), Int.add_zero])
      · first | (rw [zup_row hb]; exact w2 a (by omega)) | exact w2 a (by omega))
  · refine z_aload_0 dX11_lie_16 ?_
    refine z_bipush dX11_lie_17 (by decide) ?_
    refine z_bipush dX11_lie_19 (by decide) ?_
    refine z_callV2 (k_X11_refused (by decide) hb1) m_X11_refused zl_0 l_X11_116 (Nat.le_of_ble_eq_true rfl) ⟨Nat.le_of_ble_eq_true rfl, Nat.le_of_ble_eq_true rfl⟩ ⟨rfl, rfl⟩ dX11_lie_21 (fun r μ1 hp => ?_)
    obtain ⟨rfl, hv⟩ := hp
    replace hv := hv.symm
    subst hv
    exact z_iret dX11_lie_24 (by
      refine ⟨?_, ?_, fun j j0 j1 => ?_, fun a ha hb => ?_⟩
      · unfold zLx; first | (rw [if_pos h_13]) | (rw [if_neg h_13, if_pos h_28]) | (rw [if_neg h_13, if_neg h_28])
      · first | exact w1 | exact (zHV_fr (a := 348) (n := 1) (zFr_up (by omega) (by omega)) (by omega)).trans w1
      · first
          | (rw [zup_ap, w2 348 (by omega)]; unfold zRk; rw [h_13]; by_cases q : j = 0
             · subst q; rfl
             · rw [if_neg (by omega), if_neg (by omega), Int.add_zero])
          | (rw [zup_ap, w2 348 (by omega)]; unfold zRk; rw [h_28]; by_cases q : j = 1
             · subst q; rfl
             · rw [if_neg (by omega), if_neg (by omega), Int.add_zero])
          | (have h4 : (spL (zHV μ 1) s b).1 ≠ -4 := spL_n4 hm.1
             rw [w2 348 (by omega)]; unfold zRk; rw [if_neg (by omega), Int.add_zero])
      · first | (rw [zup_row hb]; exact w2 a (by omega)) | exact w2 a (by omega))
set_option maxRecDepth 100000 in
set_option maxHeartbeats 4000000 in
theorem k_X11_rule {l : Launch} {E : zE} {μ : zM} (hm : zXpre μ) {s b m : Int} (hmm : m = 0 ∨ m = 1) : Ct l E yX11_rule cX11_rule 4 (some .int) ({ frames := 3, cells := 0, slots := 0, locals := 66 }) [zR 0, zI s, zI b, zI m] μ (fun r ν => zXp (spR (zHV μ 1) s b m) ((spR (zHV μ 1) s b m).1) μ r ν) := by
  refine Ct.of RX11 [zR 0, zI s, zI b, zI m] (by decide +kernel) rfl ⟨rfl, rfl⟩ rfl (Nat.le_of_ble_eq_true rfl) (fun X hX hc0 ha0 => ?_)
  subst hX
  refine z_aload_0 dX11_rule_0 ?_
  refine z_getF 1 1 rfl f_X11_10 zl_0 rfl rfl dX11_rule_1 ?_
  refine z_getF 6 5 rfl f_X11_103 zl_1 rfl rfl dX11_rule_4 ?_
  refine z_iload_1 dX11_rule_7 ?_
  refine z_callV1 (k_X5_has (h := 1) zq2_1 hm.1) m_X5_has zl_6 l_X11_193 (Nat.le_of_ble_eq_true rfl) ⟨Nat.le_of_ble_eq_true rfl, Nat.le_of_ble_eq_true rfl⟩ ⟨rfl, rfl⟩ dX11_rule_8 (fun r μ1 hp => ?_)
  obtain ⟨rfl, hv⟩ := hp
  replace hv := hv.symm
  subst hv
  refine z_ifeq (tgt := 28) dX11_rule_11 (by decide) (fun h_11 => ?_) (fun h_11 => ?_)
  · replace h_11 := zb_0.mp h_11
    refine z_aload_0 dX11_rule_28 ?_
    refine z_bipush dX11_rule_29 (by decide) ?_
    refine z_callV1 (k_X11_counted hm.2) m_X11_counted zl_0 l_X11_86 (Nat.le_of_ble_eq_true rfl) ⟨Nat.le_of_ble_eq_true rfl, Nat.le_of_ble_eq_true rfl⟩ ⟨rfl, rfl⟩ dX11_rule_31 (fun r μ1 hp => ?_)
    obtain ⟨rfl, hv⟩ := hp
    replace hv := hv.symm
    subst hv
    exact z_iret dX11_rule_34 (by
      have e : spR (zHV μ 1) s b m = (-2, zHV μ 1) := zif_t (by first | exact Or.inl h_11 | exact Or.inr h_25)
      rw [e]; exact zXc (sp := (-2, zHV μ 1)) (lo := 1) (n := 0) rfl zFr_rf (by omega) (by omega))
  · replace h_11 := zb_n.mp h_11
    refine z_aload_0 dX11_rule_14 ?_
    refine z_getF 1 1 rfl f_X11_10 zl_0 rfl rfl dX11_rule_15 ?_
    refine z_getF 2 1 rfl f_X11_76 zl_1 rfl rfl dX11_rule_18 ?_
    refine z_iload_2 dX11_rule_21 ?_
    refine z_callV1 (k_X1_hasBed (h := 1) zq2_1 hm.1) m_X1_hasBed zl_2 l_X11_237 (Nat.le_of_ble_eq_true rfl) ⟨Nat.le_of_ble_eq_true rfl, Nat.le_of_ble_eq_true rfl⟩ ⟨rfl, rfl⟩ dX11_rule_22 (fun r μ1 hp => ?_)
    obtain ⟨rfl, hv⟩ := hp
    replace hv := hv.symm
    subst hv
    refine z_ifne (tgt := 35) dX11_rule_25 (by decide) (fun h_25 => ?_) (fun h_25 => ?_)
    · replace h_25 := zb_n.mp h_25
      refine z_aload_0 dX11_rule_35 ?_
      refine z_aload_0 dX11_rule_36 ?_
      refine z_getF 1 1 rfl f_X11_10 zl_0 rfl rfl dX11_rule_37 ?_
      refine z_getF 19 18 rfl f_X11_240 zl_1 rfl rfl dX11_rule_40 ?_
      refine z_iload_1 dX11_rule_43 ?_
      refine z_iload_2 dX11_rule_44 ?_
      refine z_iload_3 dX11_rule_45 ?_
      refine z_callV3 (k_X7_add (h := 1) zq2_1 hm.1 h_11 h_25 hmm) m_X7_add zl_19 l_X11_244 (Nat.le_of_ble_eq_true rfl) ⟨Nat.le_of_ble_eq_true rfl, Nat.le_of_ble_eq_true rfl⟩ ⟨rfl, rfl⟩ dX11_rule_46 (fun r μ1 hp => ?_)
      obtain ⟨rfl, w1, w2⟩ := hp
      have hb1 : ∀ j, 0 ≤ j → j < 3 → 0 ≤ μ1 348 j ∧ μ1 348 j ≤ 100000 := by rw [w2 348 (by omega)]; exact hm.2
      refine z_callV1 (k_X11_counted hb1) m_X11_counted zl_0 l_X11_86 (Nat.le_of_ble_eq_true rfl) ⟨Nat.le_of_ble_eq_true rfl, Nat.le_of_ble_eq_true rfl⟩ ⟨rfl, rfl⟩ dX11_rule_49 (fun r μ1 hp => ?_)
      obtain ⟨rfl, hv⟩ := hp
      replace hv := hv.symm
      subst hv
      exact z_iret dX11_rule_52 (zXc w1 w2 (by omega) (by omega))
    · replace h_25 := zb_0.mp h_25
      refine z_aload_0 dX11_rule_28 ?_
      refine z_bipush dX11_rule_29 (by decide) ?_
      refine z_callV1 (k_X11_counted hm.2) m_X11_counted zl_0 l_X11_86 (Nat.le_of_ble_eq_true rfl) ⟨Nat.le_of_ble_eq_true rfl, Nat.le_of_ble_eq_true rfl⟩ ⟨rfl, rfl⟩ dX11_rule_31 (fun r μ1 hp => ?_)
      obtain ⟨rfl, hv⟩ := hp
      replace hv := hv.symm
      subst hv
      exact z_iret dX11_rule_34 (by
      have e : spR (zHV μ 1) s b m = (-2, zHV μ 1) := zif_t (by first | exact Or.inl h_11 | exact Or.inr h_25)
      rw [e]; exact zXc (sp := (-2, zHV μ 1)) (lo := 1) (n := 0) rfl zFr_rf (by omega) (by omega))
set_option maxRecDepth 100000 in
set_option maxHeartbeats 4000000 in
theorem k_X11_free {l : Launch} {E : zE} {μ : zM} (hm : zXpre μ) : Ct l E yX11_free cX11_free 2 (some .int) ({ frames := 0, cells := 0, slots := 0, locals := 0 }) [zR 0] μ (fun r ν => zXp (((zHV μ 1 3 5, zfree (zHV μ 1)) : Int × zM)) ((((zHV μ 1 3 5, zfree (zHV μ 1)) : Int × zM)).1) μ r ν) := by
  refine Ct.of RX11 [zR 0, zU] (by decide +kernel) rfl ⟨rfl, rfl⟩ rfl (Nat.le_of_ble_eq_true rfl) (fun X hX hc0 ha0 => ?_)
  subst hX
  refine z_aload_0 dX11_free_0 ?_
  refine z_getF 1 1 rfl f_X11_10 zl_0 rfl rfl dX11_free_1 ?_
  refine z_getF 19 18 rfl f_X11_240 zl_1 rfl rfl dX11_free_4 ?_
  refine z_getI 3 rfl f_X11_249 zl_19 rfl dX11_free_7 ?_
  refine z_istore_1 rfl dX11_free_10 ?_
  refine z_aload_0 dX11_free_11 ?_
  refine z_getF 1 1 rfl f_X11_10 zl_0 rfl rfl dX11_free_12 ?_
  refine z_getF 19 18 rfl f_X11_240 zl_1 rfl rfl dX11_free_15 ?_
  refine z_iconst dX11_free_18 (by decide) ?_
  refine z_putI 3 rfl f_X11_249 p_7_3 zl_19 rfl rfl dX11_free_19 ?_
  refine z_iload_1 dX11_free_22 ?_
  exact z_iret dX11_free_23 (zXok rfl (by have : 0 ≤ μ 19 3 ∧ μ 19 3 ≤ 4 := hm.1.2.2.2.1; omega) (zHV_e (h := 1)) (zFr_up (h := 1) (n := 22) (by omega) (by omega)) (by omega) (by omega))
set_option maxRecDepth 100000 in
set_option maxHeartbeats 4000000 in
theorem k_X11_isOpen {l : Launch} {E : zE} {μ : zM} (hm : zXpre μ) {c : Int} : Ct l E yX11_isOpen cX11_isOpen 2 (some .boolean) ({ frames := 1, cells := 0, slots := 0, locals := 20 }) [zR 0, zI c] μ (fun r ν => r = some (zI (zb ((0 ≤ c ∧ c < 36) ∧ zHV μ 1 0 c = 0))) ∧ ν = μ) := by
  refine Ct.of RX11 [zR 0, zI c] (by decide +kernel) rfl ⟨rfl, rfl⟩ rfl (Nat.le_of_ble_eq_true rfl) (fun X hX hc0 ha0 => ?_)
  subst hX
  refine z_iload_1 dX11_isOpen_0 ?_
  refine z_callS1 (k_X11_isCell) m_X11_isCell l_X11_163 (Nat.le_of_ble_eq_true rfl) ⟨Nat.le_of_ble_eq_true rfl, Nat.le_of_ble_eq_true rfl⟩ ⟨rfl, rfl⟩ dX11_isOpen_1 (fun r μ1 hp => ?_)
  obtain ⟨rfl, hv⟩ := hp
  replace hv := hv.symm
  subst hv
  refine z_ifeq (tgt := 26) dX11_isOpen_4 (by decide) (fun h_4 => ?_) (fun h_4 => ?_)
  · replace h_4 := zb_0.mp h_4
    refine z_iconst dX11_isOpen_26 (by decide) ?_
    exact z_zret (by decide) dX11_isOpen_27 (by first | exact zb_r ⟨h_4, by rw [zHV_0 h_4.1 h_4.2]; exact h_19⟩ rfl | exact zb_r0 (fun q => h_4 q.1) rfl | exact zb_r0 (fun q => h_19 (by have := q.2; rwa [zHV_0 h_4.1 h_4.2] at this)) rfl)
  · replace h_4 := zb_n.mp h_4
    refine z_aload_0 dX11_isOpen_7 ?_
    refine z_getF 1 1 rfl f_X11_10 zl_0 rfl rfl dX11_isOpen_8 ?_
    refine z_getF 2 1 rfl f_X11_76 zl_1 rfl rfl dX11_isOpen_11 ?_
    refine z_getF 3 1 rfl f_X11_167 zl_2 rfl rfl dX11_isOpen_14 ?_
    refine z_iload_1 dX11_isOpen_17 ?_
    refine z_zald zl_3 (by omega) (by omega) dX11_isOpen_18 ?_
    refine z_ifne (tgt := 26) dX11_isOpen_19 (by decide) (fun h_19 => ?_) (fun h_19 => ?_)
    · refine z_iconst dX11_isOpen_26 (by decide) ?_
      exact z_zret (by decide) dX11_isOpen_27 (by first | exact zb_r ⟨h_4, by rw [zHV_0 h_4.1 h_4.2]; exact h_19⟩ rfl | exact zb_r0 (fun q => h_4 q.1) rfl | exact zb_r0 (fun q => h_19 (by have := q.2; rwa [zHV_0 h_4.1 h_4.2] at this)) rfl)
    · refine z_iconst dX11_isOpen_22 (by decide) ?_
      refine z_goto (tgt := 27) dX11_isOpen_23 (by decide) ?_
      exact z_zret (by decide) dX11_isOpen_27 (by first | exact zb_r ⟨h_4, by rw [zHV_0 h_4.1 h_4.2]; exact h_19⟩ rfl | exact zb_r0 (fun q => h_4 q.1) rfl | exact zb_r0 (fun q => h_19 (by have := q.2; rwa [zHV_0 h_4.1 h_4.2] at this)) rfl)
/-- a thing, and for whom or where -/
def zTh (V : zM) (t x : Int) : Prop := (t = 0 ∧ 0 ≤ x ∧ x < V 3 3) ∨ (t = 1 ∧ x = 0) ∨ (t = 2 ∧ 0 ≤ x ∧ x < 36) ∨ (t = 3 ∧ 0 ≤ x ∧ x < V 3 3)
set_option maxRecDepth 100000 in
set_option maxHeartbeats 4000000 in
theorem k_X11_isThing {l : Launch} {E : zE} {μ : zM} (hm : zXpre μ) {t x : Int} : Ct l E yX11_isThing cX11_isThing 3 (some .boolean) ({ frames := 1, cells := 0, slots := 0, locals := 21 }) [zR 0, zI t, zI x] μ (fun r ν => r = some (zI (zb (zTh (zHV μ 1) t x))) ∧ ν = μ) := by
  refine Ct.of RX11 [zR 0, zI t, zI x] (by decide +kernel) rfl ⟨rfl, rfl⟩ rfl (Nat.le_of_ble_eq_true rfl) (fun X hX hc0 ha0 => ?_)
  subst hX
  refine z_iload_1 dX11_isThing_0 ?_
  by_cases hs_1_0 : t = 0
  · subst hs_1_0
    refine z_tabIn (tgt := 32) dX11_isThing_1 (by decide) (by decide) rfl (by decide) ?_
    refine z_aload_0 dX11_isThing_32 ?_
    refine z_getF 1 1 rfl f_X11_10 zl_0 rfl rfl dX11_isThing_33 ?_
    refine z_getF 6 5 rfl f_X11_103 zl_1 rfl rfl dX11_isThing_36 ?_
    refine z_iload_2 dX11_isThing_39 ?_
    refine z_callV1 (k_X5_has (h := 1) zq2_1 hm.1) m_X5_has zl_6 l_X11_193 (Nat.le_of_ble_eq_true rfl) ⟨Nat.le_of_ble_eq_true rfl, Nat.le_of_ble_eq_true rfl⟩ ⟨rfl, rfl⟩ dX11_isThing_40 (fun r μ1 hp => ?_)
    obtain ⟨rfl, hv⟩ := hp
    replace hv := hv.symm
    subst hv
    exact z_zret zb_01 dX11_isThing_43 (⟨congrArg (fun z => (some (zI z) : Option zAV)) (zb_c (by unfold zTh; rw [zHV_pc]; omega)), rfl⟩)
  by_cases hs_1_1 : t = 1
  · subst hs_1_1
    refine z_tabIn (tgt := 44) dX11_isThing_1 (by decide) (by decide) rfl (by decide) ?_
    refine z_iload_2 dX11_isThing_44 ?_
    refine z_ifne (tgt := 52) dX11_isThing_45 (by decide) (fun h_45 => ?_) (fun h_45 => ?_)
    · refine z_iconst dX11_isThing_52 (by decide) ?_
      exact z_zret (by decide) dX11_isThing_53 (by first | exact zb_r (by unfold zTh; rw [zHV_pc]; omega) rfl | exact zb_r0 (by unfold zTh; rw [zHV_pc]; omega) rfl)
    · refine z_iconst dX11_isThing_48 (by decide) ?_
      refine z_goto (tgt := 53) dX11_isThing_49 (by decide) ?_
      exact z_zret (by decide) dX11_isThing_53 (by first | exact zb_r (by unfold zTh; rw [zHV_pc]; omega) rfl | exact zb_r0 (by unfold zTh; rw [zHV_pc]; omega) rfl)
  by_cases hs_1_2 : t = 2
  · subst hs_1_2
    refine z_tabIn (tgt := 54) dX11_isThing_1 (by decide) (by decide) rfl (by decide) ?_
    refine z_iload_2 dX11_isThing_54 ?_
    refine z_callS1 (k_X11_isCell) m_X11_isCell l_X11_163 (Nat.le_of_ble_eq_true rfl) ⟨Nat.le_of_ble_eq_true rfl, Nat.le_of_ble_eq_true rfl⟩ ⟨rfl, rfl⟩ dX11_isThing_55 (fun r μ1 hp => ?_)
    obtain ⟨rfl, hv⟩ := hp
    replace hv := hv.symm
    subst hv
    exact z_zret zb_01 dX11_isThing_58 (⟨congrArg (fun z => (some (zI z) : Option zAV)) (zb_c (by unfold zTh; rw [zHV_pc]; omega)), rfl⟩)
  by_cases hs_1_3 : t = 3
  · subst hs_1_3
    refine z_tabIn (tgt := 59) dX11_isThing_1 (by decide) (by decide) rfl (by decide) ?_
    refine z_aload_0 dX11_isThing_59 ?_
    refine z_getF 1 1 rfl f_X11_10 zl_0 rfl rfl dX11_isThing_60 ?_
    refine z_getF 6 5 rfl f_X11_103 zl_1 rfl rfl dX11_isThing_63 ?_
    refine z_iload_2 dX11_isThing_66 ?_
    refine z_callV1 (k_X5_has (h := 1) zq2_1 hm.1) m_X5_has zl_6 l_X11_193 (Nat.le_of_ble_eq_true rfl) ⟨Nat.le_of_ble_eq_true rfl, Nat.le_of_ble_eq_true rfl⟩ ⟨rfl, rfl⟩ dX11_isThing_67 (fun r μ1 hp => ?_)
    obtain ⟨rfl, hv⟩ := hp
    replace hv := hv.symm
    subst hv
    exact z_zret zb_01 dX11_isThing_70 (⟨congrArg (fun z => (some (zI z) : Option zAV)) (zb_c (by unfold zTh; rw [zHV_pc]; omega)), rfl⟩)
  refine z_tabOut (tgt := 71) dX11_isThing_1 (by omega) (by decide) ?_
  refine z_iconst dX11_isThing_71 (by decide) ?_
  exact z_zret (by decide) dX11_isThing_72 (by first | exact zb_r (by unfold zTh; rw [zHV_pc]; omega) rfl | exact zb_r0 (by unfold zTh; rw [zHV_pc]; omega) rfl)
def zHm (V : zM) (tl w : Int) : Int := if w = 0 then zsum (V 0) 36 else if w = 1 then V 3 0 else if w = 2 then V 3 3 else if w = 3 then V 3 4 else if w = 4 then V 3 5 else tl
set_option maxRecDepth 100000 in
set_option maxHeartbeats 4000000 in
theorem k_X11_howMany {l : Launch} {E : zE} {μ : zM} (hm : zXpre μ) {w : Int} : Ct l E yX11_howMany cX11_howMany 2 (some .int) ({ frames := 1, cells := 0, slots := 0, locals := 25 }) [zR 0, zI w] μ (fun r ν => r = some (zI (zHm (zHV μ 1) (μ 47 0) w)) ∧ ν = μ) := by
  refine Ct.of RX11 [zR 0, zI w] (by decide +kernel) rfl ⟨rfl, rfl⟩ rfl (Nat.le_of_ble_eq_true rfl) (fun X hX hc0 ha0 => ?_)
  subst hX
  refine z_iload_1 dX11_howMany_0 ?_
  by_cases hs_1_0 : w = 0
  · subst hs_1_0
    refine z_tabIn (tgt := 36) dX11_howMany_1 (by decide) (by decide) rfl (by decide) ?_
    refine z_aload_0 dX11_howMany_36 ?_
    refine z_getF 1 1 rfl f_X11_10 zl_0 rfl rfl dX11_howMany_37 ?_
    refine z_getF 2 1 rfl f_X11_76 zl_1 rfl rfl dX11_howMany_40 ?_
    refine z_callV0 (k_X1_wallCount (h := 1) zq2_1 hm.1) m_X1_wallCount zl_2 l_X11_309 (Nat.le_of_ble_eq_true rfl) ⟨Nat.le_of_ble_eq_true rfl, Nat.le_of_ble_eq_true rfl⟩ ⟨rfl, rfl⟩ dX11_howMany_43 (fun r μ1 hp => ?_)
    obtain ⟨rfl, hv⟩ := hp
    replace hv := hv.symm
    subst hv
    exact z_iret dX11_howMany_46 (by refine ⟨?_, rfl⟩; unfold zHm; first | rfl | rw [if_neg (by assumption), if_neg (by assumption), if_neg (by assumption), if_neg (by assumption), if_neg (by assumption)])
  by_cases hs_1_1 : w = 1
  · subst hs_1_1
    refine z_tabIn (tgt := 47) dX11_howMany_1 (by decide) (by decide) rfl (by decide) ?_
    refine z_aload_0 dX11_howMany_47 ?_
    refine z_getF 1 1 rfl f_X11_10 zl_0 rfl rfl dX11_howMany_48 ?_
    refine z_getF 2 1 rfl f_X11_76 zl_1 rfl rfl dX11_howMany_51 ?_
    refine z_getI 3 rfl f_X11_312 zl_2 rfl dX11_howMany_54 ?_
    exact z_iret dX11_howMany_57 (by refine ⟨?_, rfl⟩; unfold zHm; first | rfl | rw [if_neg (by assumption), if_neg (by assumption), if_neg (by assumption), if_neg (by assumption), if_neg (by assumption)])
  by_cases hs_1_2 : w = 2
  · subst hs_1_2
    refine z_tabIn (tgt := 58) dX11_howMany_1 (by decide) (by decide) rfl (by decide) ?_
    refine z_aload_0 dX11_howMany_58 ?_
    refine z_getF 1 1 rfl f_X11_10 zl_0 rfl rfl dX11_howMany_59 ?_
    refine z_getF 6 5 rfl f_X11_103 zl_1 rfl rfl dX11_howMany_62 ?_
    refine z_getI 6 rfl f_X11_261 zl_6 rfl dX11_howMany_65 ?_
    exact z_iret dX11_howMany_68 (by refine ⟨?_, rfl⟩; unfold zHm; first | rfl | rw [if_neg (by assumption), if_neg (by assumption), if_neg (by assumption), if_neg (by assumption), if_neg (by assumption)])
  by_cases hs_1_3 : w = 3
  · subst hs_1_3
    refine z_tabIn (tgt := 69) dX11_howMany_1 (by decide) (by decide) rfl (by decide) ?_
    refine z_aload_0 dX11_howMany_69 ?_
    refine z_getF 1 1 rfl f_X11_10 zl_0 rfl rfl dX11_howMany_70 ?_
    refine z_getF 13 12 rfl f_X11_122 zl_1 rfl rfl dX11_howMany_73 ?_
    refine z_getI 5 rfl f_X11_315 zl_13 rfl dX11_howMany_76 ?_
    exact z_iret dX11_howMany_79 (by refine ⟨?_, rfl⟩; unfold zHm; first | rfl | rw [if_neg (by assumption), if_neg (by assumption), if_neg (by assumption), if_neg (by assumption), if_neg (by assumption)])
  by_cases hs_1_4 : w = 4
  · subst hs_1_4
    refine z_tabIn (tgt := 80) dX11_howMany_1 (by decide) (by decide) rfl (by decide) ?_
    refine z_aload_0 dX11_howMany_80 ?_
    refine z_getF 1 1 rfl f_X11_10 zl_0 rfl rfl dX11_howMany_81 ?_
    refine z_getF 19 18 rfl f_X11_240 zl_1 rfl rfl dX11_howMany_84 ?_
    refine z_getI 3 rfl f_X11_249 zl_19 rfl dX11_howMany_87 ?_
    exact z_iret dX11_howMany_90 (by refine ⟨?_, rfl⟩; unfold zHm; first | rfl | rw [if_neg (by assumption), if_neg (by assumption), if_neg (by assumption), if_neg (by assumption), if_neg (by assumption)])
  refine z_tabOut (tgt := 91) dX11_howMany_1 (by omega) (by decide) ?_
  refine z_aload_0 dX11_howMany_91 ?_
  refine z_getF 47 47 rfl f_X11_30 zl_0 rfl rfl dX11_howMany_92 ?_
  refine z_getI 0 rfl f_X11_316 zl_47 rfl dX11_howMany_95 ?_
  exact z_iret dX11_howMany_98 (by refine ⟨?_, rfl⟩; unfold zHm; first | rfl | rw [if_neg (by assumption), if_neg (by assumption), if_neg (by assumption), if_neg (by assumption), if_neg (by assumption)])
