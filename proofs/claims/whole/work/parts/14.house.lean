/-! HOUSE: what its parts answer, and what they make of the picture -/
theorem zHV_bc {μ : zM} {h : Nat} : zHV μ h 3 0 = μ (h + 1) 3 := rfl
theorem zHV_fade {μ : zM} {h : Nat} : zHV μ h 3 1 = μ (h + 1) 4 := rfl
theorem zHV_door {μ : zM} {h : Nat} : zHV μ h 3 2 = μ (h + 1) 5 := rfl
theorem zHV_pc {μ : zM} {h : Nat} : zHV μ h 3 3 = μ (h + 5) 6 := rfl
theorem zHV_sc {μ : zM} {h : Nat} : zHV μ h 3 4 = μ (h + 12) 5 := rfl
theorem zHV_rc {μ : zM} {h : Nat} : zHV μ h 3 5 = μ (h + 18) 3 := rfl
theorem zHV_0 {μ : zM} {h : Nat} {i : Int} (h0 : 0 ≤ i) (h1 : i < 36) : zHV μ h 0 i = μ (h + 2) i := if_pos ⟨h0, h1⟩
theorem zHV_1 {μ : zM} {h : Nat} {i : Int} (h0 : 0 ≤ i) (h1 : i < 36) : zHV μ h 1 i = μ (h + 3) i := if_pos ⟨h0, h1⟩
theorem zHV_2 {μ : zM} {h : Nat} {i : Int} (h0 : 0 ≤ i) (h1 : i < μ (h + 1) 3) : zHV μ h 2 i = μ (h + 4) i := if_pos ⟨h0, h1⟩
theorem zHV_4 {μ : zM} {h : Nat} {i : Int} (h0 : 0 ≤ i) (h1 : i < μ (h + 5) 6) : zHV μ h 4 i = μ (h + 6) i := if_pos ⟨h0, h1⟩
theorem zHV_5 {μ : zM} {h : Nat} {i : Int} (h0 : 0 ≤ i) (h1 : i < μ (h + 5) 6) : zHV μ h 5 i = μ (h + 7) i := if_pos ⟨h0, h1⟩
theorem zHV_6 {μ : zM} {h : Nat} {i : Int} (h0 : 0 ≤ i) (h1 : i < μ (h + 5) 6) : zHV μ h 6 i = μ (h + 8) i := if_pos ⟨h0, h1⟩
theorem zHV_7 {μ : zM} {h : Nat} {i : Int} (h0 : 0 ≤ i) (h1 : i < μ (h + 5) 6) : zHV μ h 7 i = μ (h + 9) i := if_pos ⟨h0, h1⟩
theorem zHV_8 {μ : zM} {h : Nat} {i : Int} (h0 : 0 ≤ i) (h1 : i < μ (h + 5) 6) : zHV μ h 8 i = μ (h + 10) i := if_pos ⟨h0, h1⟩
theorem zHV_9 {μ : zM} {h : Nat} {i : Int} (h0 : 0 ≤ i) (h1 : i < μ (h + 5) 6) : zHV μ h 9 i = μ (h + 11) i := if_pos ⟨h0, h1⟩
theorem zHV_10 {μ : zM} {h : Nat} {i : Int} (h0 : 0 ≤ i) (h1 : i < μ (h + 12) 5) : zHV μ h 10 i = μ (h + 13) i := if_pos ⟨h0, h1⟩
theorem zHV_11 {μ : zM} {h : Nat} {i : Int} (h0 : 0 ≤ i) (h1 : i < μ (h + 12) 5) : zHV μ h 11 i = μ (h + 14) i := if_pos ⟨h0, h1⟩
theorem zHV_12 {μ : zM} {h : Nat} {i : Int} (h0 : 0 ≤ i) (h1 : i < μ (h + 12) 5) : zHV μ h 12 i = μ (h + 15) i := if_pos ⟨h0, h1⟩
theorem zHV_13 {μ : zM} {h : Nat} {i : Int} (h0 : 0 ≤ i) (h1 : i < μ (h + 12) 5) : zHV μ h 13 i = μ (h + 16) i := if_pos ⟨h0, h1⟩
theorem zHV_14 {μ : zM} {h : Nat} {i : Int} (h0 : 0 ≤ i) (h1 : i < μ (h + 12) 5) : zHV μ h 14 i = μ (h + 17) i := if_pos ⟨h0, h1⟩
theorem zHV_15 {μ : zM} {h : Nat} {i : Int} (h0 : 0 ≤ i) (h1 : i < μ (h + 18) 3) : zHV μ h 15 i = μ (h + 19) i := if_pos ⟨h0, h1⟩
theorem zHV_16 {μ : zM} {h : Nat} {i : Int} (h0 : 0 ≤ i) (h1 : i < μ (h + 18) 3) : zHV μ h 16 i = μ (h + 20) i := if_pos ⟨h0, h1⟩
theorem zHV_17 {μ : zM} {h : Nat} {i : Int} (h0 : 0 ≤ i) (h1 : i < μ (h + 18) 3) : zHV μ h 17 i = μ (h + 21) i := if_pos ⟨h0, h1⟩
theorem zBA_m {μ : zM} {h : Nat} {c : Int} : zBA (zHV μ h) c ↔ ∃ i, 0 ≤ i ∧ i < μ (h + 1) 3 ∧ μ (h + 4) i = c := ⟨fun ⟨i, a, b, e⟩ => ⟨i, a, b, by rw [zHV_2 a b] at e; exact e⟩, fun ⟨i, a, b, e⟩ => ⟨i, a, b, by rw [zHV_2 a b]; exact e⟩⟩
theorem zTK_m {μ : zM} {h : Nat} {s b : Int} : zTK (zHV μ h) s b ↔ ∃ k, 0 ≤ k ∧ k < μ (h + 5) 6 ∧ k ≠ s ∧ μ (h + 11) k = b := ⟨fun ⟨i, a, b, n, e⟩ => ⟨i, a, b, n, by rw [zHV_9 a b] at e; exact e⟩, fun ⟨i, a, b, n, e⟩ => ⟨i, a, b, n, by rw [zHV_9 a b]; exact e⟩⟩
/-- the numbers of a house in memory, out of its being in order -/
theorem zOK_n {μ : zM} {h : Nat} (ok : zOK (zHV μ h)) : (0 ≤ μ (h + 1) 3 ∧ μ (h + 1) 3 ≤ 6) ∧ (0 ≤ μ (h + 1) 4 ∧ μ (h + 1) 4 ≤ 9) ∧ (0 ≤ μ (h + 1) 5 ∧ μ (h + 1) 5 < 36) ∧ (0 ≤ μ (h + 5) 6 ∧ μ (h + 5) 6 ≤ 5) ∧ (0 ≤ μ (h + 12) 5 ∧ μ (h + 12) 5 ≤ 8) ∧ (0 ≤ μ (h + 18) 3 ∧ μ (h + 18) 3 ≤ 4) := ⟨ok.1.2.1, ok.1.2.2.2.1, ⟨ok.1.2.2.2.2.1, ok.1.2.2.2.2.2.1⟩, ok.2.1.1, ok.2.2.1.1, ok.2.2.2.1⟩
set_option maxRecDepth 100000 in
set_option maxHeartbeats 4000000 in
theorem k_X1_hasBed {l : Launch} {E : zE} {h : Nat} {μ : zM} (hh : zAt zp2 h) (ok : zOK (zHV μ h)) {b : Int} : Ct l E yX1_hasBed cX1_hasBed 2 (some .boolean) ({ frames := 0, cells := 0, slots := 0, locals := 0 }) [zR (h + 1), zI b] μ (fun r ν => r = some (zI (zb (0 ≤ b ∧ b < μ (h + 1) 3))) ∧ ν = μ) := by
  refine Ct.of RX1 [zR (h + 1), zI b] (by decide +kernel) rfl ⟨rfl, rfl⟩ rfl (Nat.le_of_ble_eq_true rfl) (fun X hX hc0 ha0 => ?_)
  subst hX
  refine z_iload_1 dX1_hasBed_0 ?_
  refine z_iflt (tgt := 16) dX1_hasBed_1 (by decide) (fun h_1 => ?_) (fun h_1 => ?_)
  · refine z_iconst dX1_hasBed_16 (by decide) ?_
    exact z_zret (by decide) dX1_hasBed_17 (by first | exact zb_r ⟨by omega, by omega⟩ rfl | exact zb_r0 (by omega) rfl)
  · refine z_iload_1 dX1_hasBed_4 ?_
    refine z_aload_0 dX1_hasBed_5 ?_
    refine z_getI 3 rfl f_X1_22 (hh.at 1 rfl) rfl dX1_hasBed_6 ?_
    refine z_icmpge (tgt := 16) dX1_hasBed_9 (by decide) (fun h_9 => ?_) (fun h_9 => ?_)
    · refine z_iconst dX1_hasBed_16 (by decide) ?_
      exact z_zret (by decide) dX1_hasBed_17 (by first | exact zb_r ⟨by omega, by omega⟩ rfl | exact zb_r0 (by omega) rfl)
    · refine z_iconst dX1_hasBed_12 (by decide) ?_
      refine z_goto (tgt := 17) dX1_hasBed_13 (by decide) ?_
      exact z_zret (by decide) dX1_hasBed_17 (by first | exact zb_r ⟨by omega, by omega⟩ rfl | exact zb_r0 (by omega) rfl)
set_option maxRecDepth 100000 in
set_option maxHeartbeats 4000000 in
theorem k_X1_hasBedAt {l : Launch} {E : zE} {h : Nat} {μ : zM} (hh : zAt zp2 h) (ok : zOK (zHV μ h)) {c : Int} : Ct l E yX1_hasBedAt cX1_hasBedAt 3 (some .boolean) ({ frames := 0, cells := 0, slots := 0, locals := 0 }) [zR (h + 1), zI c] μ (fun r ν => r = some (zI (zb (zBA (zHV μ h) c))) ∧ ν = μ) := by
  refine Ct.of RX1 [zR (h + 1), zI c, zU] (by decide +kernel) rfl ⟨rfl, rfl⟩ rfl (Nat.le_of_ble_eq_true rfl) (fun X hX hc0 ha0 => ?_)
  subst hX
  obtain ⟨nb, nf, nd, np, ns, nr⟩ := zOK_n ok
  have L2 : ∀ (k : Nat) (i : Int), 0 ≤ i → i ≤ μ (h + 1) 3 → (∀ j, 0 ≤ j → j < i → μ (h + 4) j ≠ c) → μ (h + 1) 3 - i < k → MW X E cX1_hasBedAt RX1 ({ frames := 0, cells := 0, slots := 0, locals := 0 }) (some .boolean) (fun r ν => r = some (zI (zb (zBA (zHV μ h) c))) ∧ ν = μ) 2 [zR (h + 1), zI c, zI i] [] μ := by
    intro k
    induction k with
    | zero => intro i h1 h2 hno h3; omega
    | succ k ih =>
      intro i h1 h2 hno h3
      refine z_iload_2 dX1_hasBedAt_2 ?_
      refine z_aload_0 dX1_hasBedAt_3 ?_
      refine z_getI 3 rfl f_X1_22 (hh.at 1 rfl) rfl dX1_hasBedAt_4 ?_
      refine z_icmpge (tgt := 28) dX1_hasBedAt_7 (by decide) (fun h_7 => ?_) (fun h_7 => ?_)
      · refine z_iconst dX1_hasBedAt_28 (by decide) ?_
        exact z_zret (by decide) dX1_hasBedAt_29 (zb_r0 (fun q => by obtain ⟨j, a, b, e⟩ := zBA_m.mp q; exact hno j a (by omega) e) rfl)
      · refine z_aload_0 dX1_hasBedAt_10 ?_
        refine z_getF (h + 4) 3 rfl f_X1_19 (hh.at 1 rfl) rfl rfl dX1_hasBedAt_11 ?_
        refine z_iload_2 dX1_hasBedAt_14 ?_
        refine z_iald (hh.at 4 rfl) (by omega) (by omega) dX1_hasBedAt_15 ?_
        refine z_iload_1 dX1_hasBedAt_16 ?_
        refine z_icmpne (tgt := 22) dX1_hasBedAt_17 (by decide) (fun h_17 => ?_) (fun h_17 => ?_)
        · refine z_iinc_2 rfl dX1_hasBedAt_22 (by omega) ?_
          refine z_goto (tgt := 2) dX1_hasBedAt_25 (by decide) ?_
          exact ih (i + 1) (by omega) (by omega) (fun j j0 j1 => by rcases Int.lt_or_eq_of_le (show j ≤ i by omega) with q | q; exact hno j j0 q; rw [q]; exact h_17) (by omega)
        · refine z_iconst dX1_hasBedAt_20 (by decide) ?_
          exact z_zret (by decide) dX1_hasBedAt_21 (zb_r (zBA_m.mpr ⟨i, by omega, by omega, by assumption⟩) rfl)
  refine z_iconst dX1_hasBedAt_0 (by decide) ?_
  refine z_istore_2 rfl dX1_hasBedAt_1 ?_
  exact L2 8 0 (by omega) (by omega) (fun j j0 j1 => by omega) (by omega)
/-- an answer and a picture -/
theorem zans {sp : Int × zM} {z : Int} {V2 : zM} {μ ν : zM} {h a n : Nat} (e : sp = (z, V2)) (hv : zHV ν h = V2) (hf : zFr a n μ ν) : (some (zI z) : Option zAV) = some (zI sp.1) ∧ zHV ν h = sp.2 ∧ zFr a n μ ν := by subst e; exact ⟨rfl, hv, hf⟩
set_option maxRecDepth 100000 in
set_option maxHeartbeats 4000000 in
theorem k_X1_setWall {l : Launch} {E : zE} {h : Nat} {μ : zM} (hh : zAt zp2 h) (ok : zOK (zHV μ h)) {c s : Int} (hs : s = 0 ∨ s = 1) : Ct l E yX1_setWall cX1_setWall 3 (some .int) ({ frames := 1, cells := 0, slots := 0, locals := 22 }) [zR (h + 1), zI c, zI s] μ (fun r ν => r = some (zI (spW (zHV μ h) c s).1) ∧ zHV ν h = (spW (zHV μ h) c s).2 ∧ zFr (h + 1) 4 μ ν) := by
  refine Ct.of RX1 [zR (h + 1), zI c, zI s] (by decide +kernel) rfl ⟨rfl, rfl⟩ rfl (Nat.le_of_ble_eq_true rfl) (fun X hX hc0 ha0 => ?_)
  subst hX
  obtain ⟨nb, nf, nd, np, ns, nr⟩ := zOK_n ok
  refine z_iload_1 dX1_setWall_0 ?_
  refine z_callN1 (k_X11_isCell) m_X11_isCell n_X1_38 (Nat.le_of_ble_eq_true rfl) ⟨Nat.le_of_ble_eq_true rfl, Nat.le_of_ble_eq_true rfl⟩ ⟨rfl, rfl⟩ dX1_setWall_1 (fun r μ1 hp => ?_)
  obtain ⟨rfl, hv⟩ := hp
  replace hv := hv.symm
  subst hv
  refine z_ifeq (tgt := 23) dX1_setWall_4 (by decide) (fun h_4 => ?_) (fun h_4 => ?_)
  · replace h_4 := zb_0.mp h_4
    refine z_bipush dX1_setWall_23 (by decide) ?_
    exact z_iret dX1_setWall_25 (zans (zif_t (by first | exact Or.inl h_4 | exact Or.inr (Or.inl h_12) | exact Or.inr (Or.inr h_20))) rfl zFr_rf)
  · replace h_4 := zb_n.mp h_4
    refine z_iload_1 dX1_setWall_7 ?_
    refine z_aload_0 dX1_setWall_8 ?_
    refine z_getI 5 rfl f_X1_29 (hh.at 1 rfl) rfl dX1_setWall_9 ?_
    refine z_icmpeq (tgt := 23) dX1_setWall_12 (by decide) (fun h_12 => ?_) (fun h_12 => ?_)
    · refine z_bipush dX1_setWall_23 (by decide) ?_
      exact z_iret dX1_setWall_25 (zans (zif_t (by first | exact Or.inl h_4 | exact Or.inr (Or.inl h_12) | exact Or.inr (Or.inr h_20))) rfl zFr_rf)
    · refine z_aload_0 dX1_setWall_15 ?_
      refine z_iload_1 dX1_setWall_16 ?_
      refine z_callV1 (k_X1_hasBedAt hh ok) m_X1_hasBedAt (hh.at 1 rfl) l_X1_42 (Nat.le_of_ble_eq_true rfl) ⟨Nat.le_of_ble_eq_true rfl, Nat.le_of_ble_eq_true rfl⟩ ⟨rfl, rfl⟩ dX1_setWall_17 (fun r μ1 hp => ?_)
      obtain ⟨rfl, hv⟩ := hp
      replace hv := hv.symm
      subst hv
      refine z_ifeq (tgt := 26) dX1_setWall_20 (by decide) (fun h_20 => ?_) (fun h_20 => ?_)
      · replace h_20 := zb_0.mp h_20
        refine z_aload_0 dX1_setWall_26 ?_
        refine z_getF (h + 2) 1 rfl f_X1_9 (hh.at 1 rfl) rfl rfl dX1_setWall_27 ?_
        refine z_iload_1 dX1_setWall_30 ?_
        refine z_zald (hh.at 2 rfl) (by omega) (by omega) dX1_setWall_31 ?_
        refine z_iload_2 dX1_setWall_32 ?_
        refine z_icmpne (tgt := 39) dX1_setWall_33 (by decide) (fun h_33 => ?_) (fun h_33 => ?_)
        · refine z_aload_0 dX1_setWall_39 ?_
          refine z_getF (h + 2) 1 rfl f_X1_9 (hh.at 1 rfl) rfl rfl dX1_setWall_40 ?_
          refine z_iload_1 dX1_setWall_43 ?_
          refine z_iload_2 dX1_setWall_44 ?_
          refine z_zast hs (hh.at 2 rfl) (by omega) (by omega) dX1_setWall_45 ?_
          refine z_iconst dX1_setWall_46 (by decide) ?_
          exact z_iret dX1_setWall_47 (zans ((zif_f (by rintro (q | q | q); exact q h_4; exact h_12 q; exact h_20 q)).trans (zif_f (by rw [zHV_0 h_4.1 h_4.2]; exact h_33))) (zHV_w h_4.1 h_4.2) (zFr_up (by omega) (by omega)))
        · refine z_bipush dX1_setWall_36 (by decide) ?_
          exact z_iret dX1_setWall_38 (zans ((zif_f (by rintro (q | q | q); exact q h_4; exact h_12 q; exact h_20 q)).trans (zif_t (by rw [zHV_0 h_4.1 h_4.2]; exact h_33))) rfl zFr_rf)
      · replace h_20 := zb_n.mp h_20
        refine z_bipush dX1_setWall_23 (by decide) ?_
        exact z_iret dX1_setWall_25 (zans (zif_t (by first | exact Or.inl h_4 | exact Or.inr (Or.inl h_12) | exact Or.inr (Or.inr h_20))) rfl zFr_rf)
set_option maxRecDepth 100000 in
set_option maxHeartbeats 4000000 in
theorem k_X1_setCreak {l : Launch} {E : zE} {h : Nat} {μ : zM} (hh : zAt zp2 h) (ok : zOK (zHV μ h)) {c s : Int} : Ct l E yX1_setCreak cX1_setCreak 4 (some .int) ({ frames := 1, cells := 0, slots := 0, locals := 22 }) [zR (h + 1), zI c, zI s] μ (fun r ν => r = some (zI (spC (zHV μ h) c s).1) ∧ zHV ν h = (spC (zHV μ h) c s).2 ∧ zFr (h + 1) 4 μ ν) := by
  refine Ct.of RX1 [zR (h + 1), zI c, zI s, zU] (by decide +kernel) rfl ⟨rfl, rfl⟩ rfl (Nat.le_of_ble_eq_true rfl) (fun X hX hc0 ha0 => ?_)
  subst hX
  obtain ⟨nb, nf, nd, np, ns, nr⟩ := zOK_n ok
  refine z_iload_1 dX1_setCreak_0 ?_
  refine z_callN1 (k_X11_isCell) m_X11_isCell n_X1_38 (Nat.le_of_ble_eq_true rfl) ⟨Nat.le_of_ble_eq_true rfl, Nat.le_of_ble_eq_true rfl⟩ ⟨rfl, rfl⟩ dX1_setCreak_1 (fun r μ1 hp => ?_)
  obtain ⟨rfl, hv⟩ := hp
  replace hv := hv.symm
  subst hv
  refine z_ifeq (tgt := 17) dX1_setCreak_4 (by decide) (fun h_4 => ?_) (fun h_4 => ?_)
  · replace h_4 := zb_0.mp h_4
    refine z_bipush dX1_setCreak_17 (by decide) ?_
    exact z_iret dX1_setCreak_19 (zans (zif_t (by first | exact Or.inl h_4 | exact Or.inr h_14)) rfl zFr_rf)
  · replace h_4 := zb_n.mp h_4
    refine z_iload_2 dX1_setCreak_7 ?_
    refine z_iconst dX1_setCreak_8 (by decide) ?_
    refine z_bipush dX1_setCreak_9 (by decide) ?_
    refine z_callN3 (k_X11_isIn) m_X11_isIn n_X1_45 (Nat.le_of_ble_eq_true rfl) ⟨Nat.le_of_ble_eq_true rfl, Nat.le_of_ble_eq_true rfl⟩ ⟨rfl, rfl⟩ dX1_setCreak_11 (fun r μ1 hp => ?_)
    obtain ⟨rfl, hv⟩ := hp
    replace hv := hv.symm
    subst hv
    refine z_ifne (tgt := 20) dX1_setCreak_14 (by decide) (fun h_14 => ?_) (fun h_14 => ?_)
    · replace h_14 := zb_n.mp h_14
      refine z_aload_0 dX1_setCreak_20 ?_
      refine z_getF (h + 3) 2 rfl f_X1_15 (hh.at 1 rfl) rfl rfl dX1_setCreak_21 ?_
      refine z_iload_1 dX1_setCreak_24 ?_
      refine z_iald (hh.at 3 rfl) (by omega) (by omega) dX1_setCreak_25 ?_
      refine z_istore_3 rfl dX1_setCreak_26 ?_
      refine z_aload_0 dX1_setCreak_27 ?_
      refine z_getF (h + 3) 2 rfl f_X1_15 (hh.at 1 rfl) rfl rfl dX1_setCreak_28 ?_
      refine z_iload_1 dX1_setCreak_31 ?_
      refine z_iload_2 dX1_setCreak_32 ?_
      refine z_iast (hh.at 3 rfl) (by omega) (by omega) dX1_setCreak_33 ?_
      refine z_iload_3 dX1_setCreak_34 ?_
      exact z_iret dX1_setCreak_35 (zans ((zif_f (by rintro (q | q); exact q h_4; exact q h_14)).trans (by rw [zHV_1 h_4.1 h_4.2])) (zHV_c h_4.1 h_4.2) (zFr_up (by omega) (by omega)))
    · replace h_14 := zb_0.mp h_14
      refine z_bipush dX1_setCreak_17 (by decide) ?_
      exact z_iret dX1_setCreak_19 (zans (zif_t (by first | exact Or.inl h_4 | exact Or.inr h_14)) rfl zFr_rf)
set_option maxRecDepth 100000 in
set_option maxHeartbeats 4000000 in
theorem k_X1_setFade {l : Launch} {E : zE} {h : Nat} {μ : zM} (hh : zAt zp2 h) (ok : zOK (zHV μ h)) {v : Int} : Ct l E yX1_setFade cX1_setFade 3 (some .int) ({ frames := 1, cells := 0, slots := 0, locals := 22 }) [zR (h + 1), zI v] μ (fun r ν => r = some (zI (spF (zHV μ h) v).1) ∧ zHV ν h = (spF (zHV μ h) v).2 ∧ zFr (h + 1) 4 μ ν) := by
  refine Ct.of RX1 [zR (h + 1), zI v, zU] (by decide +kernel) rfl ⟨rfl, rfl⟩ rfl (Nat.le_of_ble_eq_true rfl) (fun X hX hc0 ha0 => ?_)
  subst hX
  obtain ⟨nb, nf, nd, np, ns, nr⟩ := zOK_n ok
  refine z_iload_1 dX1_setFade_0 ?_
  refine z_iconst dX1_setFade_1 (by decide) ?_
  refine z_bipush dX1_setFade_2 (by decide) ?_
  refine z_callN3 (k_X11_isIn) m_X11_isIn n_X1_45 (Nat.le_of_ble_eq_true rfl) ⟨Nat.le_of_ble_eq_true rfl, Nat.le_of_ble_eq_true rfl⟩ ⟨rfl, rfl⟩ dX1_setFade_4 (fun r μ1 hp => ?_)
  obtain ⟨rfl, hv⟩ := hp
  replace hv := hv.symm
  subst hv
  refine z_ifne (tgt := 13) dX1_setFade_7 (by decide) (fun h_7 => ?_) (fun h_7 => ?_)
  · replace h_7 := zb_n.mp h_7
    refine z_aload_0 dX1_setFade_13 ?_
    refine z_getI 4 rfl f_X1_26 (hh.at 1 rfl) rfl dX1_setFade_14 ?_
    refine z_istore_2 rfl dX1_setFade_17 ?_
    refine z_aload_0 dX1_setFade_18 ?_
    refine z_iload_1 dX1_setFade_19 ?_
    refine z_putI 4 rfl f_X1_26 p_1_4 (hh.at 1 rfl) rfl rfl dX1_setFade_20 ?_
    refine z_iload_2 dX1_setFade_23 ?_
    exact z_iret dX1_setFade_24 (zans (zif_f (fun q => q h_7)) zHV_f (zFr_up (by omega) (by omega)))
  · replace h_7 := zb_0.mp h_7
    refine z_bipush dX1_setFade_10 (by decide) ?_
    exact z_iret dX1_setFade_12 (zans (zif_t h_7) rfl zFr_rf)
set_option maxRecDepth 100000 in
set_option maxHeartbeats 4000000 in
theorem k_X1_setDoor {l : Launch} {E : zE} {h : Nat} {μ : zM} (hh : zAt zp2 h) (ok : zOK (zHV μ h)) {v : Int} : Ct l E yX1_setDoor cX1_setDoor 3 (some .int) ({ frames := 1, cells := 0, slots := 0, locals := 20 }) [zR (h + 1), zI v] μ (fun r ν => r = some (zI (spD (zHV μ h) v).1) ∧ zHV ν h = (spD (zHV μ h) v).2 ∧ zFr (h + 1) 4 μ ν) := by
  refine Ct.of RX1 [zR (h + 1), zI v, zU] (by decide +kernel) rfl ⟨rfl, rfl⟩ rfl (Nat.le_of_ble_eq_true rfl) (fun X hX hc0 ha0 => ?_)
  subst hX
  obtain ⟨nb, nf, nd, np, ns, nr⟩ := zOK_n ok
  refine z_iload_1 dX1_setDoor_0 ?_
  refine z_callN1 (k_X11_isCell) m_X11_isCell n_X1_38 (Nat.le_of_ble_eq_true rfl) ⟨Nat.le_of_ble_eq_true rfl, Nat.le_of_ble_eq_true rfl⟩ ⟨rfl, rfl⟩ dX1_setDoor_1 (fun r μ1 hp => ?_)
  obtain ⟨rfl, hv⟩ := hp
  replace hv := hv.symm
  subst hv
  refine z_ifeq (tgt := 16) dX1_setDoor_4 (by decide) (fun h_4 => ?_) (fun h_4 => ?_)
  · replace h_4 := zb_0.mp h_4
    refine z_bipush dX1_setDoor_16 (by decide) ?_
    exact z_iret dX1_setDoor_18 (zans (zif_t (by first | exact Or.inl h_4 | exact Or.inr (by rw [zHV_0 h_4.1 h_4.2]; omega))) rfl zFr_rf)
  · replace h_4 := zb_n.mp h_4
    refine z_aload_0 dX1_setDoor_7 ?_
    refine z_getF (h + 2) 1 rfl f_X1_9 (hh.at 1 rfl) rfl rfl dX1_setDoor_8 ?_
    refine z_iload_1 dX1_setDoor_11 ?_
    refine z_zald (hh.at 2 rfl) (by omega) (by omega) dX1_setDoor_12 ?_
    refine z_ifeq (tgt := 19) dX1_setDoor_13 (by decide) (fun h_13 => ?_) (fun h_13 => ?_)
    · have w := (ok.1.1 v h_4.1 h_4.2).1
      rw [zHV_0 h_4.1 h_4.2] at w
      refine z_aload_0 dX1_setDoor_19 ?_
      refine z_getI 5 rfl f_X1_29 (hh.at 1 rfl) rfl dX1_setDoor_20 ?_
      refine z_istore_2 rfl dX1_setDoor_23 ?_
      refine z_aload_0 dX1_setDoor_24 ?_
      refine z_iload_1 dX1_setDoor_25 ?_
      refine z_putI 5 rfl f_X1_29 p_1_5 (hh.at 1 rfl) rfl rfl dX1_setDoor_26 ?_
      refine z_iload_2 dX1_setDoor_29 ?_
      exact z_iret dX1_setDoor_30 (zans (zif_f (by rintro (q | q); exact q h_4; rw [zHV_0 h_4.1 h_4.2] at q; omega)) zHV_d (zFr_up (by omega) (by omega)))
    · have w := (ok.1.1 v h_4.1 h_4.2).1
      rw [zHV_0 h_4.1 h_4.2] at w
      refine z_bipush dX1_setDoor_16 (by decide) ?_
      exact z_iret dX1_setDoor_18 (zans (zif_t (by first | exact Or.inl h_4 | exact Or.inr (by rw [zHV_0 h_4.1 h_4.2]; omega))) rfl zFr_rf)
set_option maxRecDepth 100000 in
set_option maxHeartbeats 4000000 in
theorem k_X1_addBed {l : Launch} {E : zE} {h : Nat} {μ : zM} (hh : zAt zp2 h) (ok : zOK (zHV μ h)) {c : Int} : Ct l E yX1_addBed cX1_addBed 2 (some .int) ({ frames := 1, cells := 0, slots := 0, locals := 22 }) [zR (h + 1), zI c] μ (fun r ν => r = some (zI (spB (zHV μ h) c).1) ∧ zHV ν h = (spB (zHV μ h) c).2 ∧ zFr (h + 1) 4 μ ν) := by
  refine Ct.of RX1 [zR (h + 1), zI c] (by decide +kernel) rfl ⟨rfl, rfl⟩ rfl (Nat.le_of_ble_eq_true rfl) (fun X hX hc0 ha0 => ?_)
  subst hX
  obtain ⟨nb, nf, nd, np, ns, nr⟩ := zOK_n ok
  refine z_iload_1 dX1_addBed_0 ?_
  refine z_callN1 (k_X11_isCell) m_X11_isCell n_X1_38 (Nat.le_of_ble_eq_true rfl) ⟨Nat.le_of_ble_eq_true rfl, Nat.le_of_ble_eq_true rfl⟩ ⟨rfl, rfl⟩ dX1_addBed_1 (fun r μ1 hp => ?_)
  obtain ⟨rfl, hv⟩ := hp
  replace hv := hv.symm
  subst hv
  refine z_ifeq (tgt := 24) dX1_addBed_4 (by decide) (fun h_4 => ?_) (fun h_4 => ?_)
  · replace h_4 := zb_0.mp h_4
    refine z_bipush dX1_addBed_24 (by decide) ?_
    exact z_iret dX1_addBed_26 (zans (zif_t (by first | exact Or.inl h_4 | exact Or.inr (Or.inr h_21) | exact Or.inr (Or.inl (by rw [zHV_0 h_4.1 h_4.2]; omega)))) rfl zFr_rf)
  · replace h_4 := zb_n.mp h_4
    refine z_aload_0 dX1_addBed_7 ?_
    refine z_getF (h + 2) 1 rfl f_X1_9 (hh.at 1 rfl) rfl rfl dX1_addBed_8 ?_
    refine z_iload_1 dX1_addBed_11 ?_
    refine z_zald (hh.at 2 rfl) (by omega) (by omega) dX1_addBed_12 ?_
    refine z_ifne (tgt := 24) dX1_addBed_13 (by decide) (fun h_13 => ?_) (fun h_13 => ?_)
    · have w := (ok.1.1 c h_4.1 h_4.2).1
      rw [zHV_0 h_4.1 h_4.2] at w
      refine z_bipush dX1_addBed_24 (by decide) ?_
      exact z_iret dX1_addBed_26 (zans (zif_t (by first | exact Or.inl h_4 | exact Or.inr (Or.inr h_21) | exact Or.inr (Or.inl (by rw [zHV_0 h_4.1 h_4.2]; omega)))) rfl zFr_rf)
    · have w := (ok.1.1 c h_4.1 h_4.2).1
      rw [zHV_0 h_4.1 h_4.2] at w
      refine z_aload_0 dX1_addBed_16 ?_
      refine z_iload_1 dX1_addBed_17 ?_
      refine z_callV1 (k_X1_hasBedAt hh ok) m_X1_hasBedAt (hh.at 1 rfl) l_X1_42 (Nat.le_of_ble_eq_true rfl) ⟨Nat.le_of_ble_eq_true rfl, Nat.le_of_ble_eq_true rfl⟩ ⟨rfl, rfl⟩ dX1_addBed_18 (fun r μ1 hp => ?_)
      obtain ⟨rfl, hv⟩ := hp
      replace hv := hv.symm
      subst hv
      refine z_ifeq (tgt := 27) dX1_addBed_21 (by decide) (fun h_21 => ?_) (fun h_21 => ?_)
      · replace h_21 := zb_0.mp h_21
        refine z_aload_0 dX1_addBed_27 ?_
        refine z_getI 3 rfl f_X1_22 (hh.at 1 rfl) rfl dX1_addBed_28 ?_
        refine z_bipush dX1_addBed_31 (by decide) ?_
        refine z_icmplt (tgt := 39) dX1_addBed_33 (by decide) (fun h_33 => ?_) (fun h_33 => ?_)
        · refine z_aload_0 dX1_addBed_39 ?_
          refine z_getF (h + 4) 3 rfl f_X1_19 (hh.at 1 rfl) rfl rfl dX1_addBed_40 ?_
          refine z_aload_0 dX1_addBed_43 ?_
          refine z_getI 3 rfl f_X1_22 (hh.at 1 rfl) rfl dX1_addBed_44 ?_
          refine z_iload_1 dX1_addBed_47 ?_
          refine z_iast (hh.at 4 rfl) (by omega) (by omega) dX1_addBed_48 ?_
          refine z_aload_0 dX1_addBed_49 ?_
          refine z_dup dX1_addBed_50 rfl ?_
          refine z_getI 3 rfl f_X1_22 (hh.at 1 rfl) rfl dX1_addBed_51 ?_
          simp only [zup_ap, Nat.reduceEqDiff, Nat.add_left_cancel_iff, Nat.reduceAdd, Nat.left_eq_add, Nat.add_eq_left, false_and, true_and, and_false, if_false, if_true, reduceCtorEq, Int.reduceEq]
          refine z_dup_x1 dX1_addBed_54 rfl rfl ?_
          refine z_iconst dX1_addBed_55 (by decide) ?_
          refine z_iadd dX1_addBed_56 (by omega) ?_
          refine z_putI 3 rfl f_X1_22 p_1_3 (hh.at 1 rfl) rfl rfl dX1_addBed_57 ?_
          simp only [zup_ap, Nat.reduceEqDiff, Nat.add_left_cancel_iff, Nat.reduceAdd, Nat.left_eq_add, Nat.add_eq_left, false_and, true_and, and_false, if_false, if_true, reduceCtorEq, Int.reduceEq]
          exact z_iret dX1_addBed_60 (zans ((zif_f (by rintro (q | q | q); exact q h_4; rw [zHV_0 h_4.1 h_4.2] at q; omega; exact h_21 q)).trans (zif_f (by rw [zHV_bc]; omega))) (zHV_b rfl nb.1) (zFr_tr (zFr_up (by omega) (by omega)) (zFr_up (by omega) (by omega))))
        · refine z_bipush dX1_addBed_36 (by decide) ?_
          exact z_iret dX1_addBed_38 (zans ((zif_f (by rintro (q | q | q); exact q h_4; rw [zHV_0 h_4.1 h_4.2] at q; omega; exact h_21 q)).trans (zif_t (by rw [zHV_bc]; omega))) rfl zFr_rf)
      · replace h_21 := zb_n.mp h_21
        refine z_bipush dX1_addBed_24 (by decide) ?_
        exact z_iret dX1_addBed_26 (zans (zif_t (by first | exact Or.inl h_4 | exact Or.inr (Or.inr h_21) | exact Or.inr (Or.inl (by rw [zHV_0 h_4.1 h_4.2]; omega)))) rfl zFr_rf)
set_option maxRecDepth 100000 in
set_option maxHeartbeats 4000000 in
theorem k_X5_has {l : Launch} {E : zE} {h : Nat} {μ : zM} (hh : zAt zp2 h) (ok : zOK (zHV μ h)) {s : Int} : Ct l E yX5_has cX5_has 2 (some .boolean) ({ frames := 0, cells := 0, slots := 0, locals := 0 }) [zR (h + 5), zI s] μ (fun r ν => r = some (zI (zb (0 ≤ s ∧ s < μ (h + 5) 6))) ∧ ν = μ) := by
  refine Ct.of RX5 [zR (h + 5), zI s] (by decide +kernel) rfl ⟨rfl, rfl⟩ rfl (Nat.le_of_ble_eq_true rfl) (fun X hX hc0 ha0 => ?_)
  subst hX
  refine z_iload_1 dX5_has_0 ?_
  refine z_iflt (tgt := 16) dX5_has_1 (by decide) (fun h_1 => ?_) (fun h_1 => ?_)
  · refine z_iconst dX5_has_16 (by decide) ?_
    exact z_zret (by decide) dX5_has_17 (by first | exact zb_r ⟨by omega, by omega⟩ rfl | exact zb_r0 (by omega) rfl)
  · refine z_iload_1 dX5_has_4 ?_
    refine z_aload_0 dX5_has_5 ?_
    refine z_getI 6 rfl f_X5_30 (hh.at 5 rfl) rfl dX5_has_6 ?_
    refine z_icmpge (tgt := 16) dX5_has_9 (by decide) (fun h_9 => ?_) (fun h_9 => ?_)
    · refine z_iconst dX5_has_16 (by decide) ?_
      exact z_zret (by decide) dX5_has_17 (by first | exact zb_r ⟨by omega, by omega⟩ rfl | exact zb_r0 (by omega) rfl)
    · refine z_iconst dX5_has_12 (by decide) ?_
      refine z_goto (tgt := 17) dX5_has_13 (by decide) ?_
      exact z_zret (by decide) dX5_has_17 (by first | exact zb_r ⟨by omega, by omega⟩ rfl | exact zb_r0 (by omega) rfl)
set_option maxRecDepth 100000 in
set_option maxHeartbeats 4000000 in
theorem k_X5_add {l : Launch} {E : zE} {h : Nat} {μ : zM} (hh : zAt zp2 h) (ok : zOK (zHV μ h)) {a b c d e : Int} : Ct l E yX5_add cX5_add 6 (some .int) ({ frames := 1, cells := 0, slots := 0, locals := 22 }) [zR (h + 5), zI a, zI b, zI c, zI d, zI e] μ (fun r ν => r = some (zI (spS (zHV μ h) a b c d e).1) ∧ zHV ν h = (spS (zHV μ h) a b c d e).2 ∧ zFr (h + 5) 7 μ ν) := by
  refine Ct.of RX5 [zR (h + 5), zI a, zI b, zI c, zI d, zI e] (by decide +kernel) rfl ⟨rfl, rfl⟩ rfl (Nat.le_of_ble_eq_true rfl) (fun X hX hc0 ha0 => ?_)
  subst hX
  obtain ⟨nb, nf, nd, np, ns, nr⟩ := zOK_n ok
  refine z_iload_1 dX5_add_0 ?_
  refine z_iconst dX5_add_1 (by decide) ?_
  refine z_bipush dX5_add_2 (by decide) ?_
  refine z_callN3 (k_X11_isIn) m_X11_isIn n_X5_40 (Nat.le_of_ble_eq_true rfl) ⟨Nat.le_of_ble_eq_true rfl, Nat.le_of_ble_eq_true rfl⟩ ⟨rfl, rfl⟩ dX5_add_4 (fun r μ1 hp => ?_)
  obtain ⟨rfl, hv⟩ := hp
  replace hv := hv.symm
  subst hv
  refine z_ifeq (tgt := 54) dX5_add_7 (by decide) (fun h_7 => ?_) (fun h_7 => ?_)
  · replace h_7 := zb_0.mp h_7
    refine z_bipush dX5_add_54 (by decide) ?_
    exact z_iret dX5_add_56 (zans (zif_t (by first | exact Or.inl h_7 | exact Or.inr (Or.inl h_17) | exact Or.inr (Or.inr (Or.inl h_27)) | exact Or.inr (Or.inr (Or.inr (Or.inl h_40))) | exact Or.inr (Or.inr (Or.inr (Or.inr h_51))))) rfl zFr_rf)
  · replace h_7 := zb_n.mp h_7
    refine z_iload_2 dX5_add_10 ?_
    refine z_iconst dX5_add_11 (by decide) ?_
    refine z_bipush dX5_add_12 (by decide) ?_
    refine z_callN3 (k_X11_isIn) m_X11_isIn n_X5_40 (Nat.le_of_ble_eq_true rfl) ⟨Nat.le_of_ble_eq_true rfl, Nat.le_of_ble_eq_true rfl⟩ ⟨rfl, rfl⟩ dX5_add_14 (fun r μ1 hp => ?_)
    obtain ⟨rfl, hv⟩ := hp
    replace hv := hv.symm
    subst hv
    refine z_ifeq (tgt := 54) dX5_add_17 (by decide) (fun h_17 => ?_) (fun h_17 => ?_)
    · replace h_17 := zb_0.mp h_17
      refine z_bipush dX5_add_54 (by decide) ?_
      exact z_iret dX5_add_56 (zans (zif_t (by first | exact Or.inl h_7 | exact Or.inr (Or.inl h_17) | exact Or.inr (Or.inr (Or.inl h_27)) | exact Or.inr (Or.inr (Or.inr (Or.inl h_40))) | exact Or.inr (Or.inr (Or.inr (Or.inr h_51))))) rfl zFr_rf)
    · replace h_17 := zb_n.mp h_17
      refine z_iload_3 dX5_add_20 ?_
      refine z_iconst dX5_add_21 (by decide) ?_
      refine z_bipush dX5_add_22 (by decide) ?_
      refine z_callN3 (k_X11_isIn) m_X11_isIn n_X5_40 (Nat.le_of_ble_eq_true rfl) ⟨Nat.le_of_ble_eq_true rfl, Nat.le_of_ble_eq_true rfl⟩ ⟨rfl, rfl⟩ dX5_add_24 (fun r μ1 hp => ?_)
      obtain ⟨rfl, hv⟩ := hp
      replace hv := hv.symm
      subst hv
      refine z_ifeq (tgt := 54) dX5_add_27 (by decide) (fun h_27 => ?_) (fun h_27 => ?_)
      · replace h_27 := zb_0.mp h_27
        refine z_bipush dX5_add_54 (by decide) ?_
        exact z_iret dX5_add_56 (zans (zif_t (by first | exact Or.inl h_7 | exact Or.inr (Or.inl h_17) | exact Or.inr (Or.inr (Or.inl h_27)) | exact Or.inr (Or.inr (Or.inr (Or.inl h_40))) | exact Or.inr (Or.inr (Or.inr (Or.inr h_51))))) rfl zFr_rf)
      · replace h_27 := zb_n.mp h_27
        refine z_iload_4 dX5_add_30 ?_
        refine z_iload_3 dX5_add_32 ?_
        refine z_iconst dX5_add_33 (by decide) ?_
        refine z_iadd dX5_add_34 (by omega) ?_
        refine z_bipush dX5_add_35 (by decide) ?_
        refine z_callN3 (k_X11_isIn) m_X11_isIn n_X5_40 (Nat.le_of_ble_eq_true rfl) ⟨Nat.le_of_ble_eq_true rfl, Nat.le_of_ble_eq_true rfl⟩ ⟨rfl, rfl⟩ dX5_add_37 (fun r μ1 hp => ?_)
        obtain ⟨rfl, hv⟩ := hp
        replace hv := hv.symm
        subst hv
        refine z_ifeq (tgt := 54) dX5_add_40 (by decide) (fun h_40 => ?_) (fun h_40 => ?_)
        · replace h_40 := zb_0.mp h_40
          refine z_bipush dX5_add_54 (by decide) ?_
          exact z_iret dX5_add_56 (zans (zif_t (by first | exact Or.inl h_7 | exact Or.inr (Or.inl h_17) | exact Or.inr (Or.inr (Or.inl h_27)) | exact Or.inr (Or.inr (Or.inr (Or.inl h_40))) | exact Or.inr (Or.inr (Or.inr (Or.inr h_51))))) rfl zFr_rf)
        · replace h_40 := zb_n.mp h_40
          refine z_iload_5 dX5_add_43 ?_
          refine z_iconst dX5_add_45 (by decide) ?_
          refine z_bipush dX5_add_46 (by decide) ?_
          refine z_callN3 (k_X11_isIn) m_X11_isIn n_X5_40 (Nat.le_of_ble_eq_true rfl) ⟨Nat.le_of_ble_eq_true rfl, Nat.le_of_ble_eq_true rfl⟩ ⟨rfl, rfl⟩ dX5_add_48 (fun r μ1 hp => ?_)
          obtain ⟨rfl, hv⟩ := hp
          replace hv := hv.symm
          subst hv
          refine z_ifne (tgt := 57) dX5_add_51 (by decide) (fun h_51 => ?_) (fun h_51 => ?_)
          · replace h_51 := zb_n.mp h_51
            refine z_aload_0 dX5_add_57 ?_
            refine z_getI 6 rfl f_X5_30 (hh.at 5 rfl) rfl dX5_add_58 ?_
            refine z_iconst dX5_add_61 (by decide) ?_
            refine z_icmplt (tgt := 68) dX5_add_62 (by decide) (fun h_62 => ?_) (fun h_62 => ?_)
            · refine z_aload_0 dX5_add_68 ?_
              refine z_getF (h + 6) 1 rfl f_X5_9 (hh.at 5 rfl) rfl rfl dX5_add_69 ?_
              refine z_aload_0 dX5_add_72 ?_
              refine z_getI 6 rfl f_X5_30 (hh.at 5 rfl) rfl dX5_add_73 ?_
              refine z_iload_1 dX5_add_76 ?_
              refine z_iast (hh.at 6 rfl) (by omega) (by omega) dX5_add_77 ?_
              refine z_aload_0 dX5_add_78 ?_
              refine z_getF (h + 7) 2 rfl f_X5_15 (hh.at 5 rfl) rfl rfl dX5_add_79 ?_
              refine z_aload_0 dX5_add_82 ?_
              refine z_getI 6 rfl f_X5_30 (hh.at 5 rfl) rfl dX5_add_83 ?_
              simp only [zup_ap, Nat.reduceEqDiff, Nat.add_left_cancel_iff, Nat.reduceAdd, Nat.left_eq_add, Nat.add_eq_left, false_and, true_and, and_false, if_false, if_true, reduceCtorEq, Int.reduceEq]
              refine z_iload_2 dX5_add_86 ?_
              refine z_iast (hh.at 7 rfl) (by omega) (by omega) dX5_add_87 ?_
              refine z_aload_0 dX5_add_88 ?_
              refine z_getF (h + 8) 3 rfl f_X5_18 (hh.at 5 rfl) rfl rfl dX5_add_89 ?_
              refine z_aload_0 dX5_add_92 ?_
              refine z_getI 6 rfl f_X5_30 (hh.at 5 rfl) rfl dX5_add_93 ?_
              simp only [zup_ap, Nat.reduceEqDiff, Nat.add_left_cancel_iff, Nat.reduceAdd, Nat.left_eq_add, Nat.add_eq_left, false_and, true_and, and_false, if_false, if_true, reduceCtorEq, Int.reduceEq]
              refine z_iload_3 dX5_add_96 ?_
              refine z_iast (hh.at 8 rfl) (by omega) (by omega) dX5_add_97 ?_
              refine z_aload_0 dX5_add_98 ?_
              refine z_getF (h + 9) 4 rfl f_X5_21 (hh.at 5 rfl) rfl rfl dX5_add_99 ?_
              refine z_aload_0 dX5_add_102 ?_
              refine z_getI 6 rfl f_X5_30 (hh.at 5 rfl) rfl dX5_add_103 ?_
              simp only [zup_ap, Nat.reduceEqDiff, Nat.add_left_cancel_iff, Nat.reduceAdd, Nat.left_eq_add, Nat.add_eq_left, false_and, true_and, and_false, if_false, if_true, reduceCtorEq, Int.reduceEq]
              refine z_iload_4 dX5_add_106 ?_
              refine z_iast (hh.at 9 rfl) (by omega) (by omega) dX5_add_108 ?_
              refine z_aload_0 dX5_add_109 ?_
              refine z_getF (h + 10) 5 rfl f_X5_24 (hh.at 5 rfl) rfl rfl dX5_add_110 ?_
              refine z_aload_0 dX5_add_113 ?_
              refine z_getI 6 rfl f_X5_30 (hh.at 5 rfl) rfl dX5_add_114 ?_
              simp only [zup_ap, Nat.reduceEqDiff, Nat.add_left_cancel_iff, Nat.reduceAdd, Nat.left_eq_add, Nat.add_eq_left, false_and, true_and, and_false, if_false, if_true, reduceCtorEq, Int.reduceEq]
              refine z_iload_5 dX5_add_117 ?_
              refine z_iast (hh.at 10 rfl) (by omega) (by omega) dX5_add_119 ?_
              refine z_aload_0 dX5_add_120 ?_
              refine z_getF (h + 11) 6 rfl f_X5_27 (hh.at 5 rfl) rfl rfl dX5_add_121 ?_
              refine z_aload_0 dX5_add_124 ?_
              refine z_getI 6 rfl f_X5_30 (hh.at 5 rfl) rfl dX5_add_125 ?_
              simp only [zup_ap, Nat.reduceEqDiff, Nat.add_left_cancel_iff, Nat.reduceAdd, Nat.left_eq_add, Nat.add_eq_left, false_and, true_and, and_false, if_false, if_true, reduceCtorEq, Int.reduceEq]
              refine z_iconst dX5_add_128 (by decide) ?_
              refine z_iast (hh.at 11 rfl) (by omega) (by omega) dX5_add_129 ?_
              refine z_aload_0 dX5_add_130 ?_
              refine z_dup dX5_add_131 rfl ?_
              refine z_getI 6 rfl f_X5_30 (hh.at 5 rfl) rfl dX5_add_132 ?_
              simp only [zup_ap, Nat.reduceEqDiff, Nat.add_left_cancel_iff, Nat.reduceAdd, Nat.left_eq_add, Nat.add_eq_left, false_and, true_and, and_false, if_false, if_true, reduceCtorEq, Int.reduceEq]
              refine z_dup_x1 dX5_add_135 rfl rfl ?_
              refine z_iconst dX5_add_136 (by decide) ?_
              refine z_iadd dX5_add_137 (by omega) ?_
              refine z_putI 6 rfl f_X5_30 p_5_6 (hh.at 5 rfl) rfl rfl dX5_add_138 ?_
              simp only [zup_ap, Nat.reduceEqDiff, Nat.add_left_cancel_iff, Nat.reduceAdd, Nat.left_eq_add, Nat.add_eq_left, false_and, true_and, and_false, if_false, if_true, reduceCtorEq, Int.reduceEq]
              exact z_iret dX5_add_141 (zans ((zif_f (by rintro (q | q | q | q | q); exact q h_7; exact q h_17; exact q h_27; exact q h_40; exact q h_51)).trans (zif_f (by rw [zHV_pc]; omega))) (zHV_p rfl np.1) (zFr_tr (zFr_tr (zFr_tr (zFr_tr (zFr_tr (zFr_tr (zFr_up (by omega) (by omega)) (zFr_up (by omega) (by omega))) (zFr_up (by omega) (by omega))) (zFr_up (by omega) (by omega))) (zFr_up (by omega) (by omega))) (zFr_up (by omega) (by omega))) (zFr_up (by omega) (by omega))))
            · refine z_bipush dX5_add_65 (by decide) ?_
              exact z_iret dX5_add_67 (zans ((zif_f (by rintro (q | q | q | q | q); exact q h_7; exact q h_17; exact q h_27; exact q h_40; exact q h_51)).trans (zif_t (by rw [zHV_pc]; omega))) rfl zFr_rf)
          · replace h_51 := zb_0.mp h_51
            refine z_bipush dX5_add_54 (by decide) ?_
            exact z_iret dX5_add_56 (zans (zif_t (by first | exact Or.inl h_7 | exact Or.inr (Or.inl h_17) | exact Or.inr (Or.inr (Or.inl h_27)) | exact Or.inr (Or.inr (Or.inr (Or.inl h_40))) | exact Or.inr (Or.inr (Or.inr (Or.inr h_51))))) rfl zFr_rf)
set_option maxRecDepth 100000 in
set_option maxHeartbeats 4000000 in
theorem k_X5_isTakenFor {l : Launch} {E : zE} {h : Nat} {μ : zM} (hh : zAt zp2 h) (ok : zOK (zHV μ h)) {s b : Int} : Ct l E yX5_isTakenFor cX5_isTakenFor 4 (some .boolean) ({ frames := 0, cells := 0, slots := 0, locals := 0 }) [zR (h + 5), zI s, zI b] μ (fun r ν => r = some (zI (zb (zTK (zHV μ h) s b))) ∧ ν = μ) := by
  refine Ct.of RX5 [zR (h + 5), zI s, zI b, zU] (by decide +kernel) rfl ⟨rfl, rfl⟩ rfl (Nat.le_of_ble_eq_true rfl) (fun X hX hc0 ha0 => ?_)
  subst hX
  obtain ⟨nb, nf, nd, np, ns, nr⟩ := zOK_n ok
  have L2 : ∀ (k : Nat) (i : Int), 0 ≤ i → i ≤ μ (h + 5) 6 → (∀ j, 0 ≤ j → j < i → j ≠ s → μ (h + 11) j ≠ b) → μ (h + 5) 6 - i < k → MW X E cX5_isTakenFor RX5 ({ frames := 0, cells := 0, slots := 0, locals := 0 }) (some .boolean) (fun r ν => r = some (zI (zb (zTK (zHV μ h) s b))) ∧ ν = μ) 2 [zR (h + 5), zI s, zI b, zI i] [] μ := by
    intro k
    induction k with
    | zero => intro i h1 h2 hno h3; omega
    | succ k ih =>
      intro i h1 h2 hno h3
      refine z_iload_3 dX5_isTakenFor_2 ?_
      refine z_aload_0 dX5_isTakenFor_3 ?_
      refine z_getI 6 rfl f_X5_30 (hh.at 5 rfl) rfl dX5_isTakenFor_4 ?_
      refine z_icmpge (tgt := 33) dX5_isTakenFor_7 (by decide) (fun h_7 => ?_) (fun h_7 => ?_)
      · refine z_iconst dX5_isTakenFor_33 (by decide) ?_
        exact z_zret (by decide) dX5_isTakenFor_34 (zb_r0 (fun q => by obtain ⟨j, a, b, n, e⟩ := zTK_m.mp q; exact hno j a (by omega) n e) rfl)
      · refine z_iload_3 dX5_isTakenFor_10 ?_
        refine z_iload_1 dX5_isTakenFor_11 ?_
        refine z_icmpeq (tgt := 27) dX5_isTakenFor_12 (by decide) (fun h_12 => ?_) (fun h_12 => ?_)
        · refine z_iinc_3 rfl dX5_isTakenFor_27 (by omega) ?_
          refine z_goto (tgt := 2) dX5_isTakenFor_30 (by decide) ?_
          exact ih (i + 1) (by omega) (by omega) (fun j j0 j1 jn => by rcases Int.lt_or_eq_of_le (show j ≤ i by omega) with q | q; exact hno j j0 q jn; (first | exact absurd (q.trans h_12) jn | (rw [q]; exact h_22))) (by omega)
        · refine z_aload_0 dX5_isTakenFor_15 ?_
          refine z_getF (h + 11) 6 rfl f_X5_27 (hh.at 5 rfl) rfl rfl dX5_isTakenFor_16 ?_
          refine z_iload_3 dX5_isTakenFor_19 ?_
          refine z_iald (hh.at 11 rfl) (by omega) (by omega) dX5_isTakenFor_20 ?_
          refine z_iload_2 dX5_isTakenFor_21 ?_
          refine z_icmpne (tgt := 27) dX5_isTakenFor_22 (by decide) (fun h_22 => ?_) (fun h_22 => ?_)
          · refine z_iinc_3 rfl dX5_isTakenFor_27 (by omega) ?_
            refine z_goto (tgt := 2) dX5_isTakenFor_30 (by decide) ?_
            exact ih (i + 1) (by omega) (by omega) (fun j j0 j1 jn => by rcases Int.lt_or_eq_of_le (show j ≤ i by omega) with q | q; exact hno j j0 q jn; (first | exact absurd (q.trans h_12) jn | (rw [q]; exact h_22))) (by omega)
          · refine z_iconst dX5_isTakenFor_25 (by decide) ?_
            exact z_zret (by decide) dX5_isTakenFor_26 (zb_r (zTK_m.mpr ⟨i, by omega, by omega, by assumption, by assumption⟩) rfl)
  refine z_iconst dX5_isTakenFor_0 (by decide) ?_
  refine z_istore_3 rfl dX5_isTakenFor_1 ?_
  exact L2 8 0 (by omega) (by omega) (fun j j0 j1 => by omega) (by omega)
set_option maxRecDepth 100000 in
set_option maxHeartbeats 4000000 in
theorem k_X5_sleepsInTent {l : Launch} {E : zE} {h : Nat} {μ : zM} (hh : zAt zp2 h) (ok : zOK (zHV μ h)) {s : Int} (h0 : 0 ≤ s) (h1 : s < μ (h + 5) 6) : Ct l E yX5_sleepsInTent cX5_sleepsInTent 2 (some .int) ({ frames := 1, cells := 0, slots := 0, locals := 21 }) [zR (h + 5), zI s] μ (fun r ν => r = some (zI (max 0 (zHV μ h 7 s - zHV μ h 6 s - zHV μ h 5 s))) ∧ ν = μ) := by
  refine Ct.of RX5 [zR (h + 5), zI s] (by decide +kernel) rfl ⟨rfl, rfl⟩ rfl (Nat.le_of_ble_eq_true rfl) (fun X hX hc0 ha0 => ?_)
  subst hX
  obtain ⟨nb, nf, nd, np, ns, nr⟩ := zOK_n ok
  have pp := ok.2.1.2 s h0 h1
  rw [zHV_7 h0 h1, zHV_6 h0 h1, zHV_5 h0 h1] at pp
  refine z_iconst dX5_sleepsInTent_0 (by decide) ?_
  refine z_aload_0 dX5_sleepsInTent_1 ?_
  refine z_getF (h + 9) 4 rfl f_X5_21 (hh.at 5 rfl) rfl rfl dX5_sleepsInTent_2 ?_
  refine z_iload_1 dX5_sleepsInTent_5 ?_
  refine z_iald (hh.at 9 rfl) (by omega) (by omega) dX5_sleepsInTent_6 ?_
  refine z_aload_0 dX5_sleepsInTent_7 ?_
  refine z_getF (h + 8) 3 rfl f_X5_18 (hh.at 5 rfl) rfl rfl dX5_sleepsInTent_8 ?_
  refine z_iload_1 dX5_sleepsInTent_11 ?_
  refine z_iald (hh.at 8 rfl) (by omega) (by omega) dX5_sleepsInTent_12 ?_
  refine z_isub dX5_sleepsInTent_13 (by omega) ?_
  refine z_aload_0 dX5_sleepsInTent_14 ?_
  refine z_getF (h + 7) 2 rfl f_X5_15 (hh.at 5 rfl) rfl rfl dX5_sleepsInTent_15 ?_
  refine z_iload_1 dX5_sleepsInTent_18 ?_
  refine z_iald (hh.at 7 rfl) (by omega) (by omega) dX5_sleepsInTent_19 ?_
  refine z_isub dX5_sleepsInTent_20 (by omega) ?_
  refine z_max l_X5_44 ⟨Nat.le_of_ble_eq_true rfl, Nat.le_of_ble_eq_true rfl⟩ dX5_sleepsInTent_21 ?_
  exact z_iret dX5_sleepsInTent_24 (by rw [zHV_7 h0 h1, zHV_6 h0 h1, zHV_5 h0 h1]; exact ⟨rfl, rfl⟩)
set_option maxRecDepth 100000 in
set_option maxHeartbeats 4000000 in
theorem k_X9_add {l : Launch} {E : zE} {h : Nat} {μ : zM} (hh : zAt zp2 h) (ok : zOK (zHV μ h)) {k x a b v : Int} (ho : zOf (zHV μ h) k x) : Ct l E yX9_add cX9_add 6 (some .int) ({ frames := 1, cells := 0, slots := 0, locals := 22 }) [zR (h + 12), zI k, zI x, zI a, zI b, zI v] μ (fun r ν => r = some (zI (spN (zHV μ h) k x a b v).1) ∧ zHV ν h = (spN (zHV μ h) k x a b v).2 ∧ zFr (h + 12) 6 μ ν) := by
  refine Ct.of RX9 [zR (h + 12), zI k, zI x, zI a, zI b, zI v] (by decide +kernel) rfl ⟨rfl, rfl⟩ rfl (Nat.le_of_ble_eq_true rfl) (fun X hX hc0 ha0 => ?_)
  subst hX
  obtain ⟨nb, nf, nd, np, ns, nr⟩ := zOK_n ok
  refine z_iload_3 dX9_add_0 ?_
  refine z_iconst dX9_add_1 (by decide) ?_
  refine z_bipush dX9_add_2 (by decide) ?_
  refine z_callN3 (k_X11_isIn) m_X11_isIn n_X9_37 (Nat.le_of_ble_eq_true rfl) ⟨Nat.le_of_ble_eq_true rfl, Nat.le_of_ble_eq_true rfl⟩ ⟨rfl, rfl⟩ dX9_add_4 (fun r μ1 hp => ?_)
  obtain ⟨rfl, hv⟩ := hp
  replace hv := hv.symm
  subst hv
  refine z_ifeq (tgt := 32) dX9_add_7 (by decide) (fun h_7 => ?_) (fun h_7 => ?_)
  · replace h_7 := zb_0.mp h_7
    refine z_bipush dX9_add_32 (by decide) ?_
    exact z_iret dX9_add_34 (zans (zif_t (by first | exact Or.inr (Or.inl h_7) | exact Or.inr (Or.inr (Or.inl h_18)) | exact Or.inr (Or.inr (Or.inr h_29)))) rfl zFr_rf)
  · replace h_7 := zb_n.mp h_7
    refine z_iload_4 dX9_add_10 ?_
    refine z_iload_3 dX9_add_12 ?_
    refine z_bipush dX9_add_13 (by decide) ?_
    refine z_callN3 (k_X11_isIn) m_X11_isIn n_X9_37 (Nat.le_of_ble_eq_true rfl) ⟨Nat.le_of_ble_eq_true rfl, Nat.le_of_ble_eq_true rfl⟩ ⟨rfl, rfl⟩ dX9_add_15 (fun r μ1 hp => ?_)
    obtain ⟨rfl, hv⟩ := hp
    replace hv := hv.symm
    subst hv
    refine z_ifeq (tgt := 32) dX9_add_18 (by decide) (fun h_18 => ?_) (fun h_18 => ?_)
    · replace h_18 := zb_0.mp h_18
      refine z_bipush dX9_add_32 (by decide) ?_
      exact z_iret dX9_add_34 (zans (zif_t (by first | exact Or.inr (Or.inl h_7) | exact Or.inr (Or.inr (Or.inl h_18)) | exact Or.inr (Or.inr (Or.inr h_29)))) rfl zFr_rf)
    · replace h_18 := zb_n.mp h_18
      refine z_iload_5 dX9_add_21 ?_
      refine z_iconst dX9_add_23 (by decide) ?_
      refine z_bipush dX9_add_24 (by decide) ?_
      refine z_callN3 (k_X11_isIn) m_X11_isIn n_X9_37 (Nat.le_of_ble_eq_true rfl) ⟨Nat.le_of_ble_eq_true rfl, Nat.le_of_ble_eq_true rfl⟩ ⟨rfl, rfl⟩ dX9_add_26 (fun r μ1 hp => ?_)
      obtain ⟨rfl, hv⟩ := hp
      replace hv := hv.symm
      subst hv
      refine z_ifne (tgt := 35) dX9_add_29 (by decide) (fun h_29 => ?_) (fun h_29 => ?_)
      · replace h_29 := zb_n.mp h_29
        refine z_aload_0 dX9_add_35 ?_
        refine z_getI 5 rfl f_X9_27 (hh.at 12 rfl) rfl dX9_add_36 ?_
        refine z_bipush dX9_add_39 (by decide) ?_
        refine z_icmplt (tgt := 47) dX9_add_41 (by decide) (fun h_41 => ?_) (fun h_41 => ?_)
        · refine z_aload_0 dX9_add_47 ?_
          refine z_getF (h + 13) 1 rfl f_X9_9 (hh.at 12 rfl) rfl rfl dX9_add_48 ?_
          refine z_aload_0 dX9_add_51 ?_
          refine z_getI 5 rfl f_X9_27 (hh.at 12 rfl) rfl dX9_add_52 ?_
          refine z_iload_1 dX9_add_55 ?_
          refine z_iast (hh.at 13 rfl) (by omega) (by omega) dX9_add_56 ?_
          refine z_aload_0 dX9_add_57 ?_
          refine z_getF (h + 14) 2 rfl f_X9_15 (hh.at 12 rfl) rfl rfl dX9_add_58 ?_
          refine z_aload_0 dX9_add_61 ?_
          refine z_getI 5 rfl f_X9_27 (hh.at 12 rfl) rfl dX9_add_62 ?_
          simp only [zup_ap, Nat.reduceEqDiff, Nat.add_left_cancel_iff, Nat.reduceAdd, Nat.left_eq_add, Nat.add_eq_left, false_and, true_and, and_false, if_false, if_true, reduceCtorEq, Int.reduceEq]
          refine z_iload_2 dX9_add_65 ?_
          refine z_iast (hh.at 14 rfl) (by omega) (by omega) dX9_add_66 ?_
          refine z_aload_0 dX9_add_67 ?_
          refine z_getF (h + 15) 3 rfl f_X9_18 (hh.at 12 rfl) rfl rfl dX9_add_68 ?_
          refine z_aload_0 dX9_add_71 ?_
          refine z_getI 5 rfl f_X9_27 (hh.at 12 rfl) rfl dX9_add_72 ?_
          simp only [zup_ap, Nat.reduceEqDiff, Nat.add_left_cancel_iff, Nat.reduceAdd, Nat.left_eq_add, Nat.add_eq_left, false_and, true_and, and_false, if_false, if_true, reduceCtorEq, Int.reduceEq]
          refine z_iload_3 dX9_add_75 ?_
          refine z_iast (hh.at 15 rfl) (by omega) (by omega) dX9_add_76 ?_
          refine z_aload_0 dX9_add_77 ?_
          refine z_getF (h + 16) 4 rfl f_X9_21 (hh.at 12 rfl) rfl rfl dX9_add_78 ?_
          refine z_aload_0 dX9_add_81 ?_
          refine z_getI 5 rfl f_X9_27 (hh.at 12 rfl) rfl dX9_add_82 ?_
          simp only [zup_ap, Nat.reduceEqDiff, Nat.add_left_cancel_iff, Nat.reduceAdd, Nat.left_eq_add, Nat.add_eq_left, false_and, true_and, and_false, if_false, if_true, reduceCtorEq, Int.reduceEq]
          refine z_iload_4 dX9_add_85 ?_
          refine z_iast (hh.at 16 rfl) (by omega) (by omega) dX9_add_87 ?_
          refine z_aload_0 dX9_add_88 ?_
          refine z_getF (h + 17) 5 rfl f_X9_24 (hh.at 12 rfl) rfl rfl dX9_add_89 ?_
          refine z_aload_0 dX9_add_92 ?_
          refine z_getI 5 rfl f_X9_27 (hh.at 12 rfl) rfl dX9_add_93 ?_
          simp only [zup_ap, Nat.reduceEqDiff, Nat.add_left_cancel_iff, Nat.reduceAdd, Nat.left_eq_add, Nat.add_eq_left, false_and, true_and, and_false, if_false, if_true, reduceCtorEq, Int.reduceEq]
          refine z_iload_5 dX9_add_96 ?_
          refine z_iast (hh.at 17 rfl) (by omega) (by omega) dX9_add_98 ?_
          refine z_aload_0 dX9_add_99 ?_
          refine z_dup dX9_add_100 rfl ?_
          refine z_getI 5 rfl f_X9_27 (hh.at 12 rfl) rfl dX9_add_101 ?_
          simp only [zup_ap, Nat.reduceEqDiff, Nat.add_left_cancel_iff, Nat.reduceAdd, Nat.left_eq_add, Nat.add_eq_left, false_and, true_and, and_false, if_false, if_true, reduceCtorEq, Int.reduceEq]
          refine z_dup_x1 dX9_add_104 rfl rfl ?_
          refine z_iconst dX9_add_105 (by decide) ?_
          refine z_iadd dX9_add_106 (by omega) ?_
          refine z_putI 5 rfl f_X9_27 p_9_5 (hh.at 12 rfl) rfl rfl dX9_add_107 ?_
          simp only [zup_ap, Nat.reduceEqDiff, Nat.add_left_cancel_iff, Nat.reduceAdd, Nat.left_eq_add, Nat.add_eq_left, false_and, true_and, and_false, if_false, if_true, reduceCtorEq, Int.reduceEq]
          exact z_iret dX9_add_110 (zans ((zif_f (by rintro (q | q | q | q); exact q ho; exact q h_7; exact q h_18; exact q h_29)).trans (zif_f (by rw [zHV_sc]; omega))) (zHV_s rfl ns.1) (zFr_tr (zFr_tr (zFr_tr (zFr_tr (zFr_tr (zFr_up (by omega) (by omega)) (zFr_up (by omega) (by omega))) (zFr_up (by omega) (by omega))) (zFr_up (by omega) (by omega))) (zFr_up (by omega) (by omega))) (zFr_up (by omega) (by omega))))
        · refine z_bipush dX9_add_44 (by decide) ?_
          exact z_iret dX9_add_46 (zans ((zif_f (by rintro (q | q | q | q); exact q ho; exact q h_7; exact q h_18; exact q h_29)).trans (zif_t (by rw [zHV_sc]; omega))) rfl zFr_rf)
      · replace h_29 := zb_0.mp h_29
        refine z_bipush dX9_add_32 (by decide) ?_
        exact z_iret dX9_add_34 (zans (zif_t (by first | exact Or.inr (Or.inl h_7) | exact Or.inr (Or.inr (Or.inl h_18)) | exact Or.inr (Or.inr (Or.inr h_29)))) rfl zFr_rf)
set_option maxRecDepth 100000 in
set_option maxHeartbeats 4000000 in
theorem k_X9_dropLast {l : Launch} {E : zE} {h : Nat} {μ : zM} (hh : zAt zp2 h) (ok : zOK (zHV μ h)) : Ct l E yX9_dropLast cX9_dropLast 1 (some .int) ({ frames := 0, cells := 0, slots := 0, locals := 0 }) [zR (h + 12)] μ (fun r ν => r = some (zI (spX (zHV μ h)).1) ∧ zHV ν h = (spX (zHV μ h)).2 ∧ zFr (h + 12) 6 μ ν) := by
  refine Ct.of RX9 [zR (h + 12)] (by decide +kernel) rfl ⟨rfl, rfl⟩ rfl (Nat.le_of_ble_eq_true rfl) (fun X hX hc0 ha0 => ?_)
  subst hX
  obtain ⟨nb, nf, nd, np, ns, nr⟩ := zOK_n ok
  refine z_aload_0 dX9_dropLast_0 ?_
  refine z_getI 5 rfl f_X9_27 (hh.at 12 rfl) rfl dX9_dropLast_1 ?_
  refine z_ifne (tgt := 10) dX9_dropLast_4 (by decide) (fun h_4 => ?_) (fun h_4 => ?_)
  · refine z_aload_0 dX9_dropLast_10 ?_
    refine z_dup dX9_dropLast_11 rfl ?_
    refine z_getI 5 rfl f_X9_27 (hh.at 12 rfl) rfl dX9_dropLast_12 ?_
    refine z_iconst dX9_dropLast_15 (by decide) ?_
    refine z_isub dX9_dropLast_16 (by omega) ?_
    refine z_putI 5 rfl f_X9_27 p_9_5 (hh.at 12 rfl) rfl rfl dX9_dropLast_17 ?_
    refine z_iconst dX9_dropLast_20 (by decide) ?_
    exact z_iret dX9_dropLast_21 (zans (zif_f (by rw [zHV_sc]; omega)) (zHV_x rfl (by omega)) (zFr_up (by omega) (by omega)))
  · refine z_bipush dX9_dropLast_7 (by decide) ?_
    exact z_iret dX9_dropLast_9 (zans (zif_t (by rw [zHV_sc]; omega)) rfl zFr_rf)
/-- a sound is due in a slot (one that is turned hangs on the sleeper besides) -/
def zDu (V : zM) (i t : Int) : Prop := V 12 i ≤ t ∧ t ≤ V 13 i ∧ (V 10 i = 1 → (t - V 12 i) % 4 = 0) ∧ (V 10 i = 3 → t = V 12 i) ∧ V 10 i ≠ 4
noncomputable def zCvf (V : zM) (t i : Int) : Int := zif (V 10 i = 4 ∧ V 12 i ≤ t ∧ t ≤ V 13 i) (V 14 i) 0
noncomputable def zCv (V : zM) (t : Int) : Int := zsum (zCvf V t) (V 3 4).toNat
theorem zsum_b {f : Int → Int} {B : Int} : ∀ {n : Nat}, (∀ i : Int, 0 ≤ i → i < n → 0 ≤ f i ∧ f i ≤ B) → 0 ≤ zsum f n ∧ zsum f n ≤ B * n
  | 0, _ => ⟨Int.le_refl 0, by simp [zsum]⟩
  | n + 1, h => by
    have ih := zsum_b (f := f) (B := B) (n := n) (fun i a b => h i a (by omega))
    have := h n (by omega) (by omega)
    have e : B * ((n + 1 : Nat) : Int) = B * (n : Int) + B := by rw [Int.natCast_add, Int.mul_add]; simp
    rw [e]
    show 0 ≤ zsum f n + f n ∧ zsum f n + f n ≤ _
    omega
theorem zCvf_b {V : zM} {t i : Int} (ok : zOK V) (h0 : 0 ≤ i) (h1 : i < V 3 4) : 0 ≤ zCvf V t i ∧ zCvf V t i ≤ 60 := by
  have := (ok.2.2.1.2 i h0 h1).2.2.2.2.2
  unfold zCvf
  exact zif_i (p := fun q : Int => 0 ≤ q ∧ q ≤ 60) (fun _ => this) (fun _ => by decide)
theorem zCv_b {V : zM} {t : Int} (ok : zOK V) : 0 ≤ zCv V t ∧ zCv V t ≤ 480 := by
  have hs := ok.2.2.1.1
  have := zsum_b (f := zCvf V t) (B := 60) (n := (V 3 4).toNat) (fun i a b => zCvf_b ok a (by omega))
  unfold zCv
  omega
set_option maxRecDepth 100000 in
set_option maxHeartbeats 4000000 in
theorem k_X9_isDue {l : Launch} {E : zE} {h : Nat} {μ : zM} (hh : zAt zp2 h) (ok : zOK (zHV μ h)) {i t : Int} (h0 : 0 ≤ i) (h1 : i < μ (h + 12) 5) (ht : 0 ≤ t ∧ t < 40) : Ct l E yX9_isDue cX9_isDue 3 (some .boolean) ({ frames := 0, cells := 0, slots := 0, locals := 0 }) [zR (h + 12), zI i, zI t] μ (fun r ν => r = some (zI (zb (zDu (zHV μ h) i t))) ∧ ν = μ) := by
  refine Ct.of RX9 [zR (h + 12), zI i, zI t] (by decide +kernel) rfl ⟨rfl, rfl⟩ rfl (Nat.le_of_ble_eq_true rfl) (fun X hX hc0 ha0 => ?_)
  subst hX
  obtain ⟨nb, nf, nd, np, ns, nr⟩ := zOK_n ok
  have ss := ok.2.2.1.2 i h0 h1
  rw [zHV_10 h0 h1, zHV_11 h0 h1, zHV_12 h0 h1, zHV_13 h0 h1, zHV_14 h0 h1] at ss
  refine z_iload_2 dX9_isDue_0 ?_
  refine z_aload_0 dX9_isDue_1 ?_
  refine z_getF (h + 15) 3 rfl f_X9_18 (hh.at 12 rfl) rfl rfl dX9_isDue_2 ?_
  refine z_iload_1 dX9_isDue_5 ?_
  refine z_iald (hh.at 15 rfl) (by omega) (by omega) dX9_isDue_6 ?_
  refine z_icmplt (tgt := 20) dX9_isDue_7 (by decide) (fun h_7 => ?_) (fun h_7 => ?_)
  · refine z_iconst dX9_isDue_20 (by decide) ?_
    exact z_zret (by decide) dX9_isDue_21 (by first | exact zb_r (by unfold zDu; rw [zHV_10 h0 h1, zHV_12 h0 h1, zHV_13 h0 h1]; omega) rfl | exact zb_r0 (by unfold zDu; rw [zHV_10 h0 h1, zHV_12 h0 h1, zHV_13 h0 h1]; omega) rfl)
  · refine z_iload_2 dX9_isDue_10 ?_
    refine z_aload_0 dX9_isDue_11 ?_
    refine z_getF (h + 16) 4 rfl f_X9_21 (hh.at 12 rfl) rfl rfl dX9_isDue_12 ?_
    refine z_iload_1 dX9_isDue_15 ?_
    refine z_iald (hh.at 16 rfl) (by omega) (by omega) dX9_isDue_16 ?_
    refine z_icmple (tgt := 22) dX9_isDue_17 (by decide) (fun h_17 => ?_) (fun h_17 => ?_)
    · refine z_aload_0 dX9_isDue_22 ?_
      refine z_getF (h + 13) 1 rfl f_X9_9 (hh.at 12 rfl) rfl rfl dX9_isDue_23 ?_
      refine z_iload_1 dX9_isDue_26 ?_
      refine z_iald (hh.at 13 rfl) (by omega) (by omega) dX9_isDue_27 ?_
      rcases (by omega : μ (h + 13) i = 0 ∨ μ (h + 13) i = 1 ∨ μ (h + 13) i = 2 ∨ μ (h + 13) i = 3 ∨ μ (h + 13) i = 4) with hq_28 | hq_28 | hq_28 | hq_28 | hq_28
      · rw [hq_28]
        refine z_look (z := 0) (off := 63) (tgt := 91) dX9_isDue_28 (by decide) (by decide) (by decide) ?_
        refine z_aload_0 dX9_isDue_91 ?_
        refine z_getF (h + 13) 1 rfl f_X9_9 (hh.at 12 rfl) rfl rfl dX9_isDue_92 ?_
        refine z_iload_1 dX9_isDue_95 ?_
        refine z_iald (hh.at 13 rfl) (by omega) (by omega) dX9_isDue_96 ?_
        refine z_iconst dX9_isDue_97 (by decide) ?_
        refine z_icmpeq (tgt := 105) dX9_isDue_98 (by decide) (fun h_98 => ?_) (fun h_98 => ?_)
        · refine z_iconst dX9_isDue_105 (by decide) ?_
          exact z_zret (by decide) dX9_isDue_106 (by first | exact zb_r (by unfold zDu; rw [zHV_10 h0 h1, zHV_12 h0 h1, zHV_13 h0 h1]; omega) rfl | exact zb_r0 (by unfold zDu; rw [zHV_10 h0 h1, zHV_12 h0 h1, zHV_13 h0 h1]; omega) rfl)
        · refine z_iconst dX9_isDue_101 (by decide) ?_
          refine z_goto (tgt := 106) dX9_isDue_102 (by decide) ?_
          exact z_zret (by decide) dX9_isDue_106 (by first | exact zb_r (by unfold zDu; rw [zHV_10 h0 h1, zHV_12 h0 h1, zHV_13 h0 h1]; omega) rfl | exact zb_r0 (by unfold zDu; rw [zHV_10 h0 h1, zHV_12 h0 h1, zHV_13 h0 h1]; omega) rfl)
      · rw [hq_28]
        refine z_look (z := 1) (off := 28) (tgt := 56) dX9_isDue_28 (by decide) (by decide) (by decide) ?_
        refine z_iload_2 dX9_isDue_56 ?_
        refine z_aload_0 dX9_isDue_57 ?_
        refine z_getF (h + 15) 3 rfl f_X9_18 (hh.at 12 rfl) rfl rfl dX9_isDue_58 ?_
        refine z_iload_1 dX9_isDue_61 ?_
        refine z_iald (hh.at 15 rfl) (by omega) (by omega) dX9_isDue_62 ?_
        refine z_isub dX9_isDue_63 (by omega) ?_
        refine z_iconst dX9_isDue_64 (by decide) ?_
        refine z_irem dX9_isDue_65 (by omega) (by omega) ?_
        refine z_ifne (tgt := 73) dX9_isDue_66 (by decide) (fun h_66 => ?_) (fun h_66 => ?_)
        · refine z_iconst dX9_isDue_73 (by decide) ?_
          exact z_zret (by decide) dX9_isDue_74 (by first | exact zb_r (by unfold zDu; rw [zHV_10 h0 h1, zHV_12 h0 h1, zHV_13 h0 h1]; omega) rfl | exact zb_r0 (by unfold zDu; rw [zHV_10 h0 h1, zHV_12 h0 h1, zHV_13 h0 h1]; omega) rfl)
        · refine z_iconst dX9_isDue_69 (by decide) ?_
          refine z_goto (tgt := 74) dX9_isDue_70 (by decide) ?_
          exact z_zret (by decide) dX9_isDue_74 (by first | exact zb_r (by unfold zDu; rw [zHV_10 h0 h1, zHV_12 h0 h1, zHV_13 h0 h1]; omega) rfl | exact zb_r0 (by unfold zDu; rw [zHV_10 h0 h1, zHV_12 h0 h1, zHV_13 h0 h1]; omega) rfl)
      · rw [hq_28]
        refine z_look (z := 2) (off := 63) (tgt := 91) dX9_isDue_28 (by decide) (by decide) (by decide) ?_
        refine z_aload_0 dX9_isDue_91 ?_
        refine z_getF (h + 13) 1 rfl f_X9_9 (hh.at 12 rfl) rfl rfl dX9_isDue_92 ?_
        refine z_iload_1 dX9_isDue_95 ?_
        refine z_iald (hh.at 13 rfl) (by omega) (by omega) dX9_isDue_96 ?_
        refine z_iconst dX9_isDue_97 (by decide) ?_
        refine z_icmpeq (tgt := 105) dX9_isDue_98 (by decide) (fun h_98 => ?_) (fun h_98 => ?_)
        · refine z_iconst dX9_isDue_105 (by decide) ?_
          exact z_zret (by decide) dX9_isDue_106 (by first | exact zb_r (by unfold zDu; rw [zHV_10 h0 h1, zHV_12 h0 h1, zHV_13 h0 h1]; omega) rfl | exact zb_r0 (by unfold zDu; rw [zHV_10 h0 h1, zHV_12 h0 h1, zHV_13 h0 h1]; omega) rfl)
        · refine z_iconst dX9_isDue_101 (by decide) ?_
          refine z_goto (tgt := 106) dX9_isDue_102 (by decide) ?_
          exact z_zret (by decide) dX9_isDue_106 (by first | exact zb_r (by unfold zDu; rw [zHV_10 h0 h1, zHV_12 h0 h1, zHV_13 h0 h1]; omega) rfl | exact zb_r0 (by unfold zDu; rw [zHV_10 h0 h1, zHV_12 h0 h1, zHV_13 h0 h1]; omega) rfl)
      · rw [hq_28]
        refine z_look (z := 3) (off := 47) (tgt := 75) dX9_isDue_28 (by decide) (by decide) (by decide) ?_
        refine z_iload_2 dX9_isDue_75 ?_
        refine z_aload_0 dX9_isDue_76 ?_
        refine z_getF (h + 15) 3 rfl f_X9_18 (hh.at 12 rfl) rfl rfl dX9_isDue_77 ?_
        refine z_iload_1 dX9_isDue_80 ?_
        refine z_iald (hh.at 15 rfl) (by omega) (by omega) dX9_isDue_81 ?_
        refine z_icmpne (tgt := 89) dX9_isDue_82 (by decide) (fun h_82 => ?_) (fun h_82 => ?_)
        · refine z_iconst dX9_isDue_89 (by decide) ?_
          exact z_zret (by decide) dX9_isDue_90 (by first | exact zb_r (by unfold zDu; rw [zHV_10 h0 h1, zHV_12 h0 h1, zHV_13 h0 h1]; omega) rfl | exact zb_r0 (by unfold zDu; rw [zHV_10 h0 h1, zHV_12 h0 h1, zHV_13 h0 h1]; omega) rfl)
        · refine z_iconst dX9_isDue_85 (by decide) ?_
          refine z_goto (tgt := 90) dX9_isDue_86 (by decide) ?_
          exact z_zret (by decide) dX9_isDue_90 (by first | exact zb_r (by unfold zDu; rw [zHV_10 h0 h1, zHV_12 h0 h1, zHV_13 h0 h1]; omega) rfl | exact zb_r0 (by unfold zDu; rw [zHV_10 h0 h1, zHV_12 h0 h1, zHV_13 h0 h1]; omega) rfl)
      · rw [hq_28]
        refine z_look (z := 4) (off := 63) (tgt := 91) dX9_isDue_28 (by decide) (by decide) (by decide) ?_
        refine z_aload_0 dX9_isDue_91 ?_
        refine z_getF (h + 13) 1 rfl f_X9_9 (hh.at 12 rfl) rfl rfl dX9_isDue_92 ?_
        refine z_iload_1 dX9_isDue_95 ?_
        refine z_iald (hh.at 13 rfl) (by omega) (by omega) dX9_isDue_96 ?_
        refine z_iconst dX9_isDue_97 (by decide) ?_
        refine z_icmpeq (tgt := 105) dX9_isDue_98 (by decide) (fun h_98 => ?_) (fun h_98 => ?_)
        · refine z_iconst dX9_isDue_105 (by decide) ?_
          exact z_zret (by decide) dX9_isDue_106 (by first | exact zb_r (by unfold zDu; rw [zHV_10 h0 h1, zHV_12 h0 h1, zHV_13 h0 h1]; omega) rfl | exact zb_r0 (by unfold zDu; rw [zHV_10 h0 h1, zHV_12 h0 h1, zHV_13 h0 h1]; omega) rfl)
        · refine z_iconst dX9_isDue_101 (by decide) ?_
          refine z_goto (tgt := 106) dX9_isDue_102 (by decide) ?_
          exact z_zret (by decide) dX9_isDue_106 (by first | exact zb_r (by unfold zDu; rw [zHV_10 h0 h1, zHV_12 h0 h1, zHV_13 h0 h1]; omega) rfl | exact zb_r0 (by unfold zDu; rw [zHV_10 h0 h1, zHV_12 h0 h1, zHV_13 h0 h1]; omega) rfl)
    · refine z_iconst dX9_isDue_20 (by decide) ?_
      exact z_zret (by decide) dX9_isDue_21 (by first | exact zb_r (by unfold zDu; rw [zHV_10 h0 h1, zHV_12 h0 h1, zHV_13 h0 h1]; omega) rfl | exact zb_r0 (by unfold zDu; rw [zHV_10 h0 h1, zHV_12 h0 h1, zHV_13 h0 h1]; omega) rfl)
theorem zCvs {V : zM} {t : Int} {n : Nat} : zsum (zCvf V t) (n + 1) = zsum (zCvf V t) n + zif (V 10 n = 4 ∧ V 12 n ≤ t ∧ t ≤ V 13 n) (V 14 n) 0 := rfl
set_option maxRecDepth 100000 in
set_option maxHeartbeats 4000000 in
theorem k_X9_coverIn {l : Launch} {E : zE} {h : Nat} {μ : zM} (hh : zAt zp2 h) (ok : zOK (zHV μ h)) {t : Int} (ht : 0 ≤ t ∧ t < 40) : Ct l E yX9_coverIn cX9_coverIn 4 (some .int) ({ frames := 0, cells := 0, slots := 0, locals := 0 }) [zR (h + 12), zI t] μ (fun r ν => r = some (zI (zCv (zHV μ h) t)) ∧ ν = μ) := by
  refine Ct.of RX9 [zR (h + 12), zI t, zU, zU] (by decide +kernel) rfl ⟨rfl, rfl⟩ rfl (Nat.le_of_ble_eq_true rfl) (fun X hX hc0 ha0 => ?_)
  subst hX
  obtain ⟨nb, nf, nd, np, ns, nr⟩ := zOK_n ok
  have L2 : ∀ (k : Nat) (i : Nat), (i : Int) ≤ μ (h + 12) 5 → μ (h + 12) 5 - i < k → MW X E cX9_coverIn RX9 ({ frames := 0, cells := 0, slots := 0, locals := 0 }) (some .int) (fun r ν => r = some (zI (zCv (zHV μ h) t)) ∧ ν = μ) 4 [zR (h + 12), zI t, zI (zsum (zCvf (zHV μ h) t) i), zI (i : Int)] [] μ := by
    intro k
    induction k with
    | zero => intro i h2 h3; omega
    | succ k ih =>
      intro i h2 h3
      refine z_iload_3 dX9_coverIn_4 ?_
      refine z_aload_0 dX9_coverIn_5 ?_
      refine z_getI 5 rfl f_X9_27 (hh.at 12 rfl) rfl dX9_coverIn_6 ?_
      refine z_icmpge (tgt := 57) dX9_coverIn_9 (by decide) (fun h_9 => ?_) (fun h_9 => ?_)
      · refine z_iload_2 dX9_coverIn_57 ?_
        exact z_iret dX9_coverIn_58 (by refine ⟨?_, rfl⟩; unfold zCv; rw [zHV_sc, show (μ (h + 12) 5).toNat = i by omega])
      · have h0 : (0 : Int) ≤ (i : Int) := by omega
        have h1 : (i : Int) < μ (h + 12) 5 := h_9
        have ss := ok.2.2.1.2 i h0 h1
        rw [zHV_14 h0 h1] at ss
        have sb := zsum_b (f := zCvf (zHV μ h) t) (B := 60) (n := i) (fun j a b => zCvf_b ok a (by rw [zHV_sc]; omega))
        refine z_aload_0 dX9_coverIn_12 ?_
        refine z_getF (h + 13) 1 rfl f_X9_9 (hh.at 12 rfl) rfl rfl dX9_coverIn_13 ?_
        refine z_iload_3 dX9_coverIn_16 ?_
        refine z_iald (hh.at 13 rfl) (by omega) (by omega) dX9_coverIn_17 ?_
        refine z_iconst dX9_coverIn_18 (by decide) ?_
        refine z_icmpne (tgt := 51) dX9_coverIn_19 (by decide) (fun h_19 => ?_) (fun h_19 => ?_)
        · refine z_iinc_3 rfl dX9_coverIn_51 (by omega) ?_
          refine z_goto (tgt := 4) dX9_coverIn_54 (by decide) ?_
          refine z_eqs (ih (i + 1) (by omega) (by omega)) rfl (by rw [zCvs]; first | rw [zif_t (by rw [zHV_10 h0 h1, zHV_12 h0 h1, zHV_13 h0 h1]; omega), zHV_14 h0 h1]; rfl | rw [zif_f (by rw [zHV_10 h0 h1, zHV_12 h0 h1, zHV_13 h0 h1]; omega), Int.add_zero]; rfl) rfl rfl
        · refine z_iload_1 dX9_coverIn_22 ?_
          refine z_aload_0 dX9_coverIn_23 ?_
          refine z_getF (h + 15) 3 rfl f_X9_18 (hh.at 12 rfl) rfl rfl dX9_coverIn_24 ?_
          refine z_iload_3 dX9_coverIn_27 ?_
          refine z_iald (hh.at 15 rfl) (by omega) (by omega) dX9_coverIn_28 ?_
          refine z_icmplt (tgt := 51) dX9_coverIn_29 (by decide) (fun h_29 => ?_) (fun h_29 => ?_)
          · refine z_iinc_3 rfl dX9_coverIn_51 (by omega) ?_
            refine z_goto (tgt := 4) dX9_coverIn_54 (by decide) ?_
            refine z_eqs (ih (i + 1) (by omega) (by omega)) rfl (by rw [zCvs]; first | rw [zif_t (by rw [zHV_10 h0 h1, zHV_12 h0 h1, zHV_13 h0 h1]; omega), zHV_14 h0 h1]; rfl | rw [zif_f (by rw [zHV_10 h0 h1, zHV_12 h0 h1, zHV_13 h0 h1]; omega), Int.add_zero]; rfl) rfl rfl
          · refine z_iload_1 dX9_coverIn_32 ?_
            refine z_aload_0 dX9_coverIn_33 ?_
            refine z_getF (h + 16) 4 rfl f_X9_21 (hh.at 12 rfl) rfl rfl dX9_coverIn_34 ?_
            refine z_iload_3 dX9_coverIn_37 ?_
            refine z_iald (hh.at 16 rfl) (by omega) (by omega) dX9_coverIn_38 ?_
            refine z_icmpgt (tgt := 51) dX9_coverIn_39 (by decide) (fun h_39 => ?_) (fun h_39 => ?_)
            · refine z_iinc_3 rfl dX9_coverIn_51 (by omega) ?_
              refine z_goto (tgt := 4) dX9_coverIn_54 (by decide) ?_
              refine z_eqs (ih (i + 1) (by omega) (by omega)) rfl (by rw [zCvs]; first | rw [zif_t (by rw [zHV_10 h0 h1, zHV_12 h0 h1, zHV_13 h0 h1]; omega), zHV_14 h0 h1]; rfl | rw [zif_f (by rw [zHV_10 h0 h1, zHV_12 h0 h1, zHV_13 h0 h1]; omega), Int.add_zero]; rfl) rfl rfl
            · refine z_iload_2 dX9_coverIn_42 ?_
              refine z_aload_0 dX9_coverIn_43 ?_
              refine z_getF (h + 17) 5 rfl f_X9_24 (hh.at 12 rfl) rfl rfl dX9_coverIn_44 ?_
              refine z_iload_3 dX9_coverIn_47 ?_
              refine z_iald (hh.at 17 rfl) (by omega) (by omega) dX9_coverIn_48 ?_
              refine z_iadd dX9_coverIn_49 (by omega) ?_
              refine z_istore_2 rfl dX9_coverIn_50 ?_
              refine z_iinc_3 rfl dX9_coverIn_51 (by omega) ?_
              refine z_goto (tgt := 4) dX9_coverIn_54 (by decide) ?_
              refine z_eqs (ih (i + 1) (by omega) (by omega)) rfl (by rw [zCvs]; first | rw [zif_t (by rw [zHV_10 h0 h1, zHV_12 h0 h1, zHV_13 h0 h1]; omega), zHV_14 h0 h1]; rfl | rw [zif_f (by rw [zHV_10 h0 h1, zHV_12 h0 h1, zHV_13 h0 h1]; omega), Int.add_zero]; rfl) rfl rfl
  refine z_iconst dX9_coverIn_0 (by decide) ?_
  refine z_istore_2 rfl dX9_coverIn_1 ?_
  refine z_iconst dX9_coverIn_2 (by decide) ?_
  refine z_istore_3 rfl dX9_coverIn_3 ?_
  exact L2 9 0 (by omega) (by omega)
set_option maxRecDepth 100000 in
set_option maxHeartbeats 4000000 in
theorem k_X7_add {l : Launch} {E : zE} {h : Nat} {μ : zM} (hh : zAt zp2 h) (ok : zOK (zHV μ h)) {s b m : Int} (hs : 0 ≤ s ∧ s < zHV μ h 3 3) (hb : 0 ≤ b ∧ b < zHV μ h 3 0) (hm : m = 0 ∨ m = 1) : Ct l E yX7_add cX7_add 4 (some .int) ({ frames := 0, cells := 0, slots := 0, locals := 0 }) [zR (h + 18), zI s, zI b, zI m] μ (fun r ν => r = some (zI (spR (zHV μ h) s b m).1) ∧ zHV ν h = (spR (zHV μ h) s b m).2 ∧ zFr (h + 18) 4 μ ν) := by
  refine Ct.of RX7 [zR (h + 18), zI s, zI b, zI m] (by decide +kernel) rfl ⟨rfl, rfl⟩ rfl (Nat.le_of_ble_eq_true rfl) (fun X hX hc0 ha0 => ?_)
  subst hX
  obtain ⟨nb, nf, nd, np, ns, nr⟩ := zOK_n ok
  refine z_aload_0 dX7_add_0 ?_
  refine z_getI 3 rfl f_X7_22 (hh.at 18 rfl) rfl dX7_add_1 ?_
  refine z_iconst dX7_add_4 (by decide) ?_
  refine z_icmplt (tgt := 11) dX7_add_5 (by decide) (fun h_5 => ?_) (fun h_5 => ?_)
  · refine z_aload_0 dX7_add_11 ?_
    refine z_getF (h + 19) 1 rfl f_X7_9 (hh.at 18 rfl) rfl rfl dX7_add_12 ?_
    refine z_aload_0 dX7_add_15 ?_
    refine z_getI 3 rfl f_X7_22 (hh.at 18 rfl) rfl dX7_add_16 ?_
    refine z_iload_1 dX7_add_19 ?_
    refine z_iast (hh.at 19 rfl) (by omega) (by omega) dX7_add_20 ?_
    refine z_aload_0 dX7_add_21 ?_
    refine z_getF (h + 20) 2 rfl f_X7_15 (hh.at 18 rfl) rfl rfl dX7_add_22 ?_
    refine z_aload_0 dX7_add_25 ?_
    refine z_getI 3 rfl f_X7_22 (hh.at 18 rfl) rfl dX7_add_26 ?_
    simp only [zup_ap, Nat.reduceEqDiff, Nat.add_left_cancel_iff, Nat.reduceAdd, Nat.left_eq_add, Nat.add_eq_left, false_and, true_and, and_false, if_false, if_true, reduceCtorEq, Int.reduceEq]
    refine z_iload_2 dX7_add_29 ?_
    refine z_iast (hh.at 20 rfl) (by omega) (by omega) dX7_add_30 ?_
    refine z_aload_0 dX7_add_31 ?_
    refine z_getF (h + 21) 3 rfl f_X7_18 (hh.at 18 rfl) rfl rfl dX7_add_32 ?_
    refine z_aload_0 dX7_add_35 ?_
    refine z_getI 3 rfl f_X7_22 (hh.at 18 rfl) rfl dX7_add_36 ?_
    simp only [zup_ap, Nat.reduceEqDiff, Nat.add_left_cancel_iff, Nat.reduceAdd, Nat.left_eq_add, Nat.add_eq_left, false_and, true_and, and_false, if_false, if_true, reduceCtorEq, Int.reduceEq]
    refine z_iload_3 dX7_add_39 ?_
    refine z_zast hm (hh.at 21 rfl) (by omega) (by omega) dX7_add_40 ?_
    refine z_aload_0 dX7_add_41 ?_
    refine z_dup dX7_add_42 rfl ?_
    refine z_getI 3 rfl f_X7_22 (hh.at 18 rfl) rfl dX7_add_43 ?_
    simp only [zup_ap, Nat.reduceEqDiff, Nat.add_left_cancel_iff, Nat.reduceAdd, Nat.left_eq_add, Nat.add_eq_left, false_and, true_and, and_false, if_false, if_true, reduceCtorEq, Int.reduceEq]
    refine z_dup_x1 dX7_add_46 rfl rfl ?_
    refine z_iconst dX7_add_47 (by decide) ?_
    refine z_iadd dX7_add_48 (by omega) ?_
    refine z_putI 3 rfl f_X7_22 p_7_3 (hh.at 18 rfl) rfl rfl dX7_add_49 ?_
    simp only [zup_ap, Nat.reduceEqDiff, Nat.add_left_cancel_iff, Nat.reduceAdd, Nat.left_eq_add, Nat.add_eq_left, false_and, true_and, and_false, if_false, if_true, reduceCtorEq, Int.reduceEq]
    exact z_iret dX7_add_52 (zans ((zif_f (by rintro (q | q); exact q hs; exact q hb)).trans (zif_f (by rw [zHV_rc]; omega))) (zHV_r rfl nr.1) (zFr_tr (zFr_tr (zFr_tr (zFr_up (by omega) (by omega)) (zFr_up (by omega) (by omega))) (zFr_up (by omega) (by omega))) (zFr_up (by omega) (by omega))))
  · refine z_bipush dX7_add_8 (by decide) ?_
    exact z_iret dX7_add_10 (zans ((zif_f (by rintro (q | q); exact q hs; exact q hb)).trans (zif_t (by rw [zHV_rc]; omega))) rfl zFr_rf)
/-- the rules let such a row be -/
def zAl (V : zM) (row : Int → Int) : Prop := ∀ i, 0 ≤ i → i < V 3 5 → (row (V 15 i) = V 16 i ↔ V 17 i = 1)
set_option maxRecDepth 100000 in
set_option maxHeartbeats 4000000 in
theorem k_X7_allow {l : Launch} {E : zE} {h : Nat} {μ : zM} (hh : zAt zp2 h) (ok : zOK (zHV μ h)) {a : Nat} (ha : zl a = (20, 5)) : Ct l E yX7_allow cX7_allow 3 (some .boolean) ({ frames := 0, cells := 0, slots := 0, locals := 0 }) [zR (h + 18), zR a] μ (fun r ν => r = some (zI (zb (zAl (zHV μ h) (μ a)))) ∧ ν = μ) := by
  refine Ct.of RX7 [zR (h + 18), zR a, zU] (by decide +kernel) rfl ⟨rfl, rfl⟩ rfl (Nat.le_of_ble_eq_true rfl) (fun X hX hc0 ha0 => ?_)
  subst hX
  obtain ⟨nb, nf, nd, np, ns, nr⟩ := zOK_n ok
  have L2 : ∀ (k : Nat) (i : Int), 0 ≤ i → i ≤ μ (h + 18) 3 → (∀ j, 0 ≤ j → j < i → (μ a (zHV μ h 15 j) = zHV μ h 16 j ↔ zHV μ h 17 j = 1)) → μ (h + 18) 3 - i < k → MW X E cX7_allow RX7 ({ frames := 0, cells := 0, slots := 0, locals := 0 }) (some .boolean) (fun r ν => r = some (zI (zb (zAl (zHV μ h) (μ a)))) ∧ ν = μ) 2 [zR (h + 18), zR a, zI i] [] μ := by
    intro k
    induction k with
    | zero => intro i h1 h2 hno h3; omega
    | succ k ih =>
      intro i h1 h2 hno h3
      refine z_iload_2 dX7_allow_2 ?_
      refine z_aload_0 dX7_allow_3 ?_
      refine z_getI 3 rfl f_X7_22 (hh.at 18 rfl) rfl dX7_allow_4 ?_
      refine z_icmpge (tgt := 49) dX7_allow_7 (by decide) (fun h_7 => ?_) (fun h_7 => ?_)
      · refine z_iconst dX7_allow_49 (by decide) ?_
        exact z_zret (by decide) dX7_allow_50 (zb_r (fun j a b => hno j a (by rw [zHV_rc] at b; omega)) rfl)
      · have h0 : 0 ≤ i := by omega
        have h1 : i < μ (h + 18) 3 := h_7
        have rr := ok.2.2.2.2 i h0 h1
        rw [zHV_15 h0 h1, zHV_16 h0 h1, zHV_17 h0 h1, zHV_pc] at rr
        refine z_aload_1 dX7_allow_10 ?_
        refine z_aload_0 dX7_allow_11 ?_
        refine z_getF (h + 19) 1 rfl f_X7_9 (hh.at 18 rfl) rfl rfl dX7_allow_12 ?_
        refine z_iload_2 dX7_allow_15 ?_
        refine z_iald (hh.at 19 rfl) (by omega) (by omega) dX7_allow_16 ?_
        refine z_iald ha (by omega) (by omega) dX7_allow_17 ?_
        refine z_aload_0 dX7_allow_18 ?_
        refine z_getF (h + 20) 2 rfl f_X7_15 (hh.at 18 rfl) rfl rfl dX7_allow_19 ?_
        refine z_iload_2 dX7_allow_22 ?_
        refine z_iald (hh.at 20 rfl) (by omega) (by omega) dX7_allow_23 ?_
        refine z_icmpne (tgt := 31) dX7_allow_24 (by decide) (fun h_24 => ?_) (fun h_24 => ?_)
        · refine z_iconst dX7_allow_31 (by decide) ?_
          refine z_aload_0 dX7_allow_32 ?_
          refine z_getF (h + 21) 3 rfl f_X7_18 (hh.at 18 rfl) rfl rfl dX7_allow_33 ?_
          refine z_iload_2 dX7_allow_36 ?_
          refine z_zald (hh.at 21 rfl) (by omega) (by omega) dX7_allow_37 ?_
          refine z_icmpeq (tgt := 43) dX7_allow_38 (by decide) (fun h_38 => ?_) (fun h_38 => ?_)
          · refine z_iinc_2 rfl dX7_allow_43 (by omega) ?_
            refine z_goto (tgt := 2) dX7_allow_46 (by decide) ?_
            exact ih (i + 1) (by omega) (by omega) (fun j j0 j1 => by rcases Int.lt_or_eq_of_le (show j ≤ i by omega) with q | q; exact hno j j0 q; rw [q, zHV_15 h0 h1, zHV_16 h0 h1, zHV_17 h0 h1]; omega) (by omega)
          · refine z_iconst dX7_allow_41 (by decide) ?_
            exact z_zret (by decide) dX7_allow_42 (zb_r0 (fun q => by have q := q i h0 h1; rw [zHV_15 h0 h1, zHV_16 h0 h1, zHV_17 h0 h1] at q; omega) rfl)
        · refine z_iconst dX7_allow_27 (by decide) ?_
          refine z_goto (tgt := 32) dX7_allow_28 (by decide) ?_
          refine z_aload_0 dX7_allow_32 ?_
          refine z_getF (h + 21) 3 rfl f_X7_18 (hh.at 18 rfl) rfl rfl dX7_allow_33 ?_
          refine z_iload_2 dX7_allow_36 ?_
          refine z_zald (hh.at 21 rfl) (by omega) (by omega) dX7_allow_37 ?_
          refine z_icmpeq (tgt := 43) dX7_allow_38 (by decide) (fun h_38 => ?_) (fun h_38 => ?_)
          · refine z_iinc_2 rfl dX7_allow_43 (by omega) ?_
            refine z_goto (tgt := 2) dX7_allow_46 (by decide) ?_
            exact ih (i + 1) (by omega) (by omega) (fun j j0 j1 => by rcases Int.lt_or_eq_of_le (show j ≤ i by omega) with q | q; exact hno j j0 q; rw [q, zHV_15 h0 h1, zHV_16 h0 h1, zHV_17 h0 h1]; omega) (by omega)
          · refine z_iconst dX7_allow_41 (by decide) ?_
            exact z_zret (by decide) dX7_allow_42 (zb_r0 (fun q => by have q := q i h0 h1; rw [zHV_15 h0 h1, zHV_16 h0 h1, zHV_17 h0 h1] at q; omega) rfl)
  refine z_iconst dX7_allow_0 (by decide) ?_
  refine z_istore_2 rfl dX7_allow_1 ?_
  exact L2 8 0 (by omega) (by omega) (fun j j0 j1 => by omega) (by omega)
