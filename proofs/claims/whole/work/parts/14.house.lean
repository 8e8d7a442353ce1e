/-! HOUSE: what its parts answer, and what they make of the picture -/
theorem zHV_bc {μ : zM} {h : Nat} : zHV μ h 3 0 = μ (h + 1) 3 := rfl
theorem zHV_fade {μ : zM} {h : Nat} : zHV μ h 3 1 = μ (h + 1) 4 := rfl
theorem zHV_door {μ : zM} {h : Nat} : zHV μ h 3 2 = μ (h + 1) 5 := rfl
theorem zHV_pc {μ : zM} {h : Nat} : zHV μ h 3 3 = μ (h + 5) 6 := rfl
theorem zHV_sc {μ : zM} {h : Nat} : zHV μ h 3 4 = μ (h + 12) 5 := rfl
theorem zHV_rc {μ : zM} {h : Nat} : zHV μ h 3 5 = μ (h + 18) 3 := rfl
theorem zHV_0 {μ : zM} {h : Nat} {i : Int} (h0 : 0 ≤ i) (h1 : i < 36) : zHV μ h 0 i = μ (h + 2) i := if_pos ⟨h0, h1⟩
theorem zHV_1 {μ : zM} {h : Nat} {i : Int} (h0 : 0 ≤ i) (h1 : i < 36) : zHV μ h 1 i = μ (h + 3) i := if_pos ⟨h0, h1⟩
theorem zHV_2 {μ : zM} {h : Nat} {i : Int} (h0 : 0 ≤ i) (h1 : i < μ (h + 1) 3) : zHV μ h 2 i = μ (h + 4) i := if_pos ⟨h0, h1⟩
theorem zHV_4 {μ : zM} {h : Nat} {i : Int} (h0 : 0 ≤ i) (h1 : i < μ (h + 5) 6) : zHV μ h 4 i = μ (h + 6) i := if_pos ⟨h0, h1⟩
theorem zHV_5 {μ : zM} {h : Nat} {i : Int} (h0 : 0 ≤ i) (h1 : i < μ (h + 5) 6) : zHV μ h 5 i = μ (h + 7) i := if_pos ⟨h0, h1⟩
theorem zHV_6 {μ : zM} {h : Nat} {i : Int} (h0 : 0 ≤ i) (h1 : i < μ (h + 5) 6) : zHV μ h 6 i = μ (h + 8) i := if_pos ⟨h0, h1⟩
theorem zHV_7 {μ : zM} {h : Nat} {i : Int} (h0 : 0 ≤ i) (h1 : i < μ (h + 5) 6) : zHV μ h 7 i = μ (h + 9) i := if_pos ⟨h0, h1⟩
theorem zHV_8 {μ : zM} {h : Nat} {i : Int} (h0 : 0 ≤ i) (h1 : i < μ (h + 5) 6) : zHV μ h 8 i = μ (h + 10) i := if_pos ⟨h0, h1⟩
theorem zHV_9 {μ : zM} {h : Nat} {i : Int} (h0 : 0 ≤ i) (h1 : i < μ (h + 5) 6) : zHV μ h 9 i = μ (h + 11) i := if_pos ⟨h0, h1⟩
theorem zHV_10 {μ : zM} {h : Nat} {i : Int} (h0 : 0 ≤ i) (h1 : i < μ (h + 12) 5) : zHV μ h 10 i = μ (h + 13) i := if_pos ⟨h0, h1⟩
theorem zHV_11 {μ : zM} {h : Nat} {i : Int} (h0 : 0 ≤ i) (h1 : i < μ (h + 12) 5) : zHV μ h 11 i = μ (h + 14) i := if_pos ⟨h0, h1⟩
theorem zHV_12 {μ : zM} {h : Nat} {i : Int} (h0 : 0 ≤ i) (h1 : i < μ (h + 12) 5) : zHV μ h 12 i = μ (h + 15) i := if_pos ⟨h0, h1⟩
theorem zHV_13 {μ : zM} {h : Nat} {i : Int} (h0 : 0 ≤ i) (h1 : i < μ (h + 12) 5) : zHV μ h 13 i = μ (h + 16) i := if_pos ⟨h0, h1⟩
theorem zHV_14 {μ : zM} {h : Nat} {i : Int} (h0 : 0 ≤ i) (h1 : i < μ (h + 12) 5) : zHV μ h 14 i = μ (h + 17) i := if_pos ⟨h0, h1⟩
theorem zHV_15 {μ : zM} {h : Nat} {i : Int} (h0 : 0 ≤ i) (h1 : i < μ (h + 18) 3) : zHV μ h 15 i = μ (h + 19) i := if_pos ⟨h0, h1⟩
theorem zHV_16 {μ : zM} {h : Nat} {i : Int} (h0 : 0 ≤ i) (h1 : i < μ (h + 18) 3) : zHV μ h 16 i = μ (h + 20) i := if_pos ⟨h0, h1⟩
theorem zHV_17 {μ : zM} {h : Nat} {i : Int} (h0 : 0 ≤ i) (h1 : i < μ (h + 18) 3) : zHV μ h 17 i = μ (h + 21) i := if_pos ⟨h0, h1⟩
theorem zBA_m {μ : zM} {h : Nat} {c : Int} : zBA (zHV μ h) c ↔ ∃ i, 0 ≤ i ∧ i < μ (h + 1) 3 ∧ μ (h + 4) i = c := ⟨fun ⟨i, a, b, e⟩ => ⟨i, a, b, by rw [zHV_2 a b] at e; exact e⟩, fun ⟨i, a, b, e⟩ => ⟨i, a, b, by rw [zHV_2 a b]; exact e⟩⟩
theorem zTK_m {μ : zM} {h : Nat} {s b : Int} : zTK (zHV μ h) s b ↔ ∃ k, 0 ≤ k ∧ k < μ (h + 5) 6 ∧ k ≠ s ∧ μ (h + 11) k = b := ⟨fun ⟨i, a, b, n, e⟩ => ⟨i, a, b, n, by rw [zHV_9 a b] at e; exact e⟩, fun ⟨i, a, b, n, e⟩ => ⟨i, a, b, n, by rw [zHV_9 a b]; exact e⟩⟩
/-- the numbers of a house in memory, out of its being in order -/
theorem zOK_n {μ : zM} {h : Nat} (ok : zOK (zHV μ h)) : (0 ≤ μ (h + 1) 3 ∧ μ (h + 1) 3 ≤ 6) ∧ (0 ≤ μ (h + 1) 4 ∧ μ (h + 1) 4 ≤ 9) ∧ (0 ≤ μ (h + 1) 5 ∧ μ (h + 1) 5 < 36) ∧ (0 ≤ μ (h + 5) 6 ∧ μ (h + 5) 6 ≤ 5) ∧ (0 ≤ μ (h + 12) 5 ∧ μ (h + 12) 5 ≤ 8) ∧ (0 ≤ μ (h + 18) 3 ∧ μ (h + 18) 3 ≤ 4) := ⟨ok.1.2.1, ok.1.2.2.2.1, ⟨ok.1.2.2.2.2.1, ok.1.2.2.2.2.2.1⟩, ok.2.1.1, ok.2.2.1.1, ok.2.2.2.1⟩
set_option maxRecDepth 100000 in
set_option maxHeartbeats 4000000 in
theorem k_X1_hasBed {l : Launch} {E : zE} {h : Nat} {μ : zM} (hh : zAt zp2 h) (ok : zOK (zHV μ h)) {b : Int} : Ct l E yX1_hasBed cX1_hasBed 2 (some .boolean) ({ frames := 0, cells := 0, slots := 0, locals := 0 }) [zR (h + 1), zI b] μ (fun r ν => r = some (zI (zb (0 ≤ b ∧ b < μ (h + 1) 3))) ∧ ν = μ) := by
  refine Ct.of RX1 [zR (h + 1), zI b] (by decide +kernel) rfl ⟨rfl, rfl⟩ rfl (Nat.le_of_ble_eq_true rfl) (fun X hX hc0 ha0 => ?_)
  subst hX
  refine z_iload_1 dX1_hasBed_0 ?_
  refine z_iflt (tgt := 16) dX1_hasBed_1 (by decide) (fun h_1 => ?_) (fun h_1 => ?_)
  · refine z_iconst dX1_hasBed_16 (by decide) ?_
    exact z_zret (by decide) dX1_hasBed_17 (by first | exact zb_r ⟨by omega, by omega⟩ rfl | exact zb_r0 (by omega) rfl)
  · refine z_iload_1 dX1_hasBed_4 ?_
    refine z_aload_0 dX1_hasBed_5 ?_
    refine z_getI 3 rfl f_X1_22 (hh.at 1 rfl) rfl dX1_hasBed_6 ?_
    refine z_icmpge (tgt := 16) dX1_hasBed_9 (by decide) (fun h_9 => ?_) (fun h_9 => ?_)
    · refine z_iconst dX1_hasBed_16 (by decide) ?_
      exact z_zret (by decide) dX1_hasBed_17 (by first | exact zb_r ⟨by omega, by omega⟩ rfl | exact zb_r0 (by omega) rfl)
    · refine z_iconst dX1_hasBed_12 (by decide) ?_
      refine z_goto (tgt := 17) dX1_hasBed_13 (by decide) ?_
      exact z_zret (by decide) dX1_hasBed_17 (by first | exact zb_r ⟨by omega, by omega⟩ rfl | exact zb_r0 (by omega) rfl)
set_option maxRecDepth 100000 in
set_option maxHeartbeats 4000000 in
theorem k_X1_hasBedAt {l : Launch} {E : zE} {h : Nat} {μ : zM} (hh : zAt zp2 h) (ok : zOK (zHV μ h)) {c : Int} : Ct l E yX1_hasBedAt cX1_hasBedAt 3 (some .boolean) ({ frames := 0, cells := 0, slots := 0, locals := 0 }) [zR (h + 1), zI c] μ (fun r ν => r = some (zI (zb (zBA (zHV μ h) c))) ∧ ν = μ) := by
  refine Ct.of RX1 [zR (h + 1), zI c, zU] (by decide +kernel) rfl ⟨rfl, rfl⟩ rfl (Nat.le_of_ble_eq_true rfl) (fun X hX hc0 ha0 => ?_)
  subst hX
  obtain ⟨nb, nf, nd, np, ns, nr⟩ := zOK_n ok
  have L2 : ∀ (k : Nat) (i : Int), 0 ≤ i → i ≤ μ (h + 1) 3 → (∀ j, 0 ≤ j → j < i → μ (h + 4) j ≠ c) → μ (h + 1) 3 - i < k → MW X E cX1_hasBedAt RX1 ({ frames := 0, cells := 0, slots := 0, locals := 0 }) (some .boolean) (fun r ν => r = some (zI (zb (zBA (zHV μ h) c))) ∧ ν = μ) 2 [zR (h + 1), zI c, zI i] [] μ := by
    intro k
    induction k with
    | zero => intro i h1 h2 hno h3; omega
    | succ k ih =>
      intro i h1 h2 hno h3
      refine z_iload_2 dX1_hasBedAt_2 ?_
      refine z_aload_0 dX1_hasBedAt_3 ?_
      refine z_getI 3 rfl f_X1_22 (hh.at 1 rfl) rfl dX1_hasBedAt_4 ?_
      refine z_icmpge (tgt := 28) dX1_hasBedAt_7 (by decide) (fun h_7 => ?_) (fun h_7 => ?_)
      · refine z_iconst dX1_hasBedAt_28 (by decide) ?_
        exact z_zret (by decide) dX1_hasBedAt_29 (zb_r0 (fun q => by obtain ⟨j, a, b, e⟩ := zBA_m.mp q; exact hno j a (by omega) e) rfl)
      · refine z_aload_0 dX1_hasBedAt_10 ?_
        refine z_getF (h + 4) 3 rfl f_X1_19 (hh.at 1 rfl) rfl rfl dX1_hasBedAt_11 ?_
        refine z_iload_2 dX1_hasBedAt_14 ?_
        refine z_iald (hh.at 4 rfl) (by omega) (by omega) dX1_hasBedAt_15 ?_
        refine z_iload_1 dX1_hasBedAt_16 ?_
        refine z_icmpne (tgt := 22) dX1_hasBedAt_17 (by decide) (fun h_17 => ?_) (fun h_17 => ?_)
        · refine z_iinc_2 rfl dX1_hasBedAt_22 (by omega) ?_
          refine z_goto (tgt := 2) dX1_hasBedAt_25 (by decide) ?_
          exact ih (i + 1) (by omega) (by omega) (fun j j0 j1 => by rcases Int.lt_or_eq_of_le (show j ≤ i by omega) with q | q; exact hno j j0 q; rw [q]; exact h_17) (by omega)
        · refine z_iconst dX1_hasBedAt_20 (by decide) ?_
          exact z_zret (by decide) dX1_hasBedAt_21 (zb_r (zBA_m.mpr ⟨i, by omega, by omega, by assumption⟩) rfl)
  refine z_iconst dX1_hasBedAt_0 (by decide) ?_
  refine z_istore_2 rfl dX1_hasBedAt_1 ?_
  exact L2 8 0 (by omega) (by omega) (fun j j0 j1 => by omega) (by omega)
