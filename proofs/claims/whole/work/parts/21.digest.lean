/-! IMAGES AND THE DIGEST -/
theorem zBV_cg {b b2 : Int → Int} (h : ∀ k, 0 ≤ k → k < 172 → b k = b2 k) (n : b2 1 ≤ 6 ∧ b2 2 ≤ 5 ∧ b2 3 ≤ 8 ∧ b2 4 ≤ 4) : zBV b = zBV b2 := by
  funext k i
  match k with
  | 0 => show (if 0 ≤ i ∧ i < 36 then b (10 + i) else 0) = (if 0 ≤ i ∧ i < 36 then b2 (10 + i) else 0); by_cases q : 0 ≤ i ∧ i < 36; { rw [if_pos q, if_pos q, h _ (by omega) (by omega)] }; { rw [if_neg q, if_neg q] }
  | 1 => show (if 0 ≤ i ∧ i < 36 then b (46 + i) else 0) = (if 0 ≤ i ∧ i < 36 then b2 (46 + i) else 0); by_cases q : 0 ≤ i ∧ i < 36; { rw [if_pos q, if_pos q, h _ (by omega) (by omega)] }; { rw [if_neg q, if_neg q] }
  | 2 => show (if 0 ≤ i ∧ i < b 1 then b (82 + i) else 0) = (if 0 ≤ i ∧ i < b2 1 then b2 (82 + i) else 0); have n1 := n.1; rw [h 1 (by decide) (by decide)]; by_cases q : 0 ≤ i ∧ i < b2 1; { rw [if_pos q, if_pos q, h _ (by omega) (by omega)] }; { rw [if_neg q, if_neg q] }
  | 3 => show (if i = 0 then b 1 else if i = 1 then b 5 else if i = 2 then b 6 else if i = 3 then b 2 else if i = 4 then b 3 else if i = 5 then b 4 else 0) = (if i = 0 then b2 1 else if i = 1 then b2 5 else if i = 2 then b2 6 else if i = 3 then b2 2 else if i = 4 then b2 3 else if i = 5 then b2 4 else 0); rw [h 1 (by decide) (by decide), h 5 (by decide) (by decide), h 6 (by decide) (by decide), h 2 (by decide) (by decide), h 3 (by decide) (by decide), h 4 (by decide) (by decide)]
  | 4 => show (if 0 ≤ i ∧ i < b 2 then b (90 + 6 * i) else 0) = (if 0 ≤ i ∧ i < b2 2 then b2 (90 + 6 * i) else 0); have n1 := n.2.1; rw [h 2 (by decide) (by decide)]; by_cases q : 0 ≤ i ∧ i < b2 2; { rw [if_pos q, if_pos q, h _ (by omega) (by omega)] }; { rw [if_neg q, if_neg q] }
  | 5 => show (if 0 ≤ i ∧ i < b 2 then b (90 + 6 * i + 1) else 0) = (if 0 ≤ i ∧ i < b2 2 then b2 (90 + 6 * i + 1) else 0); have n1 := n.2.1; rw [h 2 (by decide) (by decide)]; by_cases q : 0 ≤ i ∧ i < b2 2; { rw [if_pos q, if_pos q, h _ (by omega) (by omega)] }; { rw [if_neg q, if_neg q] }
  | 6 => show (if 0 ≤ i ∧ i < b 2 then b (90 + 6 * i + 2) else 0) = (if 0 ≤ i ∧ i < b2 2 then b2 (90 + 6 * i + 2) else 0); have n1 := n.2.1; rw [h 2 (by decide) (by decide)]; by_cases q : 0 ≤ i ∧ i < b2 2; { rw [if_pos q, if_pos q, h _ (by omega) (by omega)] }; { rw [if_neg q, if_neg q] }
  | 7 => show (if 0 ≤ i ∧ i < b 2 then b (90 + 6 * i + 3) else 0) = (if 0 ≤ i ∧ i < b2 2 then b2 (90 + 6 * i + 3) else 0); have n1 := n.2.1; rw [h 2 (by decide) (by decide)]; by_cases q : 0 ≤ i ∧ i < b2 2; { rw [if_pos q, if_pos q, h _ (by omega) (by omega)] }; { rw [if_neg q, if_neg q] }
  | 8 => show (if 0 ≤ i ∧ i < b 2 then b (90 + 6 * i + 4) else 0) = (if 0 ≤ i ∧ i < b2 2 then b2 (90 + 6 * i + 4) else 0); have n1 := n.2.1; rw [h 2 (by decide) (by decide)]; by_cases q : 0 ≤ i ∧ i < b2 2; { rw [if_pos q, if_pos q, h _ (by omega) (by omega)] }; { rw [if_neg q, if_neg q] }
  | 9 => show (if 0 ≤ i ∧ i < b 2 then b (90 + 6 * i + 5) else 0) = (if 0 ≤ i ∧ i < b2 2 then b2 (90 + 6 * i + 5) else 0); have n1 := n.2.1; rw [h 2 (by decide) (by decide)]; by_cases q : 0 ≤ i ∧ i < b2 2; { rw [if_pos q, if_pos q, h _ (by omega) (by omega)] }; { rw [if_neg q, if_neg q] }
  | 10 => show (if 0 ≤ i ∧ i < b 3 then b (120 + 5 * i) else 0) = (if 0 ≤ i ∧ i < b2 3 then b2 (120 + 5 * i) else 0); have n1 := n.2.2.1; rw [h 3 (by decide) (by decide)]; by_cases q : 0 ≤ i ∧ i < b2 3; { rw [if_pos q, if_pos q, h _ (by omega) (by omega)] }; { rw [if_neg q, if_neg q] }
  | 11 => show (if 0 ≤ i ∧ i < b 3 then b (120 + 5 * i + 1) else 0) = (if 0 ≤ i ∧ i < b2 3 then b2 (120 + 5 * i + 1) else 0); have n1 := n.2.2.1; rw [h 3 (by decide) (by decide)]; by_cases q : 0 ≤ i ∧ i < b2 3; { rw [if_pos q, if_pos q, h _ (by omega) (by omega)] }; { rw [if_neg q, if_neg q] }
  | 12 => show (if 0 ≤ i ∧ i < b 3 then b (120 + 5 * i + 2) else 0) = (if 0 ≤ i ∧ i < b2 3 then b2 (120 + 5 * i + 2) else 0); have n1 := n.2.2.1; rw [h 3 (by decide) (by decide)]; by_cases q : 0 ≤ i ∧ i < b2 3; { rw [if_pos q, if_pos q, h _ (by omega) (by omega)] }; { rw [if_neg q, if_neg q] }
  | 13 => show (if 0 ≤ i ∧ i < b 3 then b (120 + 5 * i + 3) else 0) = (if 0 ≤ i ∧ i < b2 3 then b2 (120 + 5 * i + 3) else 0); have n1 := n.2.2.1; rw [h 3 (by decide) (by decide)]; by_cases q : 0 ≤ i ∧ i < b2 3; { rw [if_pos q, if_pos q, h _ (by omega) (by omega)] }; { rw [if_neg q, if_neg q] }
  | 14 => show (if 0 ≤ i ∧ i < b 3 then b (120 + 5 * i + 4) else 0) = (if 0 ≤ i ∧ i < b2 3 then b2 (120 + 5 * i + 4) else 0); have n1 := n.2.2.1; rw [h 3 (by decide) (by decide)]; by_cases q : 0 ≤ i ∧ i < b2 3; { rw [if_pos q, if_pos q, h _ (by omega) (by omega)] }; { rw [if_neg q, if_neg q] }
  | 15 => show (if 0 ≤ i ∧ i < b 4 then b (160 + 3 * i) else 0) = (if 0 ≤ i ∧ i < b2 4 then b2 (160 + 3 * i) else 0); have n1 := n.2.2.2; rw [h 4 (by decide) (by decide)]; by_cases q : 0 ≤ i ∧ i < b2 4; { rw [if_pos q, if_pos q, h _ (by omega) (by omega)] }; { rw [if_neg q, if_neg q] }
  | 16 => show (if 0 ≤ i ∧ i < b 4 then b (160 + 3 * i + 1) else 0) = (if 0 ≤ i ∧ i < b2 4 then b2 (160 + 3 * i + 1) else 0); have n1 := n.2.2.2; rw [h 4 (by decide) (by decide)]; by_cases q : 0 ≤ i ∧ i < b2 4; { rw [if_pos q, if_pos q, h _ (by omega) (by omega)] }; { rw [if_neg q, if_neg q] }
  | 17 => show (if 0 ≤ i ∧ i < b 4 then b (160 + 3 * i + 2) else 0) = (if 0 ≤ i ∧ i < b2 4 then b2 (160 + 3 * i + 2) else 0); have n1 := n.2.2.2; rw [h 4 (by decide) (by decide)]; by_cases q : 0 ≤ i ∧ i < b2 4; { rw [if_pos q, if_pos q, h _ (by omega) (by omega)] }; { rw [if_neg q, if_neg q] }
  | m + 18 => rfl
theorem zBV_nb {b : Int → Int} (ok : zOK (zBV b)) : b 1 ≤ 6 ∧ b 2 ≤ 5 ∧ b 3 ≤ 8 ∧ b 4 ≤ 4 := ⟨ok.1.2.1.2, ok.2.1.1.2, ok.2.2.1.1.2, ok.2.2.2.1.2⟩
/-- where an image's house lies -/
def zIm (i : Int) : Nat := 349 + 22 * i.toNat
theorem zq2_im {i : Int} (h0 : 0 ≤ i) (h1 : i ≤ 1) : zAt zp2 (45 + zHa + zHb * i.toNat) := by
  rcases (by omega : i = 0 ∨ i = 1) with rfl | rfl
  · exact zq2_349
  · exact zq2_371
theorem zim_e {i : Int} : 45 + zHa + zHb * i.toNat = zIm i := rfl
set_option maxRecDepth 100000 in
set_option maxHeartbeats 4000000 in
theorem k_X11_image {l : Launch} {E : zE} {μ : zM} (hm : zXpre μ) {i : Int} : Ct l E yX11_image cX11_image 2 (some .int) ({ frames := 3, cells := 0, slots := 0, locals := 86 }) [zR 0, zI i] μ (fun r ν => (¬ (0 ≤ i ∧ i ≤ 1) ∧ r = some (zI (-2)) ∧ ν = zCt μ (-2)) ∨ ((0 ≤ i ∧ i ≤ 1) ∧ r = some (zI 1) ∧ zHV ν (zIm i) = zHV μ 1 ∧ ν 46 = zfu (μ 46) i 1 ∧ ∀ a, (a < zIm i ∨ zIm i + 22 ≤ a) → a ≠ 46 → ν a = μ a)) := by
  refine Ct.of RX11 [zR 0, zI i] (by decide +kernel) rfl ⟨rfl, rfl⟩ rfl (Nat.le_of_ble_eq_true rfl) (fun X hX hc0 ha0 => ?_)
  subst hX
  refine z_iload_1 dX11_image_0 ?_
  refine z_iconst dX11_image_1 (by decide) ?_
  refine z_iconst dX11_image_2 (by decide) ?_
  refine z_callS3 (k_X11_isIn) m_X11_isIn l_X11_174 (Nat.le_of_ble_eq_true rfl) ⟨Nat.le_of_ble_eq_true rfl, Nat.le_of_ble_eq_true rfl⟩ ⟨rfl, rfl⟩ dX11_image_3 (fun r μ1 hp => ?_)
  obtain ⟨rfl, hv⟩ := hp
  replace hv := hv.symm
  subst hv
  refine z_ifne (tgt := 16) dX11_image_6 (by decide) (fun h_6 => ?_) (fun h_6 => ?_)
  · replace h_6 := zb_n.mp h_6
    refine z_aload_0 dX11_image_16 ?_
    refine z_getF 45 45 rfl f_X11_19 zl_0 rfl rfl dX11_image_17 ?_
    refine z_iload_1 dX11_image_20 ?_
    have hi := zq2_im h_6.1 h_6.2
    refine z_house zl_45 (by omega) (by omega) dX11_image_21 ?_
    refine z_aload_0 dX11_image_22 ?_
    refine z_getF 1 1 rfl f_X11_10 zl_0 rfl rfl dX11_image_23 ?_
    refine z_callV1 (k_X2_copy hi zq2_1 (by omega) hm.1) m_X2_copy (hi.at 0 rfl) l_X11_159 (Nat.le_of_ble_eq_true rfl) ⟨Nat.le_of_ble_eq_true rfl, Nat.le_of_ble_eq_true rfl⟩ ⟨rfl, rfl⟩ dX11_image_26 (fun r μ1 hp => ?_)
    obtain ⟨rfl, w1, w2⟩ := hp
    have h46 : μ1 46 = μ 46 := w2 46 (by rw [zim_e]; unfold zIm; omega)
    refine z_aload_0 dX11_image_29 ?_
    refine z_getF 46 46 rfl f_X11_23 zl_0 rfl rfl dX11_image_30 ?_
    refine z_iload_1 dX11_image_33 ?_
    refine z_iconst dX11_image_34 (by decide) ?_
    refine z_zast (by decide) zl_46 (by omega) (by omega) dX11_image_35 ?_
    refine z_iconst dX11_image_36 (by decide) ?_
    exact z_iret dX11_image_37 (by first | exact Or.inl ⟨h_6, rfl, rfl⟩ | exact Or.inr ⟨h_6, rfl, (zHV_fr (a := 46) (n := 1) (zFr_up (by omega) (by omega)) (by unfold zIm; omega)).trans w1, by rw [zup_fu, h46], fun a ha hb => by rw [zup_row hb]; exact w2 a (by rw [zim_e]; exact ha)⟩)
  · replace h_6 := zb_0.mp h_6
    refine z_aload_0 dX11_image_9 ?_
    refine z_bipush dX11_image_10 (by decide) ?_
    refine z_callV1 (k_X11_counted hm.2) m_X11_counted zl_0 l_X11_86 (Nat.le_of_ble_eq_true rfl) ⟨Nat.le_of_ble_eq_true rfl, Nat.le_of_ble_eq_true rfl⟩ ⟨rfl, rfl⟩ dX11_image_12 (fun r μ1 hp => ?_)
    obtain ⟨rfl, hv⟩ := hp
    replace hv := hv.symm
    subst hv
    exact z_iret dX11_image_15 (by first | exact Or.inl ⟨h_6, rfl, rfl⟩ | exact Or.inr ⟨h_6, rfl, (zHV_fr (a := 46) (n := 1) (zFr_up (by omega) (by omega)) (by unfold zIm; omega)).trans w1, by rw [zup_fu, h46], fun a ha hb => by rw [zup_row hb]; exact w2 a (by rw [zim_e]; exact ha)⟩)
set_option maxRecDepth 100000 in
set_option maxHeartbeats 4000000 in
theorem k_X11_from {l : Launch} {E : zE} {μ : zM} (hm : zXpre μ) {i : Int} (hk : 0 ≤ i → i ≤ 1 → μ 46 i = 1 → zOK (zHV μ (zIm i))) : Ct l E yX11_from cX11_from 2 (some .int) ({ frames := 3, cells := 0, slots := 0, locals := 86 }) [zR 0, zI i] μ (fun r ν => (¬ (0 ≤ i ∧ i ≤ 1) ∧ r = some (zI (-2)) ∧ ν = zCt μ (-2)) ∨ ((0 ≤ i ∧ i ≤ 1) ∧ μ 46 i = 0 ∧ r = some (zI (-3)) ∧ ν = zCt μ (-3)) ∨ ((0 ≤ i ∧ i ≤ 1) ∧ μ 46 i = 1 ∧ r = some (zI 1) ∧ zHV ν 1 = zHV μ (zIm i) ∧ zFr 1 22 μ ν)) := by
  refine Ct.of RX11 [zR 0, zI i] (by decide +kernel) rfl ⟨rfl, rfl⟩ rfl (Nat.le_of_ble_eq_true rfl) (fun X hX hc0 ha0 => ?_)
  subst hX
  refine z_iload_1 dX11_from_0 ?_
  refine z_iconst dX11_from_1 (by decide) ?_
  refine z_iconst dX11_from_2 (by decide) ?_
  refine z_callS3 (k_X11_isIn) m_X11_isIn l_X11_174 (Nat.le_of_ble_eq_true rfl) ⟨Nat.le_of_ble_eq_true rfl, Nat.le_of_ble_eq_true rfl⟩ ⟨rfl, rfl⟩ dX11_from_3 (fun r μ1 hp => ?_)
  obtain ⟨rfl, hv⟩ := hp
  replace hv := hv.symm
  subst hv
  refine z_ifne (tgt := 16) dX11_from_6 (by decide) (fun h_6 => ?_) (fun h_6 => ?_)
  · replace h_6 := zb_n.mp h_6
    refine z_aload_0 dX11_from_16 ?_
    refine z_getF 46 46 rfl f_X11_23 zl_0 rfl rfl dX11_from_17 ?_
    refine z_iload_1 dX11_from_20 ?_
    refine z_zald zl_46 (by omega) (by omega) dX11_from_21 ?_
    have k01 := hc0.2.2.2.2 46 2 i zl_46
    refine z_ifne (tgt := 32) dX11_from_22 (by decide) (fun h_22 => ?_) (fun h_22 => ?_)
    · refine z_aload_0 dX11_from_32 ?_
      refine z_getF 1 1 rfl f_X11_10 zl_0 rfl rfl dX11_from_33 ?_
      refine z_aload_0 dX11_from_36 ?_
      refine z_getF 45 45 rfl f_X11_19 zl_0 rfl rfl dX11_from_37 ?_
      refine z_iload_1 dX11_from_40 ?_
      have hi := zq2_im h_6.1 h_6.2
      have h1 : μ 46 i = 1 := by omega
      have hok := hk h_6.1 h_6.2 h1
      refine z_house zl_45 (by omega) (by omega) dX11_from_41 ?_
      refine z_callV1 (k_X2_copy zq2_1 hi (by omega) hok) m_X2_copy zl_1 l_X11_159 (Nat.le_of_ble_eq_true rfl) ⟨Nat.le_of_ble_eq_true rfl, Nat.le_of_ble_eq_true rfl⟩ ⟨rfl, rfl⟩ dX11_from_42 (fun r μ1 hp => ?_)
      obtain ⟨rfl, w1, w2⟩ := hp
      refine z_iconst dX11_from_45 (by decide) ?_
      exact z_iret dX11_from_46 (by first | exact Or.inl ⟨h_6, rfl, rfl⟩ | exact Or.inr (Or.inl ⟨h_6, by omega, rfl, rfl⟩) | exact Or.inr (Or.inr ⟨h_6, h1, rfl, w1, w2⟩))
    · refine z_aload_0 dX11_from_25 ?_
      refine z_bipush dX11_from_26 (by decide) ?_
      refine z_callV1 (k_X11_counted hm.2) m_X11_counted zl_0 l_X11_86 (Nat.le_of_ble_eq_true rfl) ⟨Nat.le_of_ble_eq_true rfl, Nat.le_of_ble_eq_true rfl⟩ ⟨rfl, rfl⟩ dX11_from_28 (fun r μ1 hp => ?_)
      obtain ⟨rfl, hv⟩ := hp
      replace hv := hv.symm
      subst hv
      exact z_iret dX11_from_31 (by first | exact Or.inl ⟨h_6, rfl, rfl⟩ | exact Or.inr (Or.inl ⟨h_6, by omega, rfl, rfl⟩) | exact Or.inr (Or.inr ⟨h_6, h1, rfl, w1, w2⟩))
  · replace h_6 := zb_0.mp h_6
    refine z_aload_0 dX11_from_9 ?_
    refine z_bipush dX11_from_10 (by decide) ?_
    refine z_callV1 (k_X11_counted hm.2) m_X11_counted zl_0 l_X11_86 (Nat.le_of_ble_eq_true rfl) ⟨Nat.le_of_ble_eq_true rfl, Nat.le_of_ble_eq_true rfl⟩ ⟨rfl, rfl⟩ dX11_from_12 (fun r μ1 hp => ?_)
    obtain ⟨rfl, hv⟩ := hp
    replace hv := hv.symm
    subst hv
    exact z_iret dX11_from_15 (by first | exact Or.inl ⟨h_6, rfl, rfl⟩ | exact Or.inr (Or.inl ⟨h_6, by omega, rfl, rfl⟩) | exact Or.inr (Or.inr ⟨h_6, h1, rfl, w1, w2⟩))
set_option maxRecDepth 100000 in
set_option maxHeartbeats 4000000 in
theorem k_X12_image {l : Launch} {E : zE} {μ : zM} (hm : zMpre μ) {i : Int} : Ct l E yX12_image cX12_image 3 (some .int) ({ frames := 2, cells := 0, slots := 0, locals := 42 }) [zR 393, zI i] μ (fun r ν => (¬ (0 ≤ i ∧ i ≤ 1) ∧ r = some (zI (-2)) ∧ ν = zup μ 398 0 (μ 398 0 + zq1 μ)) ∨ ((0 ≤ i ∧ i ≤ 1) ∧ r = some (zI 1) ∧ (zTx (172 * i) 172 (μ 394) (μ 395) (ν 395) ∧ ν 396 = zfu (μ 396) i 1 ∧ ∀ a, a ≠ 395 → a ≠ 396 → ν a = μ a))) := by
  refine Ct.of RX12 [zR 393, zI i, zU] (by decide +kernel) rfl ⟨rfl, rfl⟩ rfl (Nat.le_of_ble_eq_true rfl) (fun X hX hc0 ha0 => ?_)
  subst hX
  have L4 : (0 ≤ i ∧ i ≤ 1) → MW X E cX12_image RX12 ({ frames := 2, cells := 0, slots := 0, locals := 42 }) (some .int) (fun r ν => (¬ (0 ≤ i ∧ i ≤ 1) ∧ r = some (zI (-2)) ∧ ν = zup μ 398 0 (μ 398 0 + zq1 μ)) ∨ ((0 ≤ i ∧ i ≤ 1) ∧ r = some (zI 1) ∧ (zTx (172 * i) 172 (μ 394) (μ 395) (ν 395) ∧ ν 396 = zfu (μ 396) i 1 ∧ ∀ a, a ≠ 395 → a ≠ 396 → ν a = μ a))) 17 [zR 393, zI i, zI 0] [] μ := fun hi => by
    have L3 : ∀ (k : Nat) (ξ : zM) (c : Int), 0 ≤ c → c ≤ 172 → zTx (172 * i) c (μ 394) (μ 395) (ξ 395) → (∀ a, a ≠ 395 → ξ a = μ a) → 172 - c < k → MW X E cX12_image RX12 ({ frames := 2, cells := 0, slots := 0, locals := 42 }) (some .int) (fun r ν => (¬ (0 ≤ i ∧ i ≤ 1) ∧ r = some (zI (-2)) ∧ ν = zup μ 398 0 (μ 398 0 + zq1 μ)) ∨ ((0 ≤ i ∧ i ≤ 1) ∧ r = some (zI 1) ∧ (zTx (172 * i) 172 (μ 394) (μ 395) (ν 395) ∧ ν 396 = zfu (μ 396) i 1 ∧ ∀ a, a ≠ 395 → a ≠ 396 → ν a = μ a))) 17 [zR 393, zI i, zI c] [] ξ := by
      intro k
      induction k with
      | zero => intro ξ c h1 h2 htx hfr h3; omega
      | succ k ih =>
        intro ξ c h1 h2 htx hfr h3
        refine z_iload_2 dX12_image_17 ?_
        refine z_sipush dX12_image_18 (by decide) ?_
        refine z_icmpge (tgt := 48) dX12_image_21 (by decide) (fun h_21 => ?_) (fun h_21 => ?_)
        · refine z_aload_0 dX12_image_48 ?_
          refine z_getF 396 3 rfl f_X12_16 zl_393 rfl rfl dX12_image_49 ?_
          refine z_iload_1 dX12_image_52 ?_
          refine z_iconst dX12_image_53 (by decide) ?_
          refine z_zast (by decide) zl_396 (by omega) (by omega) dX12_image_54 ?_
          refine z_iconst dX12_image_55 (by decide) ?_
          exact z_iret dX12_image_56 (by obtain rfl : c = 172 := (by omega); exact Or.inr ⟨hi, rfl, by rw [zup_row (by decide)]; exact htx, by rw [zup_fu, hfr 396 (by decide)], fun a ha hb => by rw [zup_row hb]; exact hfr a ha⟩)
        · refine z_aload_0 dX12_image_24 ?_
          refine z_getF 395 2 rfl f_X12_13 zl_393 rfl rfl dX12_image_25 ?_
          refine z_sipush dX12_image_28 (by decide) ?_
          refine z_iload_1 dX12_image_31 ?_
          refine z_imul dX12_image_32 (by omega) ?_
          refine z_iload_2 dX12_image_33 ?_
          refine z_iadd dX12_image_34 (by omega) ?_
          refine z_aload_0 dX12_image_35 ?_
          refine z_getF 394 1 rfl f_X12_7 zl_393 rfl rfl dX12_image_36 ?_
          refine z_iload_2 dX12_image_39 ?_
          refine z_iald zl_394 (by omega) (by omega) dX12_image_40 ?_
          refine z_iast zl_395 (by omega) (by omega) dX12_image_41 ?_
          refine z_iinc_2 rfl dX12_image_42 (by omega) ?_
          refine z_goto (tgt := 17) dX12_image_45 (by decide) ?_
          exact ih (zup ξ 395 (172 * i + c) (ξ 394 c)) (c + 1) (by omega) (by omega) (by rw [zup_fu]; exact zTx_s (by omega) htx (by rw [hfr 394 (by decide)])) (fun a ha => by rw [zup_row ha]; exact hfr a ha) (by omega)
    exact L3 200 μ 0 (by omega) (by omega) zTx_0 (fun _ _ => rfl) (by omega)
  refine z_iload_1 dX12_image_0 ?_
  refine z_i2l dX12_image_1 ?_
  refine z_lconst0 dX12_image_2 ?_
  refine z_lconst1 dX12_image_3 ?_
  refine z_callS3 (k_X12_in) m_X12_in l_X12_106 (Nat.le_of_ble_eq_true rfl) ⟨Nat.le_of_ble_eq_true rfl, Nat.le_of_ble_eq_true rfl⟩ ⟨rfl, rfl⟩ dX12_image_4 (fun r μ1 hp => ?_)
  obtain ⟨rfl, hv⟩ := hp
  replace hv := hv.symm
  subst hv
  refine z_ifne (tgt := 15) dX12_image_7 (by decide) (fun h_7 => ?_) (fun h_7 => ?_)
  · replace h_7 := zb_n.mp h_7
    refine z_iconst dX12_image_15 (by decide) ?_
    refine z_istore_2 rfl dX12_image_16 ?_
    exact L4 h_7
  · replace h_7 := zb_0.mp h_7
    refine z_aload_0 dX12_image_10 ?_
    refine z_callV0 (k_X12_bad hm) m_X12_bad zl_393 l_X12_117 (Nat.le_of_ble_eq_true rfl) ⟨Nat.le_of_ble_eq_true rfl, Nat.le_of_ble_eq_true rfl⟩ ⟨rfl, rfl⟩ dX12_image_11 (fun r μ1 hp => ?_)
    obtain ⟨rfl, hv⟩ := hp
    replace hv := hv.symm
    subst hv
    exact z_iret dX12_image_14 (Or.inl ⟨h_7, rfl, rfl⟩)
set_option maxRecDepth 100000 in
set_option maxHeartbeats 4000000 in
theorem k_X12_from {l : Launch} {E : zE} {μ : zM} (hm : zMpre μ) {i : Int} : Ct l E yX12_from cX12_from 3 (some .int) ({ frames := 2, cells := 0, slots := 0, locals := 42 }) [zR 393, zI i] μ (fun r ν => (¬ (0 ≤ i ∧ i ≤ 1) ∧ r = some (zI (-2)) ∧ ν = zup μ 398 0 (μ 398 0 + zq1 μ)) ∨ ((0 ≤ i ∧ i ≤ 1) ∧ μ 396 i = 0 ∧ r = some (zI (-3)) ∧ ν = zup μ 398 1 (μ 398 1 + zq1 μ)) ∨ ((0 ≤ i ∧ i ≤ 1) ∧ μ 396 i = 1 ∧ r = some (zI 1) ∧ (zTx 0 172 (fun k => μ 395 (172 * i + k)) (μ 394) (ν 394) ∧ ∀ a, a ≠ 394 → ν a = μ a))) := by
  refine Ct.of RX12 [zR 393, zI i, zU] (by decide +kernel) rfl ⟨rfl, rfl⟩ rfl (Nat.le_of_ble_eq_true rfl) (fun X hX hc0 ha0 => ?_)
  subst hX
  have L4 : (0 ≤ i ∧ i ≤ 1) → μ 396 i = 1 → MW X E cX12_from RX12 ({ frames := 2, cells := 0, slots := 0, locals := 42 }) (some .int) (fun r ν => (¬ (0 ≤ i ∧ i ≤ 1) ∧ r = some (zI (-2)) ∧ ν = zup μ 398 0 (μ 398 0 + zq1 μ)) ∨ ((0 ≤ i ∧ i ≤ 1) ∧ μ 396 i = 0 ∧ r = some (zI (-3)) ∧ ν = zup μ 398 1 (μ 398 1 + zq1 μ)) ∨ ((0 ≤ i ∧ i ≤ 1) ∧ μ 396 i = 1 ∧ r = some (zI 1) ∧ (zTx 0 172 (fun k => μ 395 (172 * i + k)) (μ 394) (ν 394) ∧ ∀ a, a ≠ 394 → ν a = μ a))) 31 [zR 393, zI i, zI 0] [] μ := fun hi hk => by
    have L3 : ∀ (k : Nat) (ξ : zM) (c : Int), 0 ≤ c → c ≤ 172 → zTx 0 c (fun k => μ 395 (172 * i + k)) (μ 394) (ξ 394) → (∀ a, a ≠ 394 → ξ a = μ a) → 172 - c < k → MW X E cX12_from RX12 ({ frames := 2, cells := 0, slots := 0, locals := 42 }) (some .int) (fun r ν => (¬ (0 ≤ i ∧ i ≤ 1) ∧ r = some (zI (-2)) ∧ ν = zup μ 398 0 (μ 398 0 + zq1 μ)) ∨ ((0 ≤ i ∧ i ≤ 1) ∧ μ 396 i = 0 ∧ r = some (zI (-3)) ∧ ν = zup μ 398 1 (μ 398 1 + zq1 μ)) ∨ ((0 ≤ i ∧ i ≤ 1) ∧ μ 396 i = 1 ∧ r = some (zI 1) ∧ (zTx 0 172 (fun k => μ 395 (172 * i + k)) (μ 394) (ν 394) ∧ ∀ a, a ≠ 394 → ν a = μ a))) 31 [zR 393, zI i, zI c] [] ξ := by
      intro k
      induction k with
      | zero => intro ξ c h1 h2 htx hfr h3; omega
      | succ k ih =>
        intro ξ c h1 h2 htx hfr h3
        refine z_iload_2 dX12_from_31 ?_
        refine z_sipush dX12_from_32 (by decide) ?_
        refine z_icmpge (tgt := 62) dX12_from_35 (by decide) (fun h_35 => ?_) (fun h_35 => ?_)
        · refine z_iconst dX12_from_62 (by decide) ?_
          exact z_iret dX12_from_63 (by obtain rfl : c = 172 := (by omega); exact Or.inr (Or.inr ⟨hi, hk, rfl, htx, hfr⟩))
        · refine z_aload_0 dX12_from_38 ?_
          refine z_getF 394 1 rfl f_X12_7 zl_393 rfl rfl dX12_from_39 ?_
          refine z_iload_2 dX12_from_42 ?_
          refine z_aload_0 dX12_from_43 ?_
          refine z_getF 395 2 rfl f_X12_13 zl_393 rfl rfl dX12_from_44 ?_
          refine z_sipush dX12_from_47 (by decide) ?_
          refine z_iload_1 dX12_from_50 ?_
          refine z_imul dX12_from_51 (by omega) ?_
          refine z_iload_2 dX12_from_52 ?_
          refine z_iadd dX12_from_53 (by omega) ?_
          refine z_iald zl_395 (by omega) (by omega) dX12_from_54 ?_
          refine z_iast zl_394 (by omega) (by omega) dX12_from_55 ?_
          refine z_iinc_2 rfl dX12_from_56 (by omega) ?_
          refine z_goto (tgt := 31) dX12_from_59 (by decide) ?_
          exact ih (zup ξ 394 c (ξ 395 (172 * i + c))) (c + 1) (by omega) (by omega) (by rw [zup_fu]; have := zTx_s (v := ξ 395 (172 * i + c)) (by omega) htx (by rw [hfr 395 (by decide)]); rwa [Int.zero_add] at this) (fun a ha => by rw [zup_row ha]; exact hfr a ha) (by omega)
    exact L3 200 μ 0 (by omega) (by omega) zTx_0 (fun _ _ => rfl) (by omega)
  refine z_iload_1 dX12_from_0 ?_
  refine z_i2l dX12_from_1 ?_
  refine z_lconst0 dX12_from_2 ?_
  refine z_lconst1 dX12_from_3 ?_
  refine z_callS3 (k_X12_in) m_X12_in l_X12_106 (Nat.le_of_ble_eq_true rfl) ⟨Nat.le_of_ble_eq_true rfl, Nat.le_of_ble_eq_true rfl⟩ ⟨rfl, rfl⟩ dX12_from_4 (fun r μ1 hp => ?_)
  obtain ⟨rfl, hv⟩ := hp
  replace hv := hv.symm
  subst hv
  refine z_ifne (tgt := 15) dX12_from_7 (by decide) (fun h_7 => ?_) (fun h_7 => ?_)
  · replace h_7 := zb_n.mp h_7
    refine z_aload_0 dX12_from_15 ?_
    refine z_getF 396 3 rfl f_X12_16 zl_393 rfl rfl dX12_from_16 ?_
    refine z_iload_1 dX12_from_19 ?_
    refine z_zald zl_396 (by omega) (by omega) dX12_from_20 ?_
    have k01 := hc0.2.2.2.2 396 2 i zl_396
    refine z_ifne (tgt := 29) dX12_from_21 (by decide) (fun h_21 => ?_) (fun h_21 => ?_)
    · refine z_iconst dX12_from_29 (by decide) ?_
      refine z_istore_2 rfl dX12_from_30 ?_
      exact L4 h_7 (by omega)
    · refine z_aload_0 dX12_from_24 ?_
      refine z_callV0 (k_X12_no hm) m_X12_no zl_393 l_X12_124 (Nat.le_of_ble_eq_true rfl) ⟨Nat.le_of_ble_eq_true rfl, Nat.le_of_ble_eq_true rfl⟩ ⟨rfl, rfl⟩ dX12_from_25 (fun r μ1 hp => ?_)
      obtain ⟨rfl, hv⟩ := hp
      replace hv := hv.symm
      subst hv
      exact z_iret dX12_from_28 (by first | exact Or.inl ⟨h_7, rfl, rfl⟩ | exact Or.inr (Or.inl ⟨h_7, by omega, rfl, rfl⟩))
  · replace h_7 := zb_0.mp h_7
    refine z_aload_0 dX12_from_10 ?_
    refine z_callV0 (k_X12_bad hm) m_X12_bad zl_393 l_X12_117 (Nat.le_of_ble_eq_true rfl) ⟨Nat.le_of_ble_eq_true rfl, Nat.le_of_ble_eq_true rfl⟩ ⟨rfl, rfl⟩ dX12_from_11 (fun r μ1 hp => ?_)
    obtain ⟨rfl, hv⟩ := hp
    replace hv := hv.symm
    subst hv
    exact z_iret dX12_from_14 (by first | exact Or.inl ⟨h_7, rfl, rfl⟩ | exact Or.inr (Or.inl ⟨h_7, by omega, rfl, rfl⟩))
def zDg0 (V : zM) (tl : Int) : Int := zfold (fun a i => zH a (zHm V tl i)) 6 587
/-- what stands in a room, in one number -/
def zDg (V : zM) (tl up lo : Int) : Int := zH (zH (zDgR V (zDgS V (zDgP V (zDgF V (zDg0 V tl))))) up) lo
theorem zfold_6 {g : Int → Int → Int} {h : Int} : ∀ {n : Nat}, zfold g (6 * n) h = zfold (fun a i => g (g (g (g (g (g a (6 * i)) (6 * i + 1)) (6 * i + 2)) (6 * i + 3)) (6 * i + 4)) (6 * i + 5)) n h
  | 0 => rfl
  | n + 1 => by
    rw [show 6 * (n + 1) = 6 * n + 1 + 1 + 1 + 1 + 1 + 1 by omega]
    simp only [zfold_s]
    rw [zfold_6 (n := n)]
    simp only [Int.natCast_add, Int.natCast_mul, Int.cast_ofNat_Int, Int.natCast_one, Int.add_assoc, Int.reduceAdd]
theorem zfold_5 {g : Int → Int → Int} {h : Int} : ∀ {n : Nat}, zfold g (5 * n) h = zfold (fun a i => g (g (g (g (g a (5 * i)) (5 * i + 1)) (5 * i + 2)) (5 * i + 3)) (5 * i + 4)) n h
  | 0 => rfl
  | n + 1 => by
    rw [show 5 * (n + 1) = 5 * n + 1 + 1 + 1 + 1 + 1 by omega]
    simp only [zfold_s]
    rw [zfold_5 (n := n)]
    simp only [Int.natCast_add, Int.natCast_mul, Int.cast_ofNat_Int, Int.natCast_one, Int.add_assoc, Int.reduceAdd]
theorem zfold_3 {g : Int → Int → Int} {h : Int} : ∀ {n : Nat}, zfold g (3 * n) h = zfold (fun a i => g (g (g a (3 * i)) (3 * i + 1)) (3 * i + 2)) n h
  | 0 => rfl
  | n + 1 => by
    rw [show 3 * (n + 1) = 3 * n + 1 + 1 + 1 by omega]
    simp only [zfold_s]
    rw [zfold_3 (n := n)]
    simp only [Int.natCast_add, Int.natCast_mul, Int.cast_ofNat_Int, Int.natCast_one, Int.add_assoc, Int.reduceAdd]
set_option maxRecDepth 100000 in
set_option maxHeartbeats 4000000 in
theorem k_X11_digest {l : Launch} {E : zE} {μ : zM} (hm : zXpre μ) : Ct l E yX11_digest cX11_digest 4 (some .long) ({ frames := 2, cells := 0, slots := 0, locals := 46 }) [zR 0] μ (fun r ν => r = some (zL (zDg (zHV μ 1) (μ 47 0) (μ 0 11) (μ 0 12))) ∧ ν = μ) := by
  refine Ct.of RX11 [zR 0, zU, zU, zU] (by decide +kernel) rfl ⟨rfl, rfl⟩ rfl (Nat.le_of_ble_eq_true rfl) (fun X hX hc0 ha0 => ?_)
  subst hX
  have L2 : ∀ (k : Nat) (i : Nat), (i : Int) ≤ 6 → 6 - (i : Int) < k → MW X E cX11_digest RX11 ({ frames := 2, cells := 0, slots := 0, locals := 46 }) (some .long) (fun r ν => r = some (zL (zDg (zHV μ 1) (μ 47 0) (μ 0 11) (μ 0 12))) ∧ ν = μ) 6 [zR 0, zL (zfold (fun a i => zH a (zHm (zHV μ 1) (μ 47 0) i)) i 587), zU, zI (i : Int)] [] μ := by
    intro k
    induction k with
    | zero => intro i h2 h3; omega
    | succ k ih =>
      intro i h2 h3
      refine z_iload_3 dX11_digest_6 ?_
      refine z_iconst dX11_digest_7 (by decide) ?_
      refine z_icmpgt (tgt := 30) dX11_digest_8 (by decide) (fun h_8 => ?_) (fun h_8 => ?_)
      · refine z_aload_0 dX11_digest_30 ?_
        refine z_getF 1 1 rfl f_X11_10 zl_0 rfl rfl dX11_digest_31 ?_
        refine z_getF 2 1 rfl f_X11_76 zl_1 rfl rfl dX11_digest_34 ?_
        refine z_lload_1 dX11_digest_37 ?_
        refine z_callV1 (k_X1_digestOn (h := 1) zq2_1 hm.1) m_X1_digestOn zl_2 l_X11_302 (Nat.le_of_ble_eq_true rfl) ⟨Nat.le_of_ble_eq_true rfl, Nat.le_of_ble_eq_true rfl⟩ ⟨rfl, rfl⟩ dX11_digest_38 (fun r μ1 hp => ?_)
        obtain ⟨rfl, hv⟩ := hp
        replace hv := hv.symm
        subst hv
        refine z_lstore_1 rfl dX11_digest_41 ?_
        refine z_aload_0 dX11_digest_42 ?_
        refine z_getF 1 1 rfl f_X11_10 zl_0 rfl rfl dX11_digest_43 ?_
        refine z_getF 6 5 rfl f_X11_103 zl_1 rfl rfl dX11_digest_46 ?_
        refine z_lload_1 dX11_digest_49 ?_
        refine z_callV1 (k_X5_digestOn (h := 1) zq2_1 hm.1) m_X5_digestOn zl_6 l_X11_306 (Nat.le_of_ble_eq_true rfl) ⟨Nat.le_of_ble_eq_true rfl, Nat.le_of_ble_eq_true rfl⟩ ⟨rfl, rfl⟩ dX11_digest_50 (fun r μ1 hp => ?_)
        obtain ⟨rfl, hv⟩ := hp
        replace hv := hv.symm
        subst hv
        refine z_lstore_1 rfl dX11_digest_53 ?_
        refine z_aload_0 dX11_digest_54 ?_
        refine z_getF 1 1 rfl f_X11_10 zl_0 rfl rfl dX11_digest_55 ?_
        refine z_getF 13 12 rfl f_X11_122 zl_1 rfl rfl dX11_digest_58 ?_
        refine z_lload_1 dX11_digest_61 ?_
        refine z_callV1 (k_X9_digestOn (h := 1) zq2_1 hm.1) m_X9_digestOn zl_13 l_X11_307 (Nat.le_of_ble_eq_true rfl) ⟨Nat.le_of_ble_eq_true rfl, Nat.le_of_ble_eq_true rfl⟩ ⟨rfl, rfl⟩ dX11_digest_62 (fun r μ1 hp => ?_)
        obtain ⟨rfl, hv⟩ := hp
        replace hv := hv.symm
        subst hv
        refine z_lstore_1 rfl dX11_digest_65 ?_
        refine z_aload_0 dX11_digest_66 ?_
        refine z_getF 1 1 rfl f_X11_10 zl_0 rfl rfl dX11_digest_67 ?_
        refine z_getF 19 18 rfl f_X11_240 zl_1 rfl rfl dX11_digest_70 ?_
        refine z_lload_1 dX11_digest_73 ?_
        refine z_callV1 (k_X7_digestOn (h := 1) zq2_1 hm.1) m_X7_digestOn zl_19 l_X11_308 (Nat.le_of_ble_eq_true rfl) ⟨Nat.le_of_ble_eq_true rfl, Nat.le_of_ble_eq_true rfl⟩ ⟨rfl, rfl⟩ dX11_digest_74 (fun r μ1 hp => ?_)
        obtain ⟨rfl, hv⟩ := hp
        replace hv := hv.symm
        subst hv
        refine z_lstore_1 rfl dX11_digest_77 ?_
        refine z_ldc2 (n := 31) k_X11_300 dX11_digest_78 (by decide +kernel) ?_
        refine z_ldc2 (n := 31) k_X11_300 dX11_digest_81 (by decide +kernel) ?_
        refine z_lload_1 dX11_digest_84 ?_
        refine z_lmul dX11_digest_85 ?_
        refine z_aload_0 dX11_digest_86 ?_
        refine z_getI 11 rfl f_X11_69 zl_0 rfl dX11_digest_87 ?_
        refine z_i2l dX11_digest_90 ?_
        refine z_ladd dX11_digest_91 ?_
        refine z_lmul dX11_digest_92 ?_
        refine z_aload_0 dX11_digest_93 ?_
        refine z_getI 12 rfl f_X11_73 zl_0 rfl dX11_digest_94 ?_
        refine z_i2l dX11_digest_97 ?_
        refine z_ladd dX11_digest_98 ?_
        exact z_lret dX11_digest_99 (by obtain rfl : i = 6 := (by omega); exact ⟨rfl, rfl⟩)
      · refine z_ldc2 (n := 31) k_X11_300 dX11_digest_11 (by decide +kernel) ?_
        refine z_lload_1 dX11_digest_14 ?_
        refine z_lmul dX11_digest_15 ?_
        refine z_aload_0 dX11_digest_16 ?_
        refine z_iload_3 dX11_digest_17 ?_
        refine z_callV1 (k_X11_howMany hm) m_X11_howMany zl_0 l_X11_295 (Nat.le_of_ble_eq_true rfl) ⟨Nat.le_of_ble_eq_true rfl, Nat.le_of_ble_eq_true rfl⟩ ⟨rfl, rfl⟩ dX11_digest_18 (fun r μ1 hp => ?_)
        obtain ⟨rfl, hv⟩ := hp
        replace hv := hv.symm
        subst hv
        refine z_i2l dX11_digest_21 ?_
        refine z_ladd dX11_digest_22 ?_
        refine z_lstore_1 rfl dX11_digest_23 ?_
        refine z_iinc_3 rfl dX11_digest_24 (by omega) ?_
        refine z_goto (tgt := 6) dX11_digest_27 (by decide) ?_
        refine z_eqs (ih (i + 1) (by omega) (by omega)) rfl ?_ rfl rfl
        rw [zfold_s (n := i)]
        simp only [zH, Int.natCast_add, Int.cast_ofNat_Int]
  refine z_ldc2 (n := 587) k_X11_298 dX11_digest_0 (by decide +kernel) ?_
  refine z_lstore_1 rfl dX11_digest_3 ?_
  refine z_iconst dX11_digest_4 (by decide) ?_
  refine z_istore_3 rfl dX11_digest_5 ?_
  exact L2 7 0 (by omega) (by omega)
set_option maxRecDepth 100000 in
set_option maxHeartbeats 4000000 in
theorem k_X12_mixed {l : Launch} {E : zE} {μ : zM} {b c n : Int} (h0 : 0 ≤ c) (h1 : 0 ≤ n) (h2 : c + n ≤ 172) : Ct l E yX12_mixed cX12_mixed 8 (some .long) ({ frames := 0, cells := 0, slots := 0, locals := 0 }) [zR 393, zL b, zI c, zI n] μ (fun r ν => r = some (zL (zfold (fun a j => zH a (μ 394 (c + j))) n.toNat b)) ∧ ν = μ) := by
  refine Ct.of RX12 [zR 393, zL b, zU, zI c, zI n, zU, zU, zU] (by decide +kernel) rfl ⟨rfl, rfl⟩ rfl (Nat.le_of_ble_eq_true rfl) (fun X hX hc0 ha0 => ?_)
  subst hX
  have L2 : ∀ (k : Nat) (i : Nat), (i : Int) ≤ n → n - (i : Int) < k → MW X E cX12_mixed RX12 ({ frames := 0, cells := 0, slots := 0, locals := 0 }) (some .long) (fun r ν => r = some (zL (zfold (fun a j => zH a (μ 394 (c + j))) n.toNat b)) ∧ ν = μ) 6 [zR 393, zL b, zU, zI c, zI n, zL (zfold (fun a j => zH a (μ 394 (c + j))) i b), zU, zI (i : Int)] [] μ := by
    intro k
    induction k with
    | zero => intro i h2 h3; omega
    | succ k ih =>
      intro i h2 h3
      refine z_iload_7 dX12_mixed_6 ?_
      refine z_iload_4 dX12_mixed_8 ?_
      refine z_icmpge (tgt := 38) dX12_mixed_10 (by decide) (fun h_10 => ?_) (fun h_10 => ?_)
      · refine z_lload_5 dX12_mixed_38 ?_
        exact z_lret dX12_mixed_40 (by rw [show n.toNat = i by omega]; exact ⟨rfl, rfl⟩)
      · refine z_ldc2 (n := 31) k_X12_361 dX12_mixed_13 (by decide +kernel) ?_
        refine z_lload_5 dX12_mixed_16 ?_
        refine z_lmul dX12_mixed_18 ?_
        refine z_aload_0 dX12_mixed_19 ?_
        refine z_getF 394 1 rfl f_X12_7 zl_393 rfl rfl dX12_mixed_20 ?_
        refine z_iload_3 dX12_mixed_23 ?_
        refine z_iload_7 dX12_mixed_24 ?_
        refine z_iadd dX12_mixed_26 (by omega) ?_
        refine z_iald zl_394 (by omega) (by omega) dX12_mixed_27 ?_
        refine z_i2l dX12_mixed_28 ?_
        refine z_ladd dX12_mixed_29 ?_
        refine z_lstore_5 rfl dX12_mixed_30 ?_
        refine z_iinc_7 rfl dX12_mixed_32 (by omega) ?_
        refine z_goto (tgt := 6) dX12_mixed_35 (by decide) ?_
        refine z_eqs (ih (i + 1) (by omega) (by omega)) rfl ?_ rfl rfl
        rw [zfold_s (n := i)]
        simp only [zH, Int.natCast_add, Int.cast_ofNat_Int]
  refine z_lload_1 dX12_mixed_0 ?_
  refine z_lstore_5 rfl dX12_mixed_1 ?_
  refine z_iconst dX12_mixed_3 (by decide) ?_
  refine z_istore_7 rfl dX12_mixed_4 ?_
  exact L2 200 0 (by omega) (by omega)
theorem zf2 {g : Int → Int → Int} {h : Int} : zfold g (2 : Int).toNat h = g (g h 0) 1 := rfl
theorem zf5 {g : Int → Int → Int} {h : Int} : zfold g (5 : Int).toNat h = zfold g 5 h := rfl
theorem zDgF_b {b : Int → Int} (ok : zOK (zBV b)) {h : Int} : zDgF (zBV b) h = zfold (fun a j => zH a (b (82 + j))) (b 1).toNat (zfold (fun a j => zH a (b (5 + j))) (2 : Int).toNat (zfold (fun a c => zH (zH a (b (10 + c))) (b (46 + c))) 36 h)) := by
  have nb := ok.1.2.1
  rw [zBV_bc] at nb
  unfold zDgF
  rw [zBV_bc, zBV_fade, zBV_door]
  rw [zfold_c (g := zDc (zBV b)) (g2 := fun a c => zH (zH a (b (10 + c))) (b (46 + c))) (n := 36) (fun a i i0 i1 => by unfold zDc; rw [zBV_0 i0 (by omega), zBV_1 i0 (by omega)])]
  rw [zf2]
  simp only [Int.add_zero, Int.reduceAdd]
  exact zfold_c (fun a i i0 i1 => congrArg (zH a) (zBV_2 i0 (by omega)))
theorem zDgP_b {b : Int → Int} (ok : zOK (zBV b)) {h : Int} : zDgP (zBV b) h = zfold (fun a j => zH a (b (90 + j))) (6 * b 2).toNat h := by
  have nb := ok.2.1.1
  rw [zBV_pc] at nb
  unfold zDgP
  rw [show (6 * b 2).toNat = 6 * (b 2).toNat by omega, zfold_6, zBV_pc]
  exact zfold_c (fun a i i0 i1 => by unfold zDp6; rw [zBV_4 i0 (by omega), zBV_5 i0 (by omega), zBV_6 i0 (by omega), zBV_7 i0 (by omega), zBV_8 i0 (by omega), zBV_9 i0 (by omega)]; simp only [Int.add_assoc])
theorem zDgS_b {b : Int → Int} (ok : zOK (zBV b)) {h : Int} : zDgS (zBV b) h = zfold (fun a j => zH a (b (120 + j))) (5 * b 3).toNat h := by
  have nb := ok.2.2.1.1
  rw [zBV_sc] at nb
  unfold zDgS
  rw [show (5 * b 3).toNat = 5 * (b 3).toNat by omega, zfold_5, zBV_sc]
  exact zfold_c (fun a i i0 i1 => by unfold zDs5; rw [zBV_10 i0 (by omega), zBV_11 i0 (by omega), zBV_12 i0 (by omega), zBV_13 i0 (by omega), zBV_14 i0 (by omega)]; simp only [Int.add_assoc])
theorem zDgR_b {b : Int → Int} (ok : zOK (zBV b)) {h : Int} : zDgR (zBV b) h = zfold (fun a j => zH a (b (160 + j))) (3 * b 4).toNat h := by
  have nb := ok.2.2.2.1
  rw [zBV_rc] at nb
  unfold zDgR
  rw [show (3 * b 4).toNat = 3 * (b 4).toNat by omega, zfold_3, zBV_rc]
  exact zfold_c (fun a i i0 i1 => by unfold zDr3; rw [zBV_15 i0 (by omega), zBV_16 i0 (by omega), zBV_17 i0 (by omega)]; simp only [Int.add_assoc])
theorem zDg0_b {b : Int → Int} {t : Int} (hs : b 0 = zsum (zBV b 0) 36) : zDg0 (zBV b) t = zH (zfold (fun a j => zH a (b (0 + j))) (5 : Int).toNat 587) t := by
  unfold zDg0
  rw [zf5, zfold_s (n := 5)]
  simp only [Int.cast_ofNat_Int]
  rw [show zHm (zBV b) t 5 = t by unfold zHm; rw [if_neg (by decide), if_neg (by decide), if_neg (by decide), if_neg (by decide), if_neg (by decide)]]
  rw [zfold_c (g2 := fun a j => zH a (b (0 + j))) (n := 5) (fun a i i0 i1 => by
    show zH a (zHm (zBV b) t i) = zH a (b (0 + i))
    rw [Int.zero_add]
    unfold zHm
    rw [← hs, zBV_bc, zBV_pc, zBV_sc, zBV_rc]
    rcases (by omega : i = 0 ∨ i = 1 ∨ i = 2 ∨ i = 3 ∨ i = 4) with e | e | e | e | e <;> subst e <;> rfl)]
set_option maxRecDepth 100000 in
set_option maxHeartbeats 4000000 in
theorem k_X12_digest {l : Launch} {E : zE} {μ : zM} (hm : zMpre μ) : Ct l E yX12_digest cX12_digest 4 (some .long) ({ frames := 1, cells := 0, slots := 0, locals := 27 }) [zR 393] μ (fun r ν => r = some (zL (zDg (zBV (μ 394)) (μ 393 9) (μ 393 5) (μ 393 6))) ∧ ν = μ) := by
  refine Ct.of RX12 [zR 393, zU, zU, zU] (by decide +kernel) rfl ⟨rfl, rfl⟩ rfl (Nat.le_of_ble_eq_true rfl) (fun X hX hc0 ha0 => ?_)
  subst hX
  obtain ⟨nb, nf, nd, np, ns, nr⟩ := zOK_b hm.1
  have L2 : ∀ (k : Nat) (i : Nat), (i : Int) ≤ 36 → 36 - (i : Int) < k → MW X E cX12_digest RX12 ({ frames := 1, cells := 0, slots := 0, locals := 27 }) (some .long) (fun r ν => r = some (zL (zDg (zBV (μ 394)) (μ 393 9) (μ 393 5) (μ 393 6))) ∧ ν = μ) 22 [zR 393, zL (zfold (fun a c => zH (zH a (μ 394 (10 + c))) (μ 394 (46 + c))) i (zH (zfold (fun a j => zH a (μ 394 (0 + j))) (5 : Int).toNat 587) (μ 393 9))), zU, zI (i : Int)] [] μ := by
    intro k
    induction k with
    | zero => intro i h2 h3; omega
    | succ k ih =>
      intro i h2 h3
      refine z_iload_3 dX12_digest_22 ?_
      refine z_bipush dX12_digest_23 (by decide) ?_
      refine z_icmpge (tgt := 66) dX12_digest_25 (by decide) (fun h_25 => ?_) (fun h_25 => ?_)
      · refine z_aload_0 dX12_digest_66 ?_
        refine z_lload_1 dX12_digest_67 ?_
        refine z_iconst dX12_digest_68 (by decide) ?_
        refine z_iconst dX12_digest_69 (by decide) ?_
        refine z_callV3 (k_X12_mixed (by omega) (by omega) (by omega)) m_X12_mixed zl_393 l_X12_365 (Nat.le_of_ble_eq_true rfl) ⟨Nat.le_of_ble_eq_true rfl, Nat.le_of_ble_eq_true rfl⟩ ⟨rfl, rfl⟩ dX12_digest_70 (fun r μ1 hp => ?_)
        obtain ⟨rfl, hv⟩ := hp
        replace hv := hv.symm
        subst hv
        refine z_lstore_1 rfl dX12_digest_73 ?_
        refine z_aload_0 dX12_digest_74 ?_
        refine z_lload_1 dX12_digest_75 ?_
        refine z_bipush dX12_digest_76 (by decide) ?_
        refine z_aload_0 dX12_digest_78 ?_
        refine z_getF 394 1 rfl f_X12_7 zl_393 rfl rfl dX12_digest_79 ?_
        refine z_iconst dX12_digest_82 (by decide) ?_
        refine z_iald zl_394 (by omega) (by omega) dX12_digest_83 ?_
        refine z_callV3 (k_X12_mixed (by omega) (by omega) (by omega)) m_X12_mixed zl_393 l_X12_365 (Nat.le_of_ble_eq_true rfl) ⟨Nat.le_of_ble_eq_true rfl, Nat.le_of_ble_eq_true rfl⟩ ⟨rfl, rfl⟩ dX12_digest_84 (fun r μ1 hp => ?_)
        obtain ⟨rfl, hv⟩ := hp
        replace hv := hv.symm
        subst hv
        refine z_lstore_1 rfl dX12_digest_87 ?_
        refine z_aload_0 dX12_digest_88 ?_
        refine z_lload_1 dX12_digest_89 ?_
        refine z_bipush dX12_digest_90 (by decide) ?_
        refine z_bipush dX12_digest_92 (by decide) ?_
        refine z_aload_0 dX12_digest_94 ?_
        refine z_getF 394 1 rfl f_X12_7 zl_393 rfl rfl dX12_digest_95 ?_
        refine z_iconst dX12_digest_98 (by decide) ?_
        refine z_iald zl_394 (by omega) (by omega) dX12_digest_99 ?_
        refine z_imul dX12_digest_100 (by omega) ?_
        refine z_callV3 (k_X12_mixed (by omega) (by omega) (by omega)) m_X12_mixed zl_393 l_X12_365 (Nat.le_of_ble_eq_true rfl) ⟨Nat.le_of_ble_eq_true rfl, Nat.le_of_ble_eq_true rfl⟩ ⟨rfl, rfl⟩ dX12_digest_101 (fun r μ1 hp => ?_)
        obtain ⟨rfl, hv⟩ := hp
        replace hv := hv.symm
        subst hv
        refine z_lstore_1 rfl dX12_digest_104 ?_
        refine z_aload_0 dX12_digest_105 ?_
        refine z_lload_1 dX12_digest_106 ?_
        refine z_bipush dX12_digest_107 (by decide) ?_
        refine z_iconst dX12_digest_109 (by decide) ?_
        refine z_aload_0 dX12_digest_110 ?_
        refine z_getF 394 1 rfl f_X12_7 zl_393 rfl rfl dX12_digest_111 ?_
        refine z_iconst dX12_digest_114 (by decide) ?_
        refine z_iald zl_394 (by omega) (by omega) dX12_digest_115 ?_
        refine z_imul dX12_digest_116 (by omega) ?_
        refine z_callV3 (k_X12_mixed (by omega) (by omega) (by omega)) m_X12_mixed zl_393 l_X12_365 (Nat.le_of_ble_eq_true rfl) ⟨Nat.le_of_ble_eq_true rfl, Nat.le_of_ble_eq_true rfl⟩ ⟨rfl, rfl⟩ dX12_digest_117 (fun r μ1 hp => ?_)
        obtain ⟨rfl, hv⟩ := hp
        replace hv := hv.symm
        subst hv
        refine z_lstore_1 rfl dX12_digest_120 ?_
        refine z_aload_0 dX12_digest_121 ?_
        refine z_lload_1 dX12_digest_122 ?_
        refine z_sipush dX12_digest_123 (by decide) ?_
        refine z_iconst dX12_digest_126 (by decide) ?_
        refine z_aload_0 dX12_digest_127 ?_
        refine z_getF 394 1 rfl f_X12_7 zl_393 rfl rfl dX12_digest_128 ?_
        refine z_iconst dX12_digest_131 (by decide) ?_
        refine z_iald zl_394 (by omega) (by omega) dX12_digest_132 ?_
        refine z_imul dX12_digest_133 (by omega) ?_
        refine z_callV3 (k_X12_mixed (by omega) (by omega) (by omega)) m_X12_mixed zl_393 l_X12_365 (Nat.le_of_ble_eq_true rfl) ⟨Nat.le_of_ble_eq_true rfl, Nat.le_of_ble_eq_true rfl⟩ ⟨rfl, rfl⟩ dX12_digest_134 (fun r μ1 hp => ?_)
        obtain ⟨rfl, hv⟩ := hp
        replace hv := hv.symm
        subst hv
        refine z_lstore_1 rfl dX12_digest_137 ?_
        refine z_ldc2 (n := 31) k_X12_361 dX12_digest_138 (by decide +kernel) ?_
        refine z_ldc2 (n := 31) k_X12_361 dX12_digest_141 (by decide +kernel) ?_
        refine z_lload_1 dX12_digest_144 ?_
        refine z_lmul dX12_digest_145 ?_
        refine z_aload_0 dX12_digest_146 ?_
        refine z_getI 5 rfl f_X12_355 zl_393 rfl dX12_digest_147 ?_
        refine z_i2l dX12_digest_150 ?_
        refine z_ladd dX12_digest_151 ?_
        refine z_lmul dX12_digest_152 ?_
        refine z_aload_0 dX12_digest_153 ?_
        refine z_getI 6 rfl f_X12_92 zl_393 rfl dX12_digest_154 ?_
        refine z_i2l dX12_digest_157 ?_
        refine z_ladd dX12_digest_158 ?_
        exact z_lret dX12_digest_159 (by obtain rfl : i = 36 := (by omega); refine ⟨?_, rfl⟩; unfold zDg; rw [zDgR_b hm.1, zDgS_b hm.1, zDgP_b hm.1, zDgF_b hm.1, zDg0_b hm.2.1]; simp only [zH])
      · refine z_ldc2 (n := 31) k_X12_361 dX12_digest_28 (by decide +kernel) ?_
        refine z_ldc2 (n := 31) k_X12_361 dX12_digest_31 (by decide +kernel) ?_
        refine z_lload_1 dX12_digest_34 ?_
        refine z_lmul dX12_digest_35 ?_
        refine z_aload_0 dX12_digest_36 ?_
        refine z_getF 394 1 rfl f_X12_7 zl_393 rfl rfl dX12_digest_37 ?_
        refine z_bipush dX12_digest_40 (by decide) ?_
        refine z_iload_3 dX12_digest_42 ?_
        refine z_iadd dX12_digest_43 (by omega) ?_
        refine z_iald zl_394 (by omega) (by omega) dX12_digest_44 ?_
        refine z_i2l dX12_digest_45 ?_
        refine z_ladd dX12_digest_46 ?_
        refine z_lmul dX12_digest_47 ?_
        refine z_aload_0 dX12_digest_48 ?_
        refine z_getF 394 1 rfl f_X12_7 zl_393 rfl rfl dX12_digest_49 ?_
        refine z_bipush dX12_digest_52 (by decide) ?_
        refine z_iload_3 dX12_digest_54 ?_
        refine z_iadd dX12_digest_55 (by omega) ?_
        refine z_iald zl_394 (by omega) (by omega) dX12_digest_56 ?_
        refine z_i2l dX12_digest_57 ?_
        refine z_ladd dX12_digest_58 ?_
        refine z_lstore_1 rfl dX12_digest_59 ?_
        refine z_iinc_3 rfl dX12_digest_60 (by omega) ?_
        refine z_goto (tgt := 22) dX12_digest_63 (by decide) ?_
        refine z_eqs (ih (i + 1) (by omega) (by omega)) rfl ?_ rfl rfl
        rw [zfold_s (n := i)]
        simp only [zH, Int.natCast_add, Int.cast_ofNat_Int]
  refine z_ldc2 (n := 31) k_X12_361 dX12_digest_0 (by decide +kernel) ?_
  refine z_aload_0 dX12_digest_3 ?_
  refine z_ldc2 (n := 587) k_X12_363 dX12_digest_4 (by decide +kernel) ?_
  refine z_iconst dX12_digest_7 (by decide) ?_
  refine z_iconst dX12_digest_8 (by decide) ?_
  refine z_callV3 (k_X12_mixed (by omega) (by omega) (by omega)) m_X12_mixed zl_393 l_X12_365 (Nat.le_of_ble_eq_true rfl) ⟨Nat.le_of_ble_eq_true rfl, Nat.le_of_ble_eq_true rfl⟩ ⟨rfl, rfl⟩ dX12_digest_9 (fun r μ1 hp => ?_)
  obtain ⟨rfl, hv⟩ := hp
  replace hv := hv.symm
  subst hv
  refine z_lmul dX12_digest_12 ?_
  refine z_aload_0 dX12_digest_13 ?_
  refine z_getI 9 rfl f_X12_154 zl_393 rfl dX12_digest_14 ?_
  refine z_i2l dX12_digest_17 ?_
  refine z_ladd dX12_digest_18 ?_
  refine z_lstore_1 rfl dX12_digest_19 ?_
  refine z_iconst dX12_digest_20 (by decide) ?_
  refine z_istore_3 rfl dX12_digest_21 ?_
  refine z_eqs (L2 37 0 (by omega) (by omega)) rfl ?_ rfl rfl
  simp only [zfold, zH, Int.cast_ofNat_Int, Int.natCast_zero]
