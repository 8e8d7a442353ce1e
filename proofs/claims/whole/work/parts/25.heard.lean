/-! DISTANCE AND HEARD, on both sides -/
/-- the least steps from a to b; -1: none -/
noncomputable def zWk (V : zM) (a b : Int) : Int := zDs (zOp V) a b
theorem zSp {μ ν : zM} {h f : Nat} {s : Int} (hh : zAt zp2 h) (hc : zC μ) (s0 : 0 ≤ s) (s1 : s < 36) (d : zDM (fun c => μ (h + 2) c = 0) s (ν f)) : zDM (zOp (zHV μ h)) s (ν f) :=
  zDM_cg d (fun c a b => by
    have := hc.2.2.2.2 (h + 2) 36 c (hh.at 2 rfl)
    unfold zOp
    rw [zHV_0 a b]
    omega) s0 s1 (fun _ _ _ => rfl)
theorem zWk_of {V : zM} {s : Int} {F : Int → Int} (d : zDM (zOp V) s F) : zDM (zOp V) s (zWk V s) := zDs_of d
theorem zWk_eq {V : zM} {s c : Int} {F : Int → Int} (d : zDM (zOp V) s F) (h0 : 0 ≤ c) (h1 : c < 36) : F c = zWk V s c := zDs_eq d h0 h1
theorem zDM_b {op : Int → Prop} {s c : Int} {F : Int → Int} (d : zDM op s F) (h0 : 0 ≤ c) (h1 : c < 36) : -1 ≤ F c ∧ F c ≤ 40 := by
  have := d.1 c h0 h1
  omega
/-- the reference's table of steps stands -/
def zFar (V : zM) (f : Int → Int) : Prop := zRws (zOp V) 36 f
theorem zFar_d {V : zM} {f : Int → Int} (h : zFar V f) {a : Int} (a0 : 0 ≤ a) (a1 : a < 36) : zDM (zOp V) a (zWk V a) := zWk_of (h a a0 a1 a1).1
theorem zFar_s {V : zM} {f : Int → Int} (h : zFar V f) {a b : Int} (a0 : 0 ≤ a) (a1 : a < 36) (b0 : 0 ≤ b) (b1 : b < 36) : zWk V a b = zWk V b a := zDM_sym (f := zWk V) (fun x x0 x1 => zFar_d h x0 x1) a0 a1 b0 b1
theorem zFar_e {V : zM} {f : Int → Int} (h : zFar V f) {a b : Int} (a0 : 0 ≤ a) (a1 : a < 36) (b0 : 0 ≤ b) (b1 : b < 36) : (f (36 * a + b) = 1000 ∧ zWk V a b = -1) ∨ (f (36 * a + b) = zWk V a b ∧ 0 ≤ zWk V a b ∧ zWk V a b ≤ 40) := by
  have e := zWk_eq (h a a0 a1 a1).1 b0 b1
  have q := (h a a0 a1 a1).2 b b0 b1
  unfold zFA at e
  dsimp only at e q
  split at e
  · exact Or.inl ⟨by assumption, e.symm⟩
  · exact Or.inr ⟨e, by omega, by omega⟩
theorem zmul_c {f d : Int} (hf : 0 ≤ f ∧ f ≤ 9) (hd : 0 ≤ d ∧ d ≤ 1000) : 0 ≤ f * d ∧ f * d ≤ 9000 := by
  have h1 := Int.mul_nonneg hf.1 hd.1
  have h2 : f * d ≤ 9 * 1000 := Int.mul_le_mul hf.2 hd.2 hd.1 (by decide)
  omega
/-- what is left of v after so many steps under so much cover -/
def zHr (v d f c : Int) : Int := max 0 (zFd v d f - c)
theorem zHr_no {v f c : Int} (hc : 0 ≤ c) : zHr v (-1) f c = 0 := by
  unfold zHr zFd
  rw [if_pos rfl]
  omega
theorem zHr_is {v d f c : Int} (hd : 0 ≤ d) (hc : 0 ≤ c) : zHr v d f c = max 0 (v - f * d - c) := by
  unfold zHr zFd
  rw [if_neg (by omega)]
  omega
set_option maxRecDepth 100000 in
set_option maxHeartbeats 4000000 in
theorem k_X11_distance {l : Launch} {E : zE} {μ : zM} (hm : zXpre μ) {a b : Int} : Ct l E yX11_distance cX11_distance 3 (some .int) ({ frames := 3, cells := 0, slots := 0, locals := 66 }) [zR 0, zI a, zI b] μ (fun r ν => (¬ ((0 ≤ a ∧ a < 36) ∧ 0 ≤ b ∧ b < 36) ∧ r = some (zI (-2)) ∧ ν = zCt μ (-2)) ∨ (((0 ≤ a ∧ a < 36) ∧ 0 ≤ b ∧ b < 36) ∧ r = some (zI (zWk (zHV μ 1) a b)) ∧ ∀ x, x ≠ 347 → x ≠ 346 → ν x = μ x)) := by
  refine Ct.of RX11 [zR 0, zI a, zI b] (by decide +kernel) rfl ⟨rfl, rfl⟩ rfl (Nat.le_of_ble_eq_true rfl) (fun X hX hc0 ha0 => ?_)
  subst hX
  refine z_iload_1 dX11_distance_0 ?_
  refine z_callS1 (k_X11_isCell) m_X11_isCell l_X11_163 (Nat.le_of_ble_eq_true rfl) ⟨Nat.le_of_ble_eq_true rfl, Nat.le_of_ble_eq_true rfl⟩ ⟨rfl, rfl⟩ dX11_distance_1 (fun r μ1 hp => ?_)
  obtain ⟨rfl, hv⟩ := hp
  replace hv := hv.symm
  subst hv
  refine z_ifeq (tgt := 14) dX11_distance_4 (by decide) (fun h_4 => ?_) (fun h_4 => ?_)
  · replace h_4 := zb_0.mp h_4
    refine z_aload_0 dX11_distance_14 ?_
    refine z_bipush dX11_distance_15 (by decide) ?_
    refine z_callV1 (k_X11_counted hm.2) m_X11_counted zl_0 l_X11_86 (Nat.le_of_ble_eq_true rfl) ⟨Nat.le_of_ble_eq_true rfl, Nat.le_of_ble_eq_true rfl⟩ ⟨rfl, rfl⟩ dX11_distance_17 (fun r μ1 hp => ?_)
    obtain ⟨rfl, hv⟩ := hp
    replace hv := hv.symm
    subst hv
    exact z_iret dX11_distance_20 (by first | exact Or.inl ⟨fun q => by first | exact h_4 q.1 | exact h_11 q.2, rfl, rfl⟩ | exact Or.inr ⟨⟨h_4, h_11⟩, congrArg (fun z => (some (zI z) : Option zAV)) (zWk_eq d1 h_11.1 h_11.2), fr⟩)
  · replace h_4 := zb_n.mp h_4
    refine z_iload_2 dX11_distance_7 ?_
    refine z_callS1 (k_X11_isCell) m_X11_isCell l_X11_163 (Nat.le_of_ble_eq_true rfl) ⟨Nat.le_of_ble_eq_true rfl, Nat.le_of_ble_eq_true rfl⟩ ⟨rfl, rfl⟩ dX11_distance_8 (fun r μ1 hp => ?_)
    obtain ⟨rfl, hv⟩ := hp
    replace hv := hv.symm
    subst hv
    refine z_ifne (tgt := 21) dX11_distance_11 (by decide) (fun h_11 => ?_) (fun h_11 => ?_)
    · replace h_11 := zb_n.mp h_11
      refine z_aload_0 dX11_distance_21 ?_
      refine z_getF 345 345 rfl f_X11_58 zl_0 rfl rfl dX11_distance_22 ?_
      refine z_aload_0 dX11_distance_25 ?_
      refine z_getF 1 1 rfl f_X11_10 zl_0 rfl rfl dX11_distance_26 ?_
      refine z_getF 2 1 rfl f_X11_76 zl_1 rfl rfl dX11_distance_29 ?_
      refine z_getF 3 1 rfl f_X11_167 zl_2 rfl rfl dX11_distance_32 ?_
      refine z_iload_1 dX11_distance_35 ?_
      refine z_aload_0 dX11_distance_36 ?_
      refine z_getF 347 347 rfl f_X11_62 zl_0 rfl rfl dX11_distance_37 ?_
      refine z_callV3 (k_X6_spread zq6_345 zl_3 zl_347 (by decide) h_4) m_X6_spread zl_345 l_X11_170 (Nat.le_of_ble_eq_true rfl) ⟨Nat.le_of_ble_eq_true rfl, Nat.le_of_ble_eq_true rfl⟩ ⟨rfl, rfl⟩ dX11_distance_40 (fun r μ1 hp => ?_)
      obtain ⟨rfl, dd, fr⟩ := hp
      have d1 := zSp zq2_1 hc0 h_4.1 h_4.2 dd
      refine z_aload_0 dX11_distance_43 ?_
      refine z_getF 347 347 rfl f_X11_62 zl_0 rfl rfl dX11_distance_44 ?_
      refine z_iload_2 dX11_distance_47 ?_
      refine z_iald zl_347 (by omega) (by omega) dX11_distance_48 ?_
      exact z_iret dX11_distance_49 (by first | exact Or.inl ⟨fun q => by first | exact h_4 q.1 | exact h_11 q.2, rfl, rfl⟩ | exact Or.inr ⟨⟨h_4, h_11⟩, congrArg (fun z => (some (zI z) : Option zAV)) (zWk_eq d1 h_11.1 h_11.2), fr⟩)
    · replace h_11 := zb_0.mp h_11
      refine z_aload_0 dX11_distance_14 ?_
      refine z_bipush dX11_distance_15 (by decide) ?_
      refine z_callV1 (k_X11_counted hm.2) m_X11_counted zl_0 l_X11_86 (Nat.le_of_ble_eq_true rfl) ⟨Nat.le_of_ble_eq_true rfl, Nat.le_of_ble_eq_true rfl⟩ ⟨rfl, rfl⟩ dX11_distance_17 (fun r μ1 hp => ?_)
      obtain ⟨rfl, hv⟩ := hp
      replace hv := hv.symm
      subst hv
      exact z_iret dX11_distance_20 (by first | exact Or.inl ⟨fun q => by first | exact h_4 q.1 | exact h_11 q.2, rfl, rfl⟩ | exact Or.inr ⟨⟨h_4, h_11⟩, congrArg (fun z => (some (zI z) : Option zAV)) (zWk_eq d1 h_11.1 h_11.2), fr⟩)
theorem zFd_b {v d f : Int} (hd : -1 ≤ d) (hf : 0 ≤ f ∧ f ≤ 9) (hv : 0 ≤ v) : 0 ≤ zFd v d f ∧ zFd v d f ≤ v := by
  unfold zFd
  split
  · omega
  · have := Int.mul_nonneg hf.1 (show 0 ≤ d by omega)
    omega
set_option maxRecDepth 100000 in
set_option maxHeartbeats 4000000 in
theorem k_X12_distance {l : Launch} {E : zE} {μ : zM} (hm : zMpre μ) {a b : Int} : Ct l E yX12_distance cX12_distance 3 (some .int) ({ frames := 3, cells := 0, slots := 0, locals := 75 }) [zR 393, zI a, zI b] μ (fun r ν => (¬ ((0 ≤ a ∧ a < 36) ∧ 0 ≤ b ∧ b < 36) ∧ r = some (zI (-2)) ∧ ν = zup μ 398 0 (μ 398 0 + zq1 μ)) ∨ (((0 ≤ a ∧ a < 36) ∧ 0 ≤ b ∧ b < 36) ∧ r = some (zI (zWk (zBV (μ 394)) a b)) ∧ ∀ x, x ≠ 402 → ν x = μ x)) := by
  refine Ct.of RX12 [zR 393, zI a, zI b] (by decide +kernel) rfl ⟨rfl, rfl⟩ rfl (Nat.le_of_ble_eq_true rfl) (fun X hX hc0 ha0 => ?_)
  subst hX
  refine z_iload_1 dX12_distance_0 ?_
  refine z_callS1 (k_X12_isCell) m_X12_isCell l_X12_110 (Nat.le_of_ble_eq_true rfl) ⟨Nat.le_of_ble_eq_true rfl, Nat.le_of_ble_eq_true rfl⟩ ⟨rfl, rfl⟩ dX12_distance_1 (fun r μ1 hp => ?_)
  obtain ⟨rfl, hv⟩ := hp
  replace hv := hv.symm
  subst hv
  refine z_ifeq (tgt := 14) dX12_distance_4 (by decide) (fun h_4 => ?_) (fun h_4 => ?_)
  · replace h_4 := zb_0.mp h_4
    refine z_aload_0 dX12_distance_14 ?_
    refine z_callV0 (k_X12_bad hm) m_X12_bad zl_393 l_X12_117 (Nat.le_of_ble_eq_true rfl) ⟨Nat.le_of_ble_eq_true rfl, Nat.le_of_ble_eq_true rfl⟩ ⟨rfl, rfl⟩ dX12_distance_15 (fun r μ1 hp => ?_)
    obtain ⟨rfl, hv⟩ := hp
    replace hv := hv.symm
    subst hv
    exact z_iret dX12_distance_18 (by first | exact Or.inl ⟨fun q => by first | exact h_4 q.1 | exact h_11 q.2, rfl, rfl⟩ | exact Or.inr ⟨⟨h_4, h_11⟩, congrArg (fun z => (some (zI z) : Option zAV)) (by omega), fr⟩)
  · replace h_4 := zb_n.mp h_4
    refine z_iload_2 dX12_distance_7 ?_
    refine z_callS1 (k_X12_isCell) m_X12_isCell l_X12_110 (Nat.le_of_ble_eq_true rfl) ⟨Nat.le_of_ble_eq_true rfl, Nat.le_of_ble_eq_true rfl⟩ ⟨rfl, rfl⟩ dX12_distance_8 (fun r μ1 hp => ?_)
    obtain ⟨rfl, hv⟩ := hp
    replace hv := hv.symm
    subst hv
    refine z_ifne (tgt := 19) dX12_distance_11 (by decide) (fun h_11 => ?_) (fun h_11 => ?_)
    · replace h_11 := zb_n.mp h_11
      refine z_aload_0 dX12_distance_19 ?_
      refine z_callV0 (k_X12_looks) m_X12_looks zl_393 l_X12_255 (Nat.le_of_ble_eq_true rfl) ⟨Nat.le_of_ble_eq_true rfl, Nat.le_of_ble_eq_true rfl⟩ ⟨rfl, rfl⟩ dX12_distance_20 (fun r μ1 hp => ?_)
      obtain ⟨rfl, dd, fr⟩ := hp
      have de := zFar_e dd h_4.1 h_4.2 h_11.1 h_11.2
      refine z_aload_0 dX12_distance_23 ?_
      refine z_getF 402 9 rfl f_X12_35 zl_393 rfl rfl dX12_distance_24 ?_
      refine z_bipush dX12_distance_27 (by decide) ?_
      refine z_iload_1 dX12_distance_29 ?_
      refine z_imul dX12_distance_30 (by omega) ?_
      refine z_iload_2 dX12_distance_31 ?_
      refine z_iadd dX12_distance_32 (by omega) ?_
      refine z_iald zl_402 (by omega) (by omega) dX12_distance_33 ?_
      refine z_sipush dX12_distance_34 (by decide) ?_
      refine z_icmpne (tgt := 44) dX12_distance_37 (by decide) (fun h_37 => ?_) (fun h_37 => ?_)
      · refine z_aload_0 dX12_distance_44 ?_
        refine z_getF 402 9 rfl f_X12_35 zl_393 rfl rfl dX12_distance_45 ?_
        refine z_bipush dX12_distance_48 (by decide) ?_
        refine z_iload_1 dX12_distance_50 ?_
        refine z_imul dX12_distance_51 (by omega) ?_
        refine z_iload_2 dX12_distance_52 ?_
        refine z_iadd dX12_distance_53 (by omega) ?_
        refine z_iald zl_402 (by omega) (by omega) dX12_distance_54 ?_
        exact z_iret dX12_distance_55 (by first | exact Or.inl ⟨fun q => by first | exact h_4 q.1 | exact h_11 q.2, rfl, rfl⟩ | exact Or.inr ⟨⟨h_4, h_11⟩, congrArg (fun z => (some (zI z) : Option zAV)) (by omega), fr⟩)
      · refine z_iconst dX12_distance_40 (by decide) ?_
        refine z_goto (tgt := 55) dX12_distance_41 (by decide) ?_
        exact z_iret dX12_distance_55 (by first | exact Or.inl ⟨fun q => by first | exact h_4 q.1 | exact h_11 q.2, rfl, rfl⟩ | exact Or.inr ⟨⟨h_4, h_11⟩, congrArg (fun z => (some (zI z) : Option zAV)) (by omega), fr⟩)
    · replace h_11 := zb_0.mp h_11
      refine z_aload_0 dX12_distance_14 ?_
      refine z_callV0 (k_X12_bad hm) m_X12_bad zl_393 l_X12_117 (Nat.le_of_ble_eq_true rfl) ⟨Nat.le_of_ble_eq_true rfl, Nat.le_of_ble_eq_true rfl⟩ ⟨rfl, rfl⟩ dX12_distance_15 (fun r μ1 hp => ?_)
      obtain ⟨rfl, hv⟩ := hp
      replace hv := hv.symm
      subst hv
      exact z_iret dX12_distance_18 (by first | exact Or.inl ⟨fun q => by first | exact h_4 q.1 | exact h_11 q.2, rfl, rfl⟩ | exact Or.inr ⟨⟨h_4, h_11⟩, congrArg (fun z => (some (zI z) : Option zAV)) (by omega), fr⟩)
set_option maxRecDepth 100000 in
set_option maxHeartbeats 4000000 in
theorem k_X11_heard {l : Launch} {E : zE} {μ : zM} (hm : zXpre μ) {a v b t : Int} : Ct l E yX11_heard cX11_heard 5 (some .int) ({ frames := 3, cells := 0, slots := 0, locals := 66 }) [zR 0, zI a, zI v, zI b, zI t] μ (fun r ν => (¬ ((0 ≤ a ∧ a < 36) ∧ (0 ≤ v ∧ v ≤ 60) ∧ (0 ≤ b ∧ b < 36) ∧ 0 ≤ t ∧ t ≤ 39) ∧ r = some (zI (-2)) ∧ ν = zCt μ (-2)) ∨ (((0 ≤ a ∧ a < 36) ∧ (0 ≤ v ∧ v ≤ 60) ∧ (0 ≤ b ∧ b < 36) ∧ 0 ≤ t ∧ t ≤ 39) ∧ r = some (zI (zHr v (zWk (zHV μ 1) b a) (zHV μ 1 3 1) (zCv (zHV μ 1) t))) ∧ ∀ x, x ≠ 347 → x ≠ 346 → ν x = μ x)) := by
  refine Ct.of RX11 [zR 0, zI a, zI v, zI b, zI t] (by decide +kernel) rfl ⟨rfl, rfl⟩ rfl (Nat.le_of_ble_eq_true rfl) (fun X hX hc0 ha0 => ?_)
  subst hX
  refine z_iload_1 dX11_heard_0 ?_
  refine z_callS1 (k_X11_isCell) m_X11_isCell l_X11_163 (Nat.le_of_ble_eq_true rfl) ⟨Nat.le_of_ble_eq_true rfl, Nat.le_of_ble_eq_true rfl⟩ ⟨rfl, rfl⟩ dX11_heard_1 (fun r μ1 hp => ?_)
  obtain ⟨rfl, hv⟩ := hp
  replace hv := hv.symm
  subst hv
  refine z_ifeq (tgt := 35) dX11_heard_4 (by decide) (fun h_4 => ?_) (fun h_4 => ?_)
  · replace h_4 := zb_0.mp h_4
    refine z_aload_0 dX11_heard_35 ?_
    refine z_bipush dX11_heard_36 (by decide) ?_
    refine z_callV1 (k_X11_counted hm.2) m_X11_counted zl_0 l_X11_86 (Nat.le_of_ble_eq_true rfl) ⟨Nat.le_of_ble_eq_true rfl, Nat.le_of_ble_eq_true rfl⟩ ⟨rfl, rfl⟩ dX11_heard_38 (fun r μ1 hp => ?_)
    obtain ⟨rfl, hv⟩ := hp
    replace hv := hv.symm
    subst hv
    exact z_iret dX11_heard_41 (by first | exact Or.inl ⟨fun q => by first | exact h_4 q.1 | exact h_14 q.2.1 | exact h_21 q.2.2.1 | exact h_32 q.2.2.2, rfl, rfl⟩ | exact Or.inr ⟨⟨h_4, h_14, h_21, h_32⟩, congrArg (fun z => (some (zI z) : Option zAV)) (by rw [e7, h2]; rfl), fr⟩)
  · replace h_4 := zb_n.mp h_4
    refine z_iload_2 dX11_heard_7 ?_
    refine z_iconst dX11_heard_8 (by decide) ?_
    refine z_bipush dX11_heard_9 (by decide) ?_
    refine z_callS3 (k_X11_isIn) m_X11_isIn l_X11_174 (Nat.le_of_ble_eq_true rfl) ⟨Nat.le_of_ble_eq_true rfl, Nat.le_of_ble_eq_true rfl⟩ ⟨rfl, rfl⟩ dX11_heard_11 (fun r μ1 hp => ?_)
    obtain ⟨rfl, hv⟩ := hp
    replace hv := hv.symm
    subst hv
    refine z_ifeq (tgt := 35) dX11_heard_14 (by decide) (fun h_14 => ?_) (fun h_14 => ?_)
    · replace h_14 := zb_0.mp h_14
      refine z_aload_0 dX11_heard_35 ?_
      refine z_bipush dX11_heard_36 (by decide) ?_
      refine z_callV1 (k_X11_counted hm.2) m_X11_counted zl_0 l_X11_86 (Nat.le_of_ble_eq_true rfl) ⟨Nat.le_of_ble_eq_true rfl, Nat.le_of_ble_eq_true rfl⟩ ⟨rfl, rfl⟩ dX11_heard_38 (fun r μ1 hp => ?_)
      obtain ⟨rfl, hv⟩ := hp
      replace hv := hv.symm
      subst hv
      exact z_iret dX11_heard_41 (by first | exact Or.inl ⟨fun q => by first | exact h_4 q.1 | exact h_14 q.2.1 | exact h_21 q.2.2.1 | exact h_32 q.2.2.2, rfl, rfl⟩ | exact Or.inr ⟨⟨h_4, h_14, h_21, h_32⟩, congrArg (fun z => (some (zI z) : Option zAV)) (by rw [e7, h2]; rfl), fr⟩)
    · replace h_14 := zb_n.mp h_14
      refine z_iload_3 dX11_heard_17 ?_
      refine z_callS1 (k_X11_isCell) m_X11_isCell l_X11_163 (Nat.le_of_ble_eq_true rfl) ⟨Nat.le_of_ble_eq_true rfl, Nat.le_of_ble_eq_true rfl⟩ ⟨rfl, rfl⟩ dX11_heard_18 (fun r μ1 hp => ?_)
      obtain ⟨rfl, hv⟩ := hp
      replace hv := hv.symm
      subst hv
      refine z_ifeq (tgt := 35) dX11_heard_21 (by decide) (fun h_21 => ?_) (fun h_21 => ?_)
      · replace h_21 := zb_0.mp h_21
        refine z_aload_0 dX11_heard_35 ?_
        refine z_bipush dX11_heard_36 (by decide) ?_
        refine z_callV1 (k_X11_counted hm.2) m_X11_counted zl_0 l_X11_86 (Nat.le_of_ble_eq_true rfl) ⟨Nat.le_of_ble_eq_true rfl, Nat.le_of_ble_eq_true rfl⟩ ⟨rfl, rfl⟩ dX11_heard_38 (fun r μ1 hp => ?_)
        obtain ⟨rfl, hv⟩ := hp
        replace hv := hv.symm
        subst hv
        exact z_iret dX11_heard_41 (by first | exact Or.inl ⟨fun q => by first | exact h_4 q.1 | exact h_14 q.2.1 | exact h_21 q.2.2.1 | exact h_32 q.2.2.2, rfl, rfl⟩ | exact Or.inr ⟨⟨h_4, h_14, h_21, h_32⟩, congrArg (fun z => (some (zI z) : Option zAV)) (by rw [e7, h2]; rfl), fr⟩)
      · replace h_21 := zb_n.mp h_21
        refine z_iload_4 dX11_heard_24 ?_
        refine z_iconst dX11_heard_26 (by decide) ?_
        refine z_bipush dX11_heard_27 (by decide) ?_
        refine z_callS3 (k_X11_isIn) m_X11_isIn l_X11_174 (Nat.le_of_ble_eq_true rfl) ⟨Nat.le_of_ble_eq_true rfl, Nat.le_of_ble_eq_true rfl⟩ ⟨rfl, rfl⟩ dX11_heard_29 (fun r μ1 hp => ?_)
        obtain ⟨rfl, hv⟩ := hp
        replace hv := hv.symm
        subst hv
        refine z_ifne (tgt := 42) dX11_heard_32 (by decide) (fun h_32 => ?_) (fun h_32 => ?_)
        · replace h_32 := zb_n.mp h_32
          refine z_aload_0 dX11_heard_42 ?_
          refine z_getF 345 345 rfl f_X11_58 zl_0 rfl rfl dX11_heard_43 ?_
          refine z_aload_0 dX11_heard_46 ?_
          refine z_getF 1 1 rfl f_X11_10 zl_0 rfl rfl dX11_heard_47 ?_
          refine z_getF 2 1 rfl f_X11_76 zl_1 rfl rfl dX11_heard_50 ?_
          refine z_getF 3 1 rfl f_X11_167 zl_2 rfl rfl dX11_heard_53 ?_
          refine z_iload_3 dX11_heard_56 ?_
          refine z_aload_0 dX11_heard_57 ?_
          refine z_getF 347 347 rfl f_X11_62 zl_0 rfl rfl dX11_heard_58 ?_
          refine z_callV3 (k_X6_spread zq6_345 zl_3 zl_347 (by decide) h_21) m_X6_spread zl_345 l_X11_170 (Nat.le_of_ble_eq_true rfl) ⟨Nat.le_of_ble_eq_true rfl, Nat.le_of_ble_eq_true rfl⟩ ⟨rfl, rfl⟩ dX11_heard_61 (fun r μ1 hp => ?_)
          obtain ⟨rfl, dd, fr⟩ := hp
          have d1 := zSp zq2_1 hc0 h_21.1 h_21.2 dd
          have hV : zHV μ1 1 = zHV μ 1 := zHV_fr (a := 346) (n := 2) (fun x hx => fr x (by omega) (by omega)) (by omega)
          have e7 := zWk_eq d1 h_4.1 h_4.2
          have db := zDM_b d1 h_4.1 h_4.2
          have h2 : μ1 2 = μ 2 := fr 2 (by decide) (by decide)
          have hcv := zCv_b (t := t) hm.1
          refine z_iconst dX11_heard_64 (by decide) ?_
          refine z_iload_2 dX11_heard_65 ?_
          refine z_aload_0 dX11_heard_66 ?_
          refine z_getF 347 347 rfl f_X11_62 zl_0 rfl rfl dX11_heard_67 ?_
          refine z_iload_1 dX11_heard_70 ?_
          refine z_iald zl_347 (by omega) (by omega) dX11_heard_71 ?_
          refine z_aload_0 dX11_heard_72 ?_
          refine z_getF 1 1 rfl f_X11_10 zl_0 rfl rfl dX11_heard_73 ?_
          refine z_getF 2 1 rfl f_X11_76 zl_1 rfl rfl dX11_heard_76 ?_
          refine z_getI 4 rfl f_X11_178 zl_2 rfl dX11_heard_79 ?_
          refine z_callS3 (k_X11_faded (by omega) (by omega) (by rw [h2]; exact hm.1.1.2.2.2.1)) m_X11_faded l_X11_181 (Nat.le_of_ble_eq_true rfl) ⟨Nat.le_of_ble_eq_true rfl, Nat.le_of_ble_eq_true rfl⟩ ⟨rfl, rfl⟩ dX11_heard_82 (fun r μ1 hp => ?_)
          obtain ⟨rfl, hv⟩ := hp
          replace hv := hv.symm
          subst hv
          refine z_aload_0 dX11_heard_85 ?_
          refine z_getF 1 1 rfl f_X11_10 zl_0 rfl rfl dX11_heard_86 ?_
          refine z_getF 13 12 rfl f_X11_122 zl_1 rfl rfl dX11_heard_89 ?_
          refine z_iload_4 dX11_heard_92 ?_
          refine z_callV1 (k_X9_coverIn (h := 1) zq2_1 (by rw [hV]; exact hm.1) (by omega)) m_X9_coverIn zl_13 l_X11_185 (Nat.le_of_ble_eq_true rfl) ⟨Nat.le_of_ble_eq_true rfl, Nat.le_of_ble_eq_true rfl⟩ ⟨rfl, rfl⟩ dX11_heard_94 (fun r μ1 hp => ?_)
          obtain ⟨rfl, hv⟩ := hp
          replace hv := hv.symm
          subst hv
          rw [hV]
          refine z_isub dX11_heard_97 (by have := zFd_b (v := v) (d := μ1 347 a) (f := μ1 2 4) (by omega) (by rw [h2]; exact hm.1.1.2.2.2.1) (by omega); omega) ?_
          refine z_max l_X11_188 ⟨Nat.le_of_ble_eq_true rfl, Nat.le_of_ble_eq_true rfl⟩ dX11_heard_98 ?_
          exact z_iret dX11_heard_101 (by first | exact Or.inl ⟨fun q => by first | exact h_4 q.1 | exact h_14 q.2.1 | exact h_21 q.2.2.1 | exact h_32 q.2.2.2, rfl, rfl⟩ | exact Or.inr ⟨⟨h_4, h_14, h_21, h_32⟩, congrArg (fun z => (some (zI z) : Option zAV)) (by rw [e7, h2]; rfl), fr⟩)
        · replace h_32 := zb_0.mp h_32
          refine z_aload_0 dX11_heard_35 ?_
          refine z_bipush dX11_heard_36 (by decide) ?_
          refine z_callV1 (k_X11_counted hm.2) m_X11_counted zl_0 l_X11_86 (Nat.le_of_ble_eq_true rfl) ⟨Nat.le_of_ble_eq_true rfl, Nat.le_of_ble_eq_true rfl⟩ ⟨rfl, rfl⟩ dX11_heard_38 (fun r μ1 hp => ?_)
          obtain ⟨rfl, hv⟩ := hp
          replace hv := hv.symm
          subst hv
          exact z_iret dX11_heard_41 (by first | exact Or.inl ⟨fun q => by first | exact h_4 q.1 | exact h_14 q.2.1 | exact h_21 q.2.2.1 | exact h_32 q.2.2.2, rfl, rfl⟩ | exact Or.inr ⟨⟨h_4, h_14, h_21, h_32⟩, congrArg (fun z => (some (zI z) : Option zAV)) (by rw [e7, h2]; rfl), fr⟩)
set_option maxRecDepth 100000 in
set_option maxHeartbeats 4000000 in
theorem k_X12_cover {l : Launch} {E : zE} {μ : zM} {t : Int} (ok : zOK (zBV (μ 394))) (hf : 0 ≤ μ 393 18 ∧ μ 393 18 ≤ 100) : Ct l E yX12_cover cX12_cover 5 (some .int) ({ frames := 1, cells := 0, slots := 0, locals := 25 }) [zR 393, zI t] μ (fun r ν => r = some (zI (μ 393 18 + zCv (zBV (μ 394)) t)) ∧ ν = μ) := by
  refine Ct.of RX12 [zR 393, zI t, zU, zU, zU] (by decide +kernel) rfl ⟨rfl, rfl⟩ rfl (Nat.le_of_ble_eq_true rfl) (fun X hX hc0 ha0 => ?_)
  subst hX
  obtain ⟨nb, nf, nd, np, ns, nr⟩ := zOK_b ok
  have L2 : ∀ (k : Nat) (i : Nat) (e : zAV), (i : Int) ≤ μ 394 3 → μ 394 3 - i < k → MW X E cX12_cover RX12 ({ frames := 1, cells := 0, slots := 0, locals := 25 }) (some .int) (fun r ν => r = some (zI (μ 393 18 + zCv (zBV (μ 394)) t)) ∧ ν = μ) 7 [zR 393, zI t, zI (μ 393 18 + zsum (zCvf (zBV (μ 394)) t) i), zI (i : Int), e] [] μ := by
    intro k
    induction k with
    | zero => intro i e h2 h3; omega
    | succ k ih =>
      intro i e h2 h3
      refine z_iload_3 dX12_cover_7 ?_
      refine z_aload_0 dX12_cover_8 ?_
      refine z_getF 394 1 rfl f_X12_7 zl_393 rfl rfl dX12_cover_9 ?_
      refine z_iconst dX12_cover_12 (by decide) ?_
      refine z_iald zl_394 (by omega) (by omega) dX12_cover_13 ?_
      refine z_icmpge (tgt := 86) dX12_cover_14 (by decide) (fun h_14 => ?_) (fun h_14 => ?_)
      · refine z_iload_2 dX12_cover_86 ?_
        exact z_iret dX12_cover_87 (by refine ⟨?_, rfl⟩; unfold zCv; rw [zBV_sc, show (μ 394 3).toNat = i by omega])
      · have h0 : (0 : Int) ≤ (i : Int) := by omega
        have h1 : (i : Int) < μ 394 3 := h_14
        have sb := zsum_b (f := zCvf (zBV (μ 394)) t) (B := 60) (n := i) (fun j a b => zCvf_b ok a (by rw [zBV_sc]; omega))
        have ss := (ok.2.2.1.2 i h0 h1).2.2.2.2
        rw [zBV_12 h0 h1, zBV_13 h0 h1, zBV_14 h0 h1] at ss
        refine z_bipush dX12_cover_17 (by decide) ?_
        refine z_iconst dX12_cover_19 (by decide) ?_
        refine z_iload_3 dX12_cover_20 ?_
        refine z_imul dX12_cover_21 (by omega) ?_
        refine z_iadd dX12_cover_22 (by omega) ?_
        refine z_istore_4 rfl dX12_cover_23 ?_
        refine z_iload_2 dX12_cover_25 ?_
        refine z_aload_0 dX12_cover_26 ?_
        refine z_getF 394 1 rfl f_X12_7 zl_393 rfl rfl dX12_cover_27 ?_
        refine z_iload_4 dX12_cover_30 ?_
        refine z_iald zl_394 (by omega) (by omega) dX12_cover_32 ?_
        refine z_iconst dX12_cover_33 (by decide) ?_
        refine z_icmpne (tgt := 77) dX12_cover_34 (by decide) (fun h_34 => ?_) (fun h_34 => ?_)
        · refine z_iconst dX12_cover_77 (by decide) ?_
          refine z_iadd dX12_cover_78 (by omega) ?_
          refine z_istore_2 rfl dX12_cover_79 ?_
          refine z_iinc_3 rfl dX12_cover_80 (by omega) ?_
          refine z_goto (tgt := 7) dX12_cover_83 (by decide) ?_
          refine z_eqs (ih (i + 1) _ (by omega) (by omega)) rfl (by rw [zCvs]; first | rw [zif_t (by rw [zBV_10 h0 h1, zBV_12 h0 h1, zBV_13 h0 h1]; omega), zBV_14 h0 h1, Int.add_assoc]; rfl | rw [zif_f (by rw [zBV_10 h0 h1, zBV_12 h0 h1, zBV_13 h0 h1]; omega), Int.add_zero, Int.add_zero]; rfl) rfl rfl
        · refine z_iload_1 dX12_cover_37 ?_
          refine z_i2l dX12_cover_38 ?_
          refine z_aload_0 dX12_cover_39 ?_
          refine z_getF 394 1 rfl f_X12_7 zl_393 rfl rfl dX12_cover_40 ?_
          refine z_iload_4 dX12_cover_43 ?_
          refine z_iconst dX12_cover_45 (by decide) ?_
          refine z_iadd dX12_cover_46 (by omega) ?_
          refine z_iald zl_394 (by omega) (by omega) dX12_cover_47 ?_
          refine z_i2l dX12_cover_48 ?_
          refine z_aload_0 dX12_cover_49 ?_
          refine z_getF 394 1 rfl f_X12_7 zl_393 rfl rfl dX12_cover_50 ?_
          refine z_iload_4 dX12_cover_53 ?_
          refine z_iconst dX12_cover_55 (by decide) ?_
          refine z_iadd dX12_cover_56 (by omega) ?_
          refine z_iald zl_394 (by omega) (by omega) dX12_cover_57 ?_
          refine z_i2l dX12_cover_58 ?_
          refine z_callS3 (k_X12_in) m_X12_in l_X12_106 (Nat.le_of_ble_eq_true rfl) ⟨Nat.le_of_ble_eq_true rfl, Nat.le_of_ble_eq_true rfl⟩ ⟨rfl, rfl⟩ dX12_cover_59 (fun r μ1 hp => ?_)
          obtain ⟨rfl, hv⟩ := hp
          replace hv := hv.symm
          subst hv
          refine z_ifeq (tgt := 77) dX12_cover_62 (by decide) (fun h_62 => ?_) (fun h_62 => ?_)
          · replace h_62 := zb_0.mp h_62
            refine z_iconst dX12_cover_77 (by decide) ?_
            refine z_iadd dX12_cover_78 (by omega) ?_
            refine z_istore_2 rfl dX12_cover_79 ?_
            refine z_iinc_3 rfl dX12_cover_80 (by omega) ?_
            refine z_goto (tgt := 7) dX12_cover_83 (by decide) ?_
            refine z_eqs (ih (i + 1) _ (by omega) (by omega)) rfl (by rw [zCvs]; first | rw [zif_t (by rw [zBV_10 h0 h1, zBV_12 h0 h1, zBV_13 h0 h1]; omega), zBV_14 h0 h1, Int.add_assoc]; rfl | rw [zif_f (by rw [zBV_10 h0 h1, zBV_12 h0 h1, zBV_13 h0 h1]; omega), Int.add_zero, Int.add_zero]; rfl) rfl rfl
          · replace h_62 := zb_n.mp h_62
            refine z_aload_0 dX12_cover_65 ?_
            refine z_getF 394 1 rfl f_X12_7 zl_393 rfl rfl dX12_cover_66 ?_
            refine z_iload_4 dX12_cover_69 ?_
            refine z_iconst dX12_cover_71 (by decide) ?_
            refine z_iadd dX12_cover_72 (by omega) ?_
            refine z_iald zl_394 (by omega) (by omega) dX12_cover_73 ?_
            refine z_goto (tgt := 78) dX12_cover_74 (by decide) ?_
            refine z_iadd dX12_cover_78 (by omega) ?_
            refine z_istore_2 rfl dX12_cover_79 ?_
            refine z_iinc_3 rfl dX12_cover_80 (by omega) ?_
            refine z_goto (tgt := 7) dX12_cover_83 (by decide) ?_
            refine z_eqs (ih (i + 1) _ (by omega) (by omega)) rfl (by rw [zCvs]; first | rw [zif_t (by rw [zBV_10 h0 h1, zBV_12 h0 h1, zBV_13 h0 h1]; omega), zBV_14 h0 h1, Int.add_assoc]; rfl | rw [zif_f (by rw [zBV_10 h0 h1, zBV_12 h0 h1, zBV_13 h0 h1]; omega), Int.add_zero, Int.add_zero]; rfl) rfl rfl
  refine z_aload_0 dX12_cover_0 ?_
  refine z_getI 18 rfl f_X12_252 zl_393 rfl dX12_cover_1 ?_
  refine z_istore_2 rfl dX12_cover_4 ?_
  refine z_iconst dX12_cover_5 (by decide) ?_
  refine z_istore_3 rfl dX12_cover_6 ?_
  refine z_eqs (L2 9 0 zU (by omega) (by omega)) rfl (by rw [show zsum (zCvf (zBV (μ 394)) t) 0 = 0 from rfl, Int.add_zero]; rfl) rfl rfl
set_option maxRecDepth 100000 in
set_option maxHeartbeats 4000000 in
theorem k_X12_heardAt {l : Launch} {E : zE} {μ : zM} {V : zM} {a v b c : Int} (ha : 0 ≤ a ∧ a < 36) (hb : 0 ≤ b ∧ b < 36) (hv : 0 ≤ v ∧ v ≤ 1000) (hc : 0 ≤ c ∧ c ≤ 1000) (hf : 0 ≤ μ 394 5 ∧ μ 394 5 ≤ 9) (far : zFar V (μ 402)) : Ct l E yX12_heardAt cX12_heardAt 7 (some .int) ({ frames := 0, cells := 0, slots := 0, locals := 0 }) [zR 393, zI a, zI v, zI b, zI c] μ (fun r ν => r = some (zI (zHr v (zWk V b a) (μ 394 5) c)) ∧ ν = μ) := by
  refine Ct.of RX12 [zR 393, zI a, zI v, zI b, zI c, zU, zU] (by decide +kernel) rfl ⟨rfl, rfl⟩ rfl (Nat.le_of_ble_eq_true rfl) (fun X hX hc0 ha0 => ?_)
  subst hX
  have de := zFar_e far ha.1 ha.2 hb.1 hb.2
  have mb := zmul_c (d := μ 402 (36 * a + b)) hf (by omega)
  refine z_aload_0 dX12_heardAt_0 ?_
  refine z_getF 402 9 rfl f_X12_35 zl_393 rfl rfl dX12_heardAt_1 ?_
  refine z_bipush dX12_heardAt_4 (by decide) ?_
  refine z_iload_1 dX12_heardAt_6 ?_
  refine z_imul dX12_heardAt_7 (by omega) ?_
  refine z_iload_3 dX12_heardAt_8 ?_
  refine z_iadd dX12_heardAt_9 (by omega) ?_
  refine z_iald zl_402 (by omega) (by omega) dX12_heardAt_10 ?_
  refine z_istore_5 rfl dX12_heardAt_11 ?_
  refine z_iload_2 dX12_heardAt_13 ?_
  refine z_aload_0 dX12_heardAt_14 ?_
  refine z_getF 394 1 rfl f_X12_7 zl_393 rfl rfl dX12_heardAt_15 ?_
  refine z_iconst dX12_heardAt_18 (by decide) ?_
  refine z_iald zl_394 (by omega) (by omega) dX12_heardAt_19 ?_
  refine z_iload_5 dX12_heardAt_20 ?_
  refine z_imul dX12_heardAt_22 (by omega) ?_
  refine z_isub dX12_heardAt_23 (by omega) ?_
  refine z_iload_4 dX12_heardAt_24 ?_
  refine z_isub dX12_heardAt_26 (by omega) ?_
  refine z_istore_6 rfl dX12_heardAt_27 ?_
  refine z_iload_5 dX12_heardAt_29 ?_
  refine z_sipush dX12_heardAt_31 (by decide) ?_
  refine z_icmpeq (tgt := 42) dX12_heardAt_34 (by decide) (fun h_34 => ?_) (fun h_34 => ?_)
  · refine z_iconst dX12_heardAt_42 (by decide) ?_
    refine z_goto (tgt := 48) dX12_heardAt_43 (by decide) ?_
    exact z_iret dX12_heardAt_48 (by
      refine ⟨congrArg (fun z => (some (zI z) : Option zAV)) ?_, rfl⟩
      rw [← zFar_s far ha.1 ha.2 hb.1 hb.2]
      rcases de with ⟨e1, e2⟩ | ⟨e1, e2, e3⟩
      · (rw [e2, zHr_no hc.1]) <;> omega
      · rw [zHr_is e2 hc.1, ← e1]; omega)
  · refine z_iload_6 dX12_heardAt_37 ?_
    refine z_ifge (tgt := 46) dX12_heardAt_39 (by decide) (fun h_39 => ?_) (fun h_39 => ?_)
    · refine z_iload_6 dX12_heardAt_46 ?_
      exact z_iret dX12_heardAt_48 (by
      refine ⟨congrArg (fun z => (some (zI z) : Option zAV)) ?_, rfl⟩
      rw [← zFar_s far ha.1 ha.2 hb.1 hb.2]
      rcases de with ⟨e1, e2⟩ | ⟨e1, e2, e3⟩
      · (rw [e2, zHr_no hc.1]) <;> omega
      · rw [zHr_is e2 hc.1, ← e1]; omega)
    · refine z_iconst dX12_heardAt_42 (by decide) ?_
      refine z_goto (tgt := 48) dX12_heardAt_43 (by decide) ?_
      exact z_iret dX12_heardAt_48 (by
      refine ⟨congrArg (fun z => (some (zI z) : Option zAV)) ?_, rfl⟩
      rw [← zFar_s far ha.1 ha.2 hb.1 hb.2]
      rcases de with ⟨e1, e2⟩ | ⟨e1, e2, e3⟩
      · (rw [e2, zHr_no hc.1]) <;> omega
      · rw [zHr_is e2 hc.1, ← e1]; omega)
set_option maxRecDepth 100000 in
set_option maxHeartbeats 4000000 in
theorem k_X12_heard {l : Launch} {E : zE} {μ : zM} (hm : zMpre μ) (hq : μ 393 18 = 0) {a v b t : Int} : Ct l E yX12_heard cX12_heard 5 (some .int) ({ frames := 3, cells := 0, slots := 0, locals := 75 }) [zR 393, zI a, zI v, zI b, zI t] μ (fun r ν => (¬ ((0 ≤ a ∧ a < 36) ∧ (0 ≤ v ∧ v ≤ 60) ∧ (0 ≤ b ∧ b < 36) ∧ 0 ≤ t ∧ t ≤ 39) ∧ r = some (zI (-2)) ∧ ν = zup μ 398 0 (μ 398 0 + zq1 μ)) ∨ (((0 ≤ a ∧ a < 36) ∧ (0 ≤ v ∧ v ≤ 60) ∧ (0 ≤ b ∧ b < 36) ∧ 0 ≤ t ∧ t ≤ 39) ∧ r = some (zI (zHr v (zWk (zBV (μ 394)) b a) (zBV (μ 394) 3 1) (zCv (zBV (μ 394)) t))) ∧ ∀ x, x ≠ 402 → ν x = μ x)) := by
  refine Ct.of RX12 [zR 393, zI a, zI v, zI b, zI t] (by decide +kernel) rfl ⟨rfl, rfl⟩ rfl (Nat.le_of_ble_eq_true rfl) (fun X hX hc0 ha0 => ?_)
  subst hX
  refine z_iload_1 dX12_heard_0 ?_
  refine z_callS1 (k_X12_isCell) m_X12_isCell l_X12_110 (Nat.le_of_ble_eq_true rfl) ⟨Nat.le_of_ble_eq_true rfl, Nat.le_of_ble_eq_true rfl⟩ ⟨rfl, rfl⟩ dX12_heard_1 (fun r μ1 hp => ?_)
  obtain ⟨rfl, hv⟩ := hp
  replace hv := hv.symm
  subst hv
  refine z_ifeq (tgt := 39) dX12_heard_4 (by decide) (fun h_4 => ?_) (fun h_4 => ?_)
  · replace h_4 := zb_0.mp h_4
    refine z_aload_0 dX12_heard_39 ?_
    refine z_callV0 (k_X12_bad hm) m_X12_bad zl_393 l_X12_117 (Nat.le_of_ble_eq_true rfl) ⟨Nat.le_of_ble_eq_true rfl, Nat.le_of_ble_eq_true rfl⟩ ⟨rfl, rfl⟩ dX12_heard_40 (fun r μ1 hp => ?_)
    obtain ⟨rfl, hv⟩ := hp
    replace hv := hv.symm
    subst hv
    exact z_iret dX12_heard_43 (by first | exact Or.inl ⟨fun q => by first | exact h_4 q.1 | exact h_16 q.2.1 | exact h_23 q.2.2.1 | exact h_36 q.2.2.2 | exact h_13 q.2.1 | exact h_20 q.2.2.1 | exact h_33 q.2.2.2, rfl, rfl⟩ | exact Or.inr ⟨⟨h_4, by first | exact h_13 | exact h_16, by first | exact h_20 | exact h_23, by first | exact h_33 | exact h_36⟩, rfl, fr⟩)
  · replace h_4 := zb_n.mp h_4
    refine z_iload_2 dX12_heard_7 ?_
    refine z_i2l dX12_heard_8 ?_
    refine z_lconst0 dX12_heard_9 ?_
    refine z_ldc2 (n := 60) k_X12_137 dX12_heard_10 (by decide +kernel) ?_
    refine z_callS3 (k_X12_in) m_X12_in l_X12_106 (Nat.le_of_ble_eq_true rfl) ⟨Nat.le_of_ble_eq_true rfl, Nat.le_of_ble_eq_true rfl⟩ ⟨rfl, rfl⟩ dX12_heard_13 (fun r μ1 hp => ?_)
    obtain ⟨rfl, hv⟩ := hp
    replace hv := hv.symm
    subst hv
    refine z_ifeq (tgt := 39) dX12_heard_16 (by decide) (fun h_16 => ?_) (fun h_16 => ?_)
    · replace h_16 := zb_0.mp h_16
      refine z_aload_0 dX12_heard_39 ?_
      refine z_callV0 (k_X12_bad hm) m_X12_bad zl_393 l_X12_117 (Nat.le_of_ble_eq_true rfl) ⟨Nat.le_of_ble_eq_true rfl, Nat.le_of_ble_eq_true rfl⟩ ⟨rfl, rfl⟩ dX12_heard_40 (fun r μ1 hp => ?_)
      obtain ⟨rfl, hv⟩ := hp
      replace hv := hv.symm
      subst hv
      exact z_iret dX12_heard_43 (by first | exact Or.inl ⟨fun q => by first | exact h_4 q.1 | exact h_16 q.2.1 | exact h_23 q.2.2.1 | exact h_36 q.2.2.2 | exact h_13 q.2.1 | exact h_20 q.2.2.1 | exact h_33 q.2.2.2, rfl, rfl⟩ | exact Or.inr ⟨⟨h_4, by first | exact h_13 | exact h_16, by first | exact h_20 | exact h_23, by first | exact h_33 | exact h_36⟩, rfl, fr⟩)
    · replace h_16 := zb_n.mp h_16
      refine z_iload_3 dX12_heard_19 ?_
      refine z_callS1 (k_X12_isCell) m_X12_isCell l_X12_110 (Nat.le_of_ble_eq_true rfl) ⟨Nat.le_of_ble_eq_true rfl, Nat.le_of_ble_eq_true rfl⟩ ⟨rfl, rfl⟩ dX12_heard_20 (fun r μ1 hp => ?_)
      obtain ⟨rfl, hv⟩ := hp
      replace hv := hv.symm
      subst hv
      refine z_ifeq (tgt := 39) dX12_heard_23 (by decide) (fun h_23 => ?_) (fun h_23 => ?_)
      · replace h_23 := zb_0.mp h_23
        refine z_aload_0 dX12_heard_39 ?_
        refine z_callV0 (k_X12_bad hm) m_X12_bad zl_393 l_X12_117 (Nat.le_of_ble_eq_true rfl) ⟨Nat.le_of_ble_eq_true rfl, Nat.le_of_ble_eq_true rfl⟩ ⟨rfl, rfl⟩ dX12_heard_40 (fun r μ1 hp => ?_)
        obtain ⟨rfl, hv⟩ := hp
        replace hv := hv.symm
        subst hv
        exact z_iret dX12_heard_43 (by first | exact Or.inl ⟨fun q => by first | exact h_4 q.1 | exact h_16 q.2.1 | exact h_23 q.2.2.1 | exact h_36 q.2.2.2 | exact h_13 q.2.1 | exact h_20 q.2.2.1 | exact h_33 q.2.2.2, rfl, rfl⟩ | exact Or.inr ⟨⟨h_4, by first | exact h_13 | exact h_16, by first | exact h_20 | exact h_23, by first | exact h_33 | exact h_36⟩, rfl, fr⟩)
      · replace h_23 := zb_n.mp h_23
        refine z_iload_4 dX12_heard_26 ?_
        refine z_i2l dX12_heard_28 ?_
        refine z_lconst0 dX12_heard_29 ?_
        refine z_ldc2 (n := 39) k_X12_139 dX12_heard_30 (by decide +kernel) ?_
        refine z_callS3 (k_X12_in) m_X12_in l_X12_106 (Nat.le_of_ble_eq_true rfl) ⟨Nat.le_of_ble_eq_true rfl, Nat.le_of_ble_eq_true rfl⟩ ⟨rfl, rfl⟩ dX12_heard_33 (fun r μ1 hp => ?_)
        obtain ⟨rfl, hv⟩ := hp
        replace hv := hv.symm
        subst hv
        refine z_ifne (tgt := 44) dX12_heard_36 (by decide) (fun h_36 => ?_) (fun h_36 => ?_)
        · replace h_36 := zb_n.mp h_36
          refine z_aload_0 dX12_heard_44 ?_
          refine z_callV0 (k_X12_looks) m_X12_looks zl_393 l_X12_255 (Nat.le_of_ble_eq_true rfl) ⟨Nat.le_of_ble_eq_true rfl, Nat.le_of_ble_eq_true rfl⟩ ⟨rfl, rfl⟩ dX12_heard_45 (fun r μ1 hp => ?_)
          obtain ⟨rfl, dd, fr⟩ := hp
          have h4 : μ1 394 = μ 394 := fr 394 (by decide)
          have h3 : μ1 393 = μ 393 := fr 393 (by decide)
          have hcv := zCv_b (t := t) hm.1
          refine z_aload_0 dX12_heard_48 ?_
          refine z_iload_1 dX12_heard_49 ?_
          refine z_iload_2 dX12_heard_50 ?_
          refine z_iload_3 dX12_heard_51 ?_
          refine z_aload_0 dX12_heard_52 ?_
          refine z_iload_4 dX12_heard_53 ?_
          refine z_callV1 (k_X12_cover (by rw [h4]; exact hm.1) (by rw [h3]; omega)) m_X12_cover zl_393 l_X12_258 (Nat.le_of_ble_eq_true rfl) ⟨Nat.le_of_ble_eq_true rfl, Nat.le_of_ble_eq_true rfl⟩ ⟨rfl, rfl⟩ dX12_heard_55 (fun r μ1 hp => ?_)
          obtain ⟨rfl, hv⟩ := hp
          replace hv := hv.symm
          subst hv
          rw [h3, h4, hq, Int.zero_add]
          refine z_callV4 (k_X12_heardAt (V := zBV (μ 394)) h_4 h_23 (by omega) (by omega) (by rw [h4]; exact hm.1.1.2.2.2.1) dd) m_X12_heardAt zl_393 l_X12_261 (Nat.le_of_ble_eq_true rfl) ⟨Nat.le_of_ble_eq_true rfl, Nat.le_of_ble_eq_true rfl⟩ ⟨rfl, rfl⟩ dX12_heard_58 (fun r μ1 hp => ?_)
          obtain ⟨rfl, hv⟩ := hp
          replace hv := hv.symm
          subst hv
          rw [h4]
          exact z_iret dX12_heard_61 (by first | exact Or.inl ⟨fun q => by first | exact h_4 q.1 | exact h_16 q.2.1 | exact h_23 q.2.2.1 | exact h_36 q.2.2.2 | exact h_13 q.2.1 | exact h_20 q.2.2.1 | exact h_33 q.2.2.2, rfl, rfl⟩ | exact Or.inr ⟨⟨h_4, by first | exact h_13 | exact h_16, by first | exact h_20 | exact h_23, by first | exact h_33 | exact h_36⟩, rfl, fr⟩)
        · replace h_36 := zb_0.mp h_36
          refine z_aload_0 dX12_heard_39 ?_
          refine z_callV0 (k_X12_bad hm) m_X12_bad zl_393 l_X12_117 (Nat.le_of_ble_eq_true rfl) ⟨Nat.le_of_ble_eq_true rfl, Nat.le_of_ble_eq_true rfl⟩ ⟨rfl, rfl⟩ dX12_heard_40 (fun r μ1 hp => ?_)
          obtain ⟨rfl, hv⟩ := hp
          replace hv := hv.symm
          subst hv
          exact z_iret dX12_heard_43 (by first | exact Or.inl ⟨fun q => by first | exact h_4 q.1 | exact h_16 q.2.1 | exact h_23 q.2.2.1 | exact h_36 q.2.2.2 | exact h_13 q.2.1 | exact h_20 q.2.2.1 | exact h_33 q.2.2.2, rfl, rfl⟩ | exact Or.inr ⟨⟨h_4, by first | exact h_13 | exact h_16, by first | exact h_20 | exact h_23, by first | exact h_33 | exact h_36⟩, rfl, fr⟩)
