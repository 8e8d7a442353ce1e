/-! TEXT, COUNTS, STATUS, FRACTION, IMAGES, DIGEST: of the class and of the reference -/
def zbX (v k : Int) : Int := zl2i (zandL (zushrL v (8 * k)) 255)
def zbM (v k : Int) : Int := zl2i (zandL (zshrL v (8 * k)) 255)
theorem zsh8 : ∀ k : Nat, k < 8 → ((Int32.ofInt (8 * (k : Int))).toInt64 &&& 63) = Int64.ofInt (8 * (k : Int)) ∧ ((Int32.ofInt (8 * (k : Int))).toInt64.toUInt64 &&& Int64.toUInt64 63) = UInt64.ofNat (8 * k) := by decide +kernel
theorem zb_XM {v k : Int} (h0 : 0 ≤ k) (h1 : k < 8) : zbX v k = zbM v k := by
  obtain ⟨n, rfl⟩ : ∃ n : Nat, k = n := ⟨k.toNat, by omega⟩
  have hn : n < 8 := by omega
  unfold zbX zbM zandL zushrL zshrL
  rw [(zsh8 n hn).1, (zsh8 n hn).2, Int64.ofInt_toInt, Int64.ofInt_toInt]
  congr 2
  apply Int64.toBitVec_inj.mp
  rw [Int64.toBitVec_and, Int64.toBitVec_and]
  have e1 : (Int64.ofInt v >>> Int64.ofInt (8 * (n : Int))).toBitVec = (Int64.ofInt v).toBitVec.sshiftRight (8 * n) := by
    rw [Int64.toBitVec_shiftRight]
    show BitVec.sshiftRight _ _ = _
    congr 1
    clear h0 h1
    revert hn
    revert n
    decide +kernel
  have e2 : ((Int64.ofInt v).toUInt64 >>> UInt64.ofNat (8 * n)).toInt64.toBitVec = (Int64.ofInt v).toBitVec >>> (8 * n) := by
    show ((Int64.ofInt v).toUInt64 >>> UInt64.ofNat (8 * n)).toBitVec = _
    rw [UInt64.toBitVec_shiftRight]
    rw [BitVec.ushiftRight_eq']
    have e3 : ((UInt64.ofNat (8 * n)).toBitVec % (64 : BitVec 64)).toNat = 8 * n := by
      clear h0 h1 e1
      revert hn
      revert n
      decide +kernel
    rw [e3]
    rfl
  rw [e1, e2]
  apply BitVec.eq_of_getLsbD_eq
  intro i hi
  rw [BitVec.getLsbD_and, BitVec.getLsbD_and, BitVec.getLsbD_sshiftRight, BitVec.getLsbD_ushiftRight]
  by_cases h8 : i < 8
  · have : 8 * n + i < 64 := by omega
    have h64 : ¬ 64 ≤ i := by omega
    simp [this, hi, h64]
  · have : (Int64.ofInt 255).toBitVec.getLsbD i = false := by
      have key : ∀ j : Nat, j < 64 → ¬ j < 8 → (Int64.ofInt 255).toBitVec.getLsbD j = false := by decide +kernel
      exact key i hi h8
    rw [this, Bool.and_false, Bool.and_false]
def zTx (t n : Int) (g f f2 : Int → Int) : Prop := (∀ j, 0 ≤ j → j < n → f2 (t + j) = g j) ∧ ∀ j, (j < t ∨ t + n ≤ j) → f2 j = f j
theorem zTx_0 {t : Int} {g f : Int → Int} : zTx t 0 g f f := ⟨fun j a b => by omega, fun _ _ => rfl⟩
theorem zTx_s {t n : Int} {g f f2 : Int → Int} (h0 : 0 ≤ n) (h : zTx t n g f f2) {v : Int} (hv : v = g n) : zTx t (n + 1) g f (zfu f2 (t + n) v) := by
  refine ⟨fun j a b => ?_, fun j a => ?_⟩
  · by_cases e : j = n
    · rw [e, zfu_e, hv]
    · rw [zfu_n (by omega)]; exact h.1 j a (by omega)
  · rw [zfu_n (by omega)]; exact h.2 j (by omega)
set_option maxRecDepth 100000 in
set_option maxHeartbeats 4000000 in
theorem k_X10_append {l : Launch} {E : zE} {μ : zM} {v n : Int} (h0 : 0 ≤ μ 47 0) (h1 : μ 47 0 ≤ 300) : Ct l E yX10_append cX10_append 5 (some .int) ({ frames := 1, cells := 0, slots := 0, locals := 22 }) [zR 47, zL v, zI n] μ (fun r ν => (¬ (1 ≤ n ∧ n ≤ 8) ∧ r = some (zI (-2)) ∧ ν = μ) ∨ ((1 ≤ n ∧ n ≤ 8) ∧ 300 < μ 47 0 + n ∧ r = some (zI (-4)) ∧ ν = μ) ∨ ((1 ≤ n ∧ n ≤ 8) ∧ μ 47 0 + n ≤ 300 ∧ r = some (zI (μ 47 0 + n)) ∧ (ν 47 0 = μ 47 0 + n ∧ (∀ k, k ≠ 0 → ν 47 k = μ 47 k) ∧ zTx (μ 47 0) n (fun j => zbX v (n - 1 - j)) (μ 110) (ν 110) ∧ ∀ a, a ≠ 47 → a ≠ 110 → ν a = μ a))) := by
  refine Ct.of RX10 [zR 47, zL v, zU, zI n, zU] (by decide +kernel) rfl ⟨rfl, rfl⟩ rfl (Nat.le_of_ble_eq_true rfl) (fun X hX hc0 ha0 => ?_)
  subst hX
  have L4 : (1 ≤ n ∧ n ≤ 8) → μ 47 0 + n ≤ 300 → MW X E cX10_append RX10 ({ frames := 1, cells := 0, slots := 0, locals := 22 }) (some .int) (fun r ν => (¬ (1 ≤ n ∧ n ≤ 8) ∧ r = some (zI (-2)) ∧ ν = μ) ∨ ((1 ≤ n ∧ n ≤ 8) ∧ 300 < μ 47 0 + n ∧ r = some (zI (-4)) ∧ ν = μ) ∨ ((1 ≤ n ∧ n ≤ 8) ∧ μ 47 0 + n ≤ 300 ∧ r = some (zI (μ 47 0 + n)) ∧ (ν 47 0 = μ 47 0 + n ∧ (∀ k, k ≠ 0 → ν 47 k = μ 47 k) ∧ zTx (μ 47 0) n (fun j => zbX v (n - 1 - j)) (μ 110) (ν 110) ∧ ∀ a, a ≠ 47 → a ≠ 110 → ν a = μ a))) 33 [zR 47, zL v, zU, zI n, zI (n - 1)] [] μ := fun hn hle => by
    have L3 : ∀ (k : Nat) (ξ : zM) (k9 : Int), -1 ≤ k9 → k9 ≤ n - 1 → ξ 47 0 = μ 47 0 + (n - 1 - k9) → (∀ k, k ≠ 0 → ξ 47 k = μ 47 k) → zTx (μ 47 0) (n - 1 - k9) (fun j => zbX v (n - 1 - j)) (μ 110) (ξ 110) → (∀ a, a ≠ 47 → a ≠ 110 → ξ a = μ a) → k9 + 1 < k → MW X E cX10_append RX10 ({ frames := 1, cells := 0, slots := 0, locals := 22 }) (some .int) (fun r ν => (¬ (1 ≤ n ∧ n ≤ 8) ∧ r = some (zI (-2)) ∧ ν = μ) ∨ ((1 ≤ n ∧ n ≤ 8) ∧ 300 < μ 47 0 + n ∧ r = some (zI (-4)) ∧ ν = μ) ∨ ((1 ≤ n ∧ n ≤ 8) ∧ μ 47 0 + n ≤ 300 ∧ r = some (zI (μ 47 0 + n)) ∧ (ν 47 0 = μ 47 0 + n ∧ (∀ k, k ≠ 0 → ν 47 k = μ 47 k) ∧ zTx (μ 47 0) n (fun j => zbX v (n - 1 - j)) (μ 110) (ν 110) ∧ ∀ a, a ≠ 47 → a ≠ 110 → ν a = μ a))) 33 [zR 47, zL v, zU, zI n, zI k9] [] ξ := by
      intro k
      induction k with
      | zero => intro ξ k9 h1 h2 ht hk9 htx hfr h3; omega
      | succ k ih =>
        intro ξ k9 h1 h2 ht hk9 htx hfr h3
        refine z_iload_4 dX10_append_33 ?_
        refine z_iflt (tgt := 72) dX10_append_35 (by decide) (fun h_35 => ?_) (fun h_35 => ?_)
        · refine z_aload_0 dX10_append_72 ?_
          refine z_getI 0 rfl f_X10_9 zl_47 rfl dX10_append_73 ?_
          exact z_iret dX10_append_76 (by have e : n - 1 - k9 = n := (by omega); rw [e] at ht htx; exact Or.inr (Or.inr ⟨hn, hle, by rw [ht], ht, hk9, htx, hfr⟩))
        · refine z_aload_0 dX10_append_38 ?_
          refine z_getF 110 63 rfl f_X10_27 zl_47 rfl rfl dX10_append_39 ?_
          refine z_aload_0 dX10_append_42 ?_
          refine z_dup dX10_append_43 rfl ?_
          refine z_getI 0 rfl f_X10_9 zl_47 rfl dX10_append_44 ?_
          refine z_dup_x1 dX10_append_47 rfl rfl ?_
          refine z_iconst dX10_append_48 (by decide) ?_
          refine z_iadd dX10_append_49 (by omega) ?_
          refine z_putI 0 rfl f_X10_9 p_10_0 zl_47 rfl rfl dX10_append_50 ?_
          refine z_lload_1 dX10_append_53 ?_
          refine z_bipush dX10_append_54 (by decide) ?_
          refine z_iload_4 dX10_append_56 ?_
          refine z_imul dX10_append_58 (by omega) ?_
          refine z_lushr dX10_append_59 ?_
          refine z_ldc2 (n := 255) k_X10_34 dX10_append_60 (by decide +kernel) ?_
          refine z_land dX10_append_63 ?_
          refine z_l2i dX10_append_64 ?_
          refine z_iast zl_110 (by omega) (by omega) dX10_append_65 ?_
          refine z_iinc_4 rfl dX10_append_66 (by omega) ?_
          refine z_goto (tgt := 33) dX10_append_69 (by decide) ?_
          refine z_eqs (ih _ (k9 - 1) (by omega) (by omega) (by rw [zup_id (by decide), zup_eq, ht]; omega) (fun k hk => by rw [zup_id (by decide), zup_ne (Or.inr hk)]; exact hk9 k hk) (by rw [zup_fu, zup_row (by decide), ht, show n - 1 - (k9 - 1) = n - 1 - k9 + 1 by omega]; exact zTx_s (by omega) htx (by rw [show n - 1 - (n - 1 - k9) = k9 by omega]; rfl)) (fun a h1 h2 => by rw [zup_row h2, zup_row h1]; exact hfr a h1 h2) (by omega)) rfl (by rw [show k9 + -1 = k9 - 1 by omega]) rfl rfl
    exact L3 10 μ (n - 1) (by omega) (by omega) (by omega) (fun _ _ => rfl) (by rw [show n - 1 - (n - 1) = 0 by omega]; exact zTx_0) (fun _ _ _ => rfl) (by omega)
  refine z_iload_3 dX10_append_0 ?_
  refine z_iconst dX10_append_1 (by decide) ?_
  refine z_bipush dX10_append_2 (by decide) ?_
  refine z_callN3 (k_X11_isIn) m_X11_isIn n_X10_30 (Nat.le_of_ble_eq_true rfl) ⟨Nat.le_of_ble_eq_true rfl, Nat.le_of_ble_eq_true rfl⟩ ⟨rfl, rfl⟩ dX10_append_4 (fun r μ1 hp => ?_)
  obtain ⟨rfl, hv⟩ := hp
  replace hv := hv.symm
  subst hv
  refine z_ifne (tgt := 13) dX10_append_7 (by decide) (fun h_7 => ?_) (fun h_7 => ?_)
  · replace h_7 := zb_n.mp h_7
    refine z_aload_0 dX10_append_13 ?_
    refine z_getI 0 rfl f_X10_9 zl_47 rfl dX10_append_14 ?_
    refine z_iload_3 dX10_append_17 ?_
    refine z_iadd dX10_append_18 (by omega) ?_
    refine z_sipush dX10_append_19 (by decide) ?_
    refine z_icmple (tgt := 28) dX10_append_22 (by decide) (fun h_22 => ?_) (fun h_22 => ?_)
    · refine z_iload_3 dX10_append_28 ?_
      refine z_iconst dX10_append_29 (by decide) ?_
      refine z_isub dX10_append_30 (by omega) ?_
      refine z_istore_4 rfl dX10_append_31 ?_
      exact L4 h_7 (by omega)
    · refine z_bipush dX10_append_25 (by decide) ?_
      exact z_iret dX10_append_27 (Or.inr (Or.inl ⟨h_7, by omega, rfl, rfl⟩))
  · replace h_7 := zb_0.mp h_7
    refine z_bipush dX10_append_10 (by decide) ?_
    exact z_iret dX10_append_12 (Or.inl ⟨h_7, rfl, rfl⟩)
set_option maxRecDepth 100000 in
set_option maxHeartbeats 4000000 in
theorem k_X10_empty {l : Launch} {E : zE} {μ : zM} : Ct l E yX10_empty cX10_empty 2 (some .int) ({ frames := 0, cells := 0, slots := 0, locals := 0 }) [zR 47] μ (fun r ν => r = some (zI (μ 47 0)) ∧ ν = zup μ 47 0 0) := by
  refine Ct.of RX10 [zR 47, zU] (by decide +kernel) rfl ⟨rfl, rfl⟩ rfl (Nat.le_of_ble_eq_true rfl) (fun X hX hc0 ha0 => ?_)
  subst hX
  refine z_aload_0 dX10_empty_0 ?_
  refine z_getI 0 rfl f_X10_9 zl_47 rfl dX10_empty_1 ?_
  refine z_istore_1 rfl dX10_empty_4 ?_
  refine z_aload_0 dX10_empty_5 ?_
  refine z_iconst dX10_empty_6 (by decide) ?_
  refine z_putI 0 rfl f_X10_9 p_10_0 zl_47 rfl rfl dX10_empty_7 ?_
  refine z_iload_1 dX10_empty_10 ?_
  exact z_iret dX10_empty_11 (⟨rfl, rfl⟩)
set_option maxRecDepth 100000 in
set_option maxHeartbeats 4000000 in
theorem k_X11_clear {l : Launch} {E : zE} {μ : zM} : Ct l E yX11_clear cX11_clear 1 (some .int) ({ frames := 1, cells := 0, slots := 0, locals := 21 }) [zR 0] μ (fun r ν => r = some (zI (μ 47 0)) ∧ ν = zup μ 47 0 0) := by
  refine Ct.of RX11 [zR 0] (by decide +kernel) rfl ⟨rfl, rfl⟩ rfl (Nat.le_of_ble_eq_true rfl) (fun X hX hc0 ha0 => ?_)
  subst hX
  refine z_aload_0 dX11_clear_0 ?_
  refine z_getF 47 47 rfl f_X11_30 zl_0 rfl rfl dX11_clear_1 ?_
  refine z_callV0 (k_X10_empty) m_X10_empty zl_47 l_X11_136 (Nat.le_of_ble_eq_true rfl) ⟨Nat.le_of_ble_eq_true rfl, Nat.le_of_ble_eq_true rfl⟩ ⟨rfl, rfl⟩ dX11_clear_4 (fun r μ1 hp => ?_)
  obtain ⟨rfl, hv⟩ := hp
  replace hv := hv.symm
  subst hv
  exact z_iret dX11_clear_7 (⟨rfl, rfl⟩)
set_option maxRecDepth 100000 in
set_option maxHeartbeats 4000000 in
theorem k_X12_clear {l : Launch} {E : zE} {μ : zM} : Ct l E yX12_clear cX12_clear 2 (some .int) ({ frames := 0, cells := 0, slots := 0, locals := 0 }) [zR 393] μ (fun r ν => r = some (zI (μ 393 9)) ∧ ν = zup μ 393 9 0) := by
  refine Ct.of RX12 [zR 393, zU] (by decide +kernel) rfl ⟨rfl, rfl⟩ rfl (Nat.le_of_ble_eq_true rfl) (fun X hX hc0 ha0 => ?_)
  subst hX
  refine z_aload_0 dX12_clear_0 ?_
  refine z_getI 9 rfl f_X12_154 zl_393 rfl dX12_clear_1 ?_
  refine z_istore_1 rfl dX12_clear_4 ?_
  refine z_aload_0 dX12_clear_5 ?_
  refine z_iconst dX12_clear_6 (by decide) ?_
  refine z_putI 9 rfl f_X12_154 p_12_9 zl_393 rfl rfl dX12_clear_7 ?_
  refine z_iload_1 dX12_clear_10 ?_
  exact z_iret dX12_clear_11 (⟨rfl, rfl⟩)
set_option maxRecDepth 100000 in
set_option maxHeartbeats 4000000 in
theorem k_X11_type {l : Launch} {E : zE} {μ : zM} {v n : Int} (hm : zXpre μ) (h0 : 0 ≤ μ 47 0) (h1 : μ 47 0 ≤ 300) : Ct l E yX11_type cX11_type 4 (some .int) ({ frames := 3, cells := 0, slots := 0, locals := 66 }) [zR 0, zL v, zI n] μ (fun r ν => (¬ (1 ≤ n ∧ n ≤ 8) ∧ r = some (zI (-2)) ∧ ν = zCt μ (-2)) ∨ ((1 ≤ n ∧ n ≤ 8) ∧ 300 < μ 47 0 + n ∧ r = some (zI (-4)) ∧ ν = zCt μ (-4)) ∨ ((1 ≤ n ∧ n ≤ 8) ∧ μ 47 0 + n ≤ 300 ∧ r = some (zI (μ 47 0 + n)) ∧ (ν 47 0 = μ 47 0 + n ∧ (∀ k, k ≠ 0 → ν 47 k = μ 47 k) ∧ zTx (μ 47 0) n (fun j => zbX v (n - 1 - j)) (μ 110) (ν 110) ∧ ∀ a, a ≠ 47 → a ≠ 110 → ν a = μ a))) := by
  refine Ct.of RX11 [zR 0, zL v, zU, zI n] (by decide +kernel) rfl ⟨rfl, rfl⟩ rfl (Nat.le_of_ble_eq_true rfl) (fun X hX hc0 ha0 => ?_)
  subst hX
  refine z_aload_0 dX11_type_0 ?_
  refine z_aload_0 dX11_type_1 ?_
  refine z_getF 47 47 rfl f_X11_30 zl_0 rfl rfl dX11_type_2 ?_
  refine z_lload_1 dX11_type_5 ?_
  refine z_iload_3 dX11_type_6 ?_
  refine z_callV2 (k_X10_append h0 h1) m_X10_append zl_47 l_X11_132 (Nat.le_of_ble_eq_true rfl) ⟨Nat.le_of_ble_eq_true rfl, Nat.le_of_ble_eq_true rfl⟩ ⟨rfl, rfl⟩ dX11_type_7 (fun r μ1 hp => ?_)
  rcases hp with ⟨q, rfl, e⟩ | ⟨q, q2, rfl, e⟩ | ⟨q, q2, rfl, e⟩
  · refine z_callV1 (k_X11_counted (by subst e; exact hm.2)) m_X11_counted zl_0 l_X11_86 (Nat.le_of_ble_eq_true rfl) ⟨Nat.le_of_ble_eq_true rfl, Nat.le_of_ble_eq_true rfl⟩ ⟨rfl, rfl⟩ dX11_type_10 (fun r μ2 hp => ?_)
    obtain ⟨rfl, hv⟩ := hp
    subst hv
    exact z_iret dX11_type_13 (by subst e; exact Or.inl ⟨q, rfl, rfl⟩)
  · refine z_callV1 (k_X11_counted (by subst e; exact hm.2)) m_X11_counted zl_0 l_X11_86 (Nat.le_of_ble_eq_true rfl) ⟨Nat.le_of_ble_eq_true rfl, Nat.le_of_ble_eq_true rfl⟩ ⟨rfl, rfl⟩ dX11_type_10 (fun r μ2 hp => ?_)
    obtain ⟨rfl, hv⟩ := hp
    subst hv
    exact z_iret dX11_type_13 (by subst e; exact Or.inr (Or.inl ⟨q, q2, rfl, rfl⟩))
  · refine z_callV1 (k_X11_counted (by rw [e.2.2.2 348 (by decide) (by decide)]; exact hm.2)) m_X11_counted zl_0 l_X11_86 (Nat.le_of_ble_eq_true rfl) ⟨Nat.le_of_ble_eq_true rfl, Nat.le_of_ble_eq_true rfl⟩ ⟨rfl, rfl⟩ dX11_type_10 (fun r μ2 hp => ?_)
    obtain ⟨rfl, hv⟩ := hp
    subst hv
    exact z_iret dX11_type_13 (by unfold zCt; rw [zif_f (by omega)]; exact Or.inr (Or.inr ⟨q, q2, rfl, e⟩))
set_option maxRecDepth 100000 in
set_option maxHeartbeats 4000000 in
theorem k_X12_type {l : Launch} {E : zE} {μ : zM} (hm : zMpre μ) {v n : Int} (h0 : 0 ≤ μ 393 9) (h1 : μ 393 9 ≤ 300) : Ct l E yX12_type cX12_type 5 (some .int) ({ frames := 2, cells := 0, slots := 0, locals := 42 }) [zR 393, zL v, zI n] μ (fun r ν => (¬ (1 ≤ n ∧ n ≤ 8) ∧ r = some (zI (-2)) ∧ ν = zup μ 398 0 (μ 398 0 + zq1 μ)) ∨ ((1 ≤ n ∧ n ≤ 8) ∧ 300 < μ 393 9 + n ∧ r = some (zI (-4)) ∧ ν = zup μ 398 2 (μ 398 2 + zq1 μ)) ∨ ((1 ≤ n ∧ n ≤ 8) ∧ μ 393 9 + n ≤ 300 ∧ r = some (zI (μ 393 9 + n)) ∧ (ν 393 9 = μ 393 9 + n ∧ (∀ k, k ≠ 9 → ν 393 k = μ 393 k) ∧ zTx (μ 393 9) n (fun j => zbM v (n - 1 - j)) (μ 399) (ν 399) ∧ ∀ a, a ≠ 393 → a ≠ 399 → ν a = μ a))) := by
  refine Ct.of RX12 [zR 393, zL v, zU, zI n, zU] (by decide +kernel) rfl ⟨rfl, rfl⟩ rfl (Nat.le_of_ble_eq_true rfl) (fun X hX hc0 ha0 => ?_)
  subst hX
  have L4 : (1 ≤ n ∧ n ≤ 8) → μ 393 9 + n ≤ 300 → MW X E cX12_type RX12 ({ frames := 2, cells := 0, slots := 0, locals := 42 }) (some .int) (fun r ν => (¬ (1 ≤ n ∧ n ≤ 8) ∧ r = some (zI (-2)) ∧ ν = zup μ 398 0 (μ 398 0 + zq1 μ)) ∨ ((1 ≤ n ∧ n ≤ 8) ∧ 300 < μ 393 9 + n ∧ r = some (zI (-4)) ∧ ν = zup μ 398 2 (μ 398 2 + zq1 μ)) ∨ ((1 ≤ n ∧ n ≤ 8) ∧ μ 393 9 + n ≤ 300 ∧ r = some (zI (μ 393 9 + n)) ∧ (ν 393 9 = μ 393 9 + n ∧ (∀ k, k ≠ 9 → ν 393 k = μ 393 k) ∧ zTx (μ 393 9) n (fun j => zbM v (n - 1 - j)) (μ 399) (ν 399) ∧ ∀ a, a ≠ 393 → a ≠ 399 → ν a = μ a))) 39 [zR 393, zL v, zU, zI n, zI (n - 1)] [] μ := fun hn hle => by
    have L3 : ∀ (k : Nat) (ξ : zM) (k9 : Int), -1 ≤ k9 → k9 ≤ n - 1 → ξ 393 9 = μ 393 9 + (n - 1 - k9) → (∀ k, k ≠ 9 → ξ 393 k = μ 393 k) → zTx (μ 393 9) (n - 1 - k9) (fun j => zbM v (n - 1 - j)) (μ 399) (ξ 399) → (∀ a, a ≠ 393 → a ≠ 399 → ξ a = μ a) → k9 + 1 < k → MW X E cX12_type RX12 ({ frames := 2, cells := 0, slots := 0, locals := 42 }) (some .int) (fun r ν => (¬ (1 ≤ n ∧ n ≤ 8) ∧ r = some (zI (-2)) ∧ ν = zup μ 398 0 (μ 398 0 + zq1 μ)) ∨ ((1 ≤ n ∧ n ≤ 8) ∧ 300 < μ 393 9 + n ∧ r = some (zI (-4)) ∧ ν = zup μ 398 2 (μ 398 2 + zq1 μ)) ∨ ((1 ≤ n ∧ n ≤ 8) ∧ μ 393 9 + n ≤ 300 ∧ r = some (zI (μ 393 9 + n)) ∧ (ν 393 9 = μ 393 9 + n ∧ (∀ k, k ≠ 9 → ν 393 k = μ 393 k) ∧ zTx (μ 393 9) n (fun j => zbM v (n - 1 - j)) (μ 399) (ν 399) ∧ ∀ a, a ≠ 393 → a ≠ 399 → ν a = μ a))) 39 [zR 393, zL v, zU, zI n, zI k9] [] ξ := by
      intro k
      induction k with
      | zero => intro ξ k9 h1 h2 ht hk9 htx hfr h3; omega
      | succ k ih =>
        intro ξ k9 h1 h2 ht hk9 htx hfr h3
        refine z_iload_4 dX12_type_39 ?_
        refine z_iflt (tgt := 81) dX12_type_41 (by decide) (fun h_41 => ?_) (fun h_41 => ?_)
        · refine z_aload_0 dX12_type_81 ?_
          refine z_getI 9 rfl f_X12_154 zl_393 rfl dX12_type_82 ?_
          exact z_iret dX12_type_85 (by have e : n - 1 - k9 = n := (by omega); rw [e] at ht htx; exact Or.inr (Or.inr ⟨hn, hle, by rw [ht], ht, hk9, htx, hfr⟩))
        · refine z_aload_0 dX12_type_44 ?_
          refine z_getF 399 6 rfl f_X12_26 zl_393 rfl rfl dX12_type_45 ?_
          refine z_aload_0 dX12_type_48 ?_
          refine z_getI 9 rfl f_X12_154 zl_393 rfl dX12_type_49 ?_
          refine z_lload_1 dX12_type_52 ?_
          refine z_bipush dX12_type_53 (by decide) ?_
          refine z_iload_4 dX12_type_55 ?_
          refine z_imul dX12_type_57 (by omega) ?_
          refine z_lshr dX12_type_58 ?_
          refine z_ldc2 (n := 255) k_X12_157 dX12_type_59 (by decide +kernel) ?_
          refine z_land dX12_type_62 ?_
          refine z_l2i dX12_type_63 ?_
          refine z_iast zl_399 (by omega) (by omega) dX12_type_64 ?_
          refine z_aload_0 dX12_type_65 ?_
          refine z_dup dX12_type_66 rfl ?_
          refine z_getI 9 rfl f_X12_154 zl_393 rfl dX12_type_67 ?_
          refine z_iconst dX12_type_70 (by decide) ?_
          refine z_iadd dX12_type_71 (by rw [zup_id (by decide)]; omega) ?_
          refine z_putI 9 rfl f_X12_154 p_12_9 zl_393 rfl rfl dX12_type_72 ?_
          refine z_iinc_4 rfl dX12_type_75 (by omega) ?_
          refine z_goto (tgt := 39) dX12_type_78 (by decide) ?_
          refine z_eqs (ih _ (k9 - 1) (by omega) (by omega) (by rw [zup_eq, zup_id (by decide), ht]; omega) (fun k hk => by rw [zup_ne (Or.inr hk), zup_id (by decide)]; exact hk9 k hk) (by rw [zup_row (by decide), zup_fu, ht, show n - 1 - (k9 - 1) = n - 1 - k9 + 1 by omega]; exact zTx_s (by omega) htx (by rw [show n - 1 - (n - 1 - k9) = k9 by omega]; rfl)) (fun a h1 h2 => by rw [zup_row h1, zup_row h2]; exact hfr a h1 h2) (by omega)) rfl (by rw [show k9 + -1 = k9 - 1 by omega]) rfl rfl
    exact L3 10 μ (n - 1) (by omega) (by omega) (by omega) (fun _ _ => rfl) (by rw [show n - 1 - (n - 1) = 0 by omega]; exact zTx_0) (fun _ _ _ => rfl) (by omega)
  refine z_iload_3 dX12_type_0 ?_
  refine z_i2l dX12_type_1 ?_
  refine z_lconst1 dX12_type_2 ?_
  refine z_ldc2 (n := 8) k_X12_152 dX12_type_3 (by decide +kernel) ?_
  refine z_callS3 (k_X12_in) m_X12_in l_X12_106 (Nat.le_of_ble_eq_true rfl) ⟨Nat.le_of_ble_eq_true rfl, Nat.le_of_ble_eq_true rfl⟩ ⟨rfl, rfl⟩ dX12_type_6 (fun r μ1 hp => ?_)
  obtain ⟨rfl, hv⟩ := hp
  replace hv := hv.symm
  subst hv
  refine z_ifne (tgt := 17) dX12_type_9 (by decide) (fun h_9 => ?_) (fun h_9 => ?_)
  · replace h_9 := zb_n.mp h_9
    refine z_aload_0 dX12_type_17 ?_
    refine z_getI 9 rfl f_X12_154 zl_393 rfl dX12_type_18 ?_
    refine z_iload_3 dX12_type_21 ?_
    refine z_iadd dX12_type_22 (by omega) ?_
    refine z_sipush dX12_type_23 (by decide) ?_
    refine z_icmple (tgt := 34) dX12_type_26 (by decide) (fun h_26 => ?_) (fun h_26 => ?_)
    · refine z_iload_3 dX12_type_34 ?_
      refine z_iconst dX12_type_35 (by decide) ?_
      refine z_isub dX12_type_36 (by omega) ?_
      refine z_istore_4 rfl dX12_type_37 ?_
      exact L4 h_9 (by omega)
    · refine z_aload_0 dX12_type_29 ?_
      refine z_callV0 (k_X12_full hm) m_X12_full zl_393 l_X12_134 (Nat.le_of_ble_eq_true rfl) ⟨Nat.le_of_ble_eq_true rfl, Nat.le_of_ble_eq_true rfl⟩ ⟨rfl, rfl⟩ dX12_type_30 (fun r μ1 hp => ?_)
      obtain ⟨rfl, hv⟩ := hp
      replace hv := hv.symm
      subst hv
      exact z_iret dX12_type_33 (Or.inr (Or.inl ⟨h_9, by omega, rfl, rfl⟩))
  · replace h_9 := zb_0.mp h_9
    refine z_aload_0 dX12_type_12 ?_
    refine z_callV0 (k_X12_bad hm) m_X12_bad zl_393 l_X12_117 (Nat.le_of_ble_eq_true rfl) ⟨Nat.le_of_ble_eq_true rfl, Nat.le_of_ble_eq_true rfl⟩ ⟨rfl, rfl⟩ dX12_type_13 (fun r μ1 hp => ?_)
    obtain ⟨rfl, hv⟩ := hp
    replace hv := hv.symm
    subst hv
    exact z_iret dX12_type_16 (Or.inl ⟨h_9, rfl, rfl⟩)
