theorem zby_dd {t : Int → Int} {n i : Int} (h : zpD (zby t n i)) : i < n ∧ zby t n i = t i ∧ 48 ≤ t i ∧ t i ≤ 57 := by
  unfold zby zpD at *
  by_cases q : i < n
  · rw [if_pos q] at h ⊢; exact ⟨q, rfl, h⟩
  · rw [if_neg q] at h; omega
theorem zby_ll {t : Int → Int} {n i : Int} (h : zpL (zby t n i)) : i < n ∧ zby t n i = t i ∧ 97 ≤ t i ∧ t i ≤ 122 := by
  unfold zby zpL at *
  by_cases q : i < n
  · rw [if_pos q] at h ⊢; exact ⟨q, rfl, h⟩
  · rw [if_neg q] at h; omega
theorem zcd_b {t : Int → Int} {a : Int} : ∀ (k : Nat), (∀ j : Nat, j < k → 1 ≤ t (a + (j : Int)) - 96 ∧ t (a + (j : Int)) - 96 ≤ 26) → 0 ≤ zcd t a k ∧ zcd t a k < zpo 32 k
  | 0, _ => ⟨Int.le_refl _, by show (0 : Int) < 1; decide⟩
  | k + 1, h => by
    have ih := zcd_b k (fun j hj => h j (by omega))
    have := h k (by omega)
    rw [zcd_s, zpo_s]
    omega
theorem zpo_32 : ∀ k : Nat, k < 9 → zpo 32 k ≤ 1099511627776 := by decide
/-- the token that begins at s: what it is, its value, where it ends -/
def zTo (t : Int → Int) (n s tok v e : Int) : Prop := (n ≤ s ∧ tok = 0 ∧ e = s) ∨ (s < n ∧ zpL (t s) ∧ e = zen zpL t n s ∧ tok = zTk (zwv (zcd t s (e - s).toNat))) ∨ (s < n ∧ zpD (t s) ∧ e = zen zpD t n s ∧ ((e - s ≤ 2 ∧ tok = 2 ∧ v = znv t s e) ∨ (2 < e - s ∧ tok = 1))) ∨ (s < n ∧ ¬ zpL (t s) ∧ ¬ zpD (t s) ∧ e = s + 1 ∧ ((t s = 59 ∧ tok = 3) ∨ (t s ≠ 59 ∧ tok = 1)))
theorem zby_bb {t : Int → Int} {n i : Int} (h : zpB (zby t n i)) : i < n ∧ zby t n i = t i ∧ t i = 32 := by
  unfold zby zpB at *
  by_cases q : i < n
  · rw [if_pos q] at h ⊢; exact ⟨q, rfl, h⟩
  · rw [if_neg q] at h; omega
set_option maxRecDepth 100000 in
set_option maxHeartbeats 4000000 in
theorem k_X12_scans {l : Launch} {E : zE} {μ : zM} (hn : 0 ≤ μ 393 9 ∧ μ 393 9 ≤ 300) (ha : 0 ≤ μ 393 10 ∧ μ 393 10 ≤ μ 393 9) : Ct l E yX12_scans cX12_scans 3 none ({ frames := 2, cells := 0, slots := 0, locals := 47 }) [zR 393] μ (fun r ν => r = none ∧ ν 393 11 = (zen zpB (μ 399) (μ 393 9) (μ 393 10)) ∧ zTo (μ 399) (μ 393 9) (zen zpB (μ 399) (μ 393 9) (μ 393 10)) (ν 393 12) (ν 393 13) (ν 393 10) ∧ (∀ k, k ≠ 10 → k ≠ 11 → k ≠ 12 → k ≠ 13 → ν 393 k = μ 393 k) ∧ (∀ x, x ≠ 393 → ν x = μ x)) := by
  refine Ct.of RX12 [zR 393, zU, zU] (by decide +kernel) rfl ⟨rfl, rfl⟩ rfl (Nat.le_of_ble_eq_true rfl) (fun X hX hc0 ha0 => ?_)
  subst hX
  obtain ⟨s, hs⟩ : ∃ s, s = (zen zpB (μ 399) (μ 393 9) (μ 393 10)) := ⟨_, rfl⟩
  have sb := zen_b (t := μ 399) zpB_n hn.2 ha.1 ha.2
  rw [← hs] at sb
  have J60 : s < μ 393 9 → zpL (μ 399 s) → ∀ ξ : zM, ξ 393 10 = s → ξ 393 11 = s → (∀ k, k ≠ 10 → k ≠ 11 → k ≠ 12 → k ≠ 13 → ξ 393 k = μ 393 k) → (∀ x, x ≠ 393 → ξ x = μ x) → MW X E cX12_scans RX12 ({ frames := 2, cells := 0, slots := 0, locals := 47 }) none (fun r ν => r = none ∧ ν 393 11 = (zen zpB (μ 399) (μ 393 9) (μ 393 10)) ∧ zTo (μ 399) (μ 393 9) (zen zpB (μ 399) (μ 393 9) (μ 393 10)) (ν 393 12) (ν 393 13) (ν 393 10) ∧ (∀ k, k ≠ 10 → k ≠ 11 → k ≠ 12 → k ≠ 13 → ν 393 k = μ 393 k) ∧ (∀ x, x ≠ 393 → ν x = μ x)) 60 [zR 393, zU, zU] [] ξ := by
    intro hsn hsl ξ hat hst hk hx
    have J127 : ∀ (k : Nat) (v : Int) (ξ : zM), ξ 393 10 = s + (k : Int) → ξ 393 11 = s → v = (if k ≤ 8 then zcd (μ 399) s k else 0) → (∀ j : Nat, j < k → zpL (zby (μ 399) (μ 393 9) (s + (j : Int)))) → ¬ zpL (zby (μ 399) (μ 393 9) (s + (k : Int))) → (∀ k, k ≠ 10 → k ≠ 11 → k ≠ 12 → k ≠ 13 → ξ 393 k = μ 393 k) → (∀ x, x ≠ 393 → ξ x = μ x) → MW X E cX12_scans RX12 ({ frames := 2, cells := 0, slots := 0, locals := 47 }) none (fun r ν => r = none ∧ ν 393 11 = (zen zpB (μ 399) (μ 393 9) (μ 393 10)) ∧ zTo (μ 399) (μ 393 9) (zen zpB (μ 399) (μ 393 9) (μ 393 10)) (ν 393 12) (ν 393 13) (ν 393 10) ∧ (∀ k, k ≠ 10 → k ≠ 11 → k ≠ 12 → k ≠ 13 → ν 393 k = μ 393 k) ∧ (∀ x, x ≠ 393 → ν x = μ x)) 127 [zR 393, zL v, zU] [] ξ := by
      intro k v ξ hat hst hv hlb hnl hk hx
      have hkb : s + (k : Int) ≤ 300 := by
        by_cases q : k = 0
        · omega
        · have := (zby_ll (hlb (k - 1) (by omega))).1; omega
      have hend : ξ 393 10 = zen zpL (μ 399) (μ 393 9) s := by
        rw [hat]
        exact zen_e zpL_n hn.2 (by omega) ⟨by omega, fun j j0 j1 => by have := hlb (j - s).toNat (by omega); rw [show s + (((j - s).toNat : Nat) : Int) = j by omega] at this; exact this, hnl⟩
      have hlet : ∀ j : Nat, j < k → 1 ≤ μ 399 (s + (j : Int)) - 96 ∧ μ 399 (s + (j : Int)) - 96 ≤ 26 := fun j hj => by
        have := (zby_ll (hlb j hj)).2.2
        omega
      refine z_aload_0 dX12_scans_127 ?_
      refine z_aload_0 dX12_scans_128 ?_
      refine z_getI 10 rfl f_X12_159 zl_393 rfl dX12_scans_129 ?_
      rw [hat]
      refine z_aload_0 dX12_scans_132 ?_
      refine z_getI 11 rfl f_X12_190 zl_393 rfl dX12_scans_133 ?_
      rw [hst]
      refine z_isub dX12_scans_136 (by omega) ?_
      refine z_bipush dX12_scans_137 (by decide) ?_
      refine z_icmple (tgt := 146) dX12_scans_139 (by decide) (fun h_139 => ?_) (fun h_139 => ?_)
      · refine z_lload_1 dX12_scans_146 ?_
        refine z_callS1 (k_X12_wordOf) m_X12_wordOf l_X12_200 (Nat.le_of_ble_eq_true rfl) ⟨Nat.le_of_ble_eq_true rfl, Nat.le_of_ble_eq_true rfl⟩ ⟨rfl, rfl⟩ dX12_scans_147 (fun r μ1 hp => ?_)
        obtain ⟨rfl, hv⟩ := hp
        replace hv := hv.symm
        subst hv
        refine z_putI 12 rfl f_X12_193 p_12_12 zl_393 rfl rfl dX12_scans_150 ?_
        exact z_vret dX12_scans_153 (⟨rfl, by rw [← hs]; (repeat (first | rw [zup_eq] | rw [zup_row (by omega)] | rw [zup_ne (Or.inr (by omega))])); exact hst, by
            rw [← hs]
            refine Or.inr (Or.inl ⟨by omega, hsl, ?_, ?_⟩)
            · rw [zup_ne (Or.inr (by decide))]; exact hend
            · rw [zup_eq, zup_ne (Or.inr (by decide)), hat, show (s + (k : Int) - s).toNat = k by omega]
              (rw [hv, if_pos (by omega)]), (fun k k1 k2 k3 k4 => by (repeat (first | rw [zup_eq] | rw [zup_row (by omega)] | rw [zup_ne (Or.inr (by omega))])); exact hk k k1 k2 k3 k4), (fun x x1 => by (repeat (first | rw [zup_eq] | rw [zup_row (by omega)] | rw [zup_ne (Or.inr (by omega))])); exact hx x x1)⟩)
      · refine z_iconst dX12_scans_142 (by decide) ?_
        refine z_goto (tgt := 150) dX12_scans_143 (by decide) ?_
        refine z_putI 12 rfl f_X12_193 p_12_12 zl_393 rfl rfl dX12_scans_150 ?_
        exact z_vret dX12_scans_153 (⟨rfl, by rw [← hs]; (repeat (first | rw [zup_eq] | rw [zup_row (by omega)] | rw [zup_ne (Or.inr (by omega))])); exact hst, by
            rw [← hs]
            refine Or.inr (Or.inl ⟨by omega, hsl, ?_, ?_⟩)
            · rw [zup_ne (Or.inr (by decide))]; exact hend
            · rw [zup_eq, zup_ne (Or.inr (by decide)), hat, show (s + (k : Int) - s).toNat = k by omega]
              (rw [zwv_8 (by omega) hlet]; rfl), (fun k k1 k2 k3 k4 => by (repeat (first | rw [zup_eq] | rw [zup_row (by omega)] | rw [zup_ne (Or.inr (by omega))])); exact hk k k1 k2 k3 k4), (fun x x1 => by (repeat (first | rw [zup_eq] | rw [zup_row (by omega)] | rw [zup_ne (Or.inr (by omega))])); exact hx x x1)⟩)
    have L62 : ∀ (m : Nat) (k : Nat) (v : Int) (ξ : zM), s + (k : Int) ≤ 300 → ξ 393 10 = s + (k : Int) → ξ 393 11 = s → v = (if k ≤ 8 then zcd (μ 399) s k else 0) → (∀ j : Nat, j < k → zpL (zby (μ 399) (μ 393 9) (s + (j : Int)))) → (∀ k, k ≠ 10 → k ≠ 11 → k ≠ 12 → k ≠ 13 → ξ 393 k = μ 393 k) → (∀ x, x ≠ 393 → ξ x = μ x) → 300 - (s + (k : Int)) < m → MW X E cX12_scans RX12 ({ frames := 2, cells := 0, slots := 0, locals := 47 }) none (fun r ν => r = none ∧ ν 393 11 = (zen zpB (μ 399) (μ 393 9) (μ 393 10)) ∧ zTo (μ 399) (μ 393 9) (zen zpB (μ 399) (μ 393 9) (μ 393 10)) (ν 393 12) (ν 393 13) (ν 393 10) ∧ (∀ k, k ≠ 10 → k ≠ 11 → k ≠ 12 → k ≠ 13 → ν 393 k = μ 393 k) ∧ (∀ x, x ≠ 393 → ν x = μ x)) 62 [zR 393, zL v, zU] [] ξ := by
      intro m
      induction m with
      | zero => intro k v ξ hkn hat hst hv hlb hk hx h3; omega
      | succ m ih =>
        intro k v ξ hkn hat hst hv hlb hk hx h3
        have ea : ξ 393 10 = s + (k : Int) := hat
        have e9 : ξ 393 9 = μ 393 9 := hk 9 (by decide) (by decide) (by decide) (by decide)
        have e399 : ξ 399 = μ 399 := hx 399 (by decide)
        refine z_aload_0 dX12_scans_62 ?_
        refine z_bipush dX12_scans_63 (by decide) ?_
        refine z_bipush dX12_scans_65 (by decide) ?_
        refine z_callV2 (k_X12_isAt (by rw [e9]; exact hn) (by omega) (by decide)) m_X12_isAt zl_393 l_X12_186 (Nat.le_of_ble_eq_true rfl) ⟨Nat.le_of_ble_eq_true rfl, Nat.le_of_ble_eq_true rfl⟩ ⟨rfl, rfl⟩ dX12_scans_67 (fun r μ1 hp => ?_)
        obtain ⟨rfl, hv⟩ := hp
        replace hv := hv.symm
        subst hv
        rw [e9, e399, ea]
        refine z_ifeq (tgt := 127) dX12_scans_70 (by decide) (fun h_70 => ?_) (fun h_70 => ?_)
        · replace h_70 := zb_0.mp h_70
          replace h_70 : ¬ zpL (zby (μ 399) (μ 393 9) (s + (k : Int))) := h_70
          exact J127 k v ξ hat hst hv hlb h_70 hk hx
        · replace h_70 := zb_n.mp h_70
          replace h_70 : zpL (zby (μ 399) (μ 393 9) (s + (k : Int))) := h_70
          obtain ⟨l1, l2, l3, l4⟩ := zby_ll h_70
          have hlet : ∀ j : Nat, j < k → 1 ≤ μ 399 (s + (j : Int)) - 96 ∧ μ 399 (s + (j : Int)) - 96 ≤ 26 := fun j hj => by
            have := (zby_ll (hlb j hj)).2.2
            omega
          refine z_aload_0 dX12_scans_73 ?_
          refine z_getI 10 rfl f_X12_159 zl_393 rfl dX12_scans_74 ?_
          rw [ea]
          refine z_aload_0 dX12_scans_77 ?_
          refine z_getI 11 rfl f_X12_190 zl_393 rfl dX12_scans_78 ?_
          rw [hst]
          refine z_isub dX12_scans_81 (by omega) ?_
          refine z_bipush dX12_scans_82 (by decide) ?_
          refine z_icmple (tgt := 91) dX12_scans_84 (by decide) (fun h_84 => ?_) (fun h_84 => ?_)
          · refine z_ldc2 (n := 32) k_X12_196 dX12_scans_91 (by decide +kernel) ?_
            refine z_lload_1 dX12_scans_94 ?_
            refine z_lmul dX12_scans_95 ?_
            refine z_aload_0 dX12_scans_96 ?_
            refine z_getF 399 6 rfl f_X12_26 zl_393 rfl rfl dX12_scans_97 ?_
            refine z_aload_0 dX12_scans_100 ?_
            refine z_getI 10 rfl f_X12_159 zl_393 rfl dX12_scans_101 ?_
            rw [ea]
            refine z_iald zl_399 (by omega) (by omega) dX12_scans_104 ?_
            rw [e399]
            refine z_i2l dX12_scans_105 ?_
            refine z_ladd dX12_scans_106 ?_
            refine z_ldc2 (n := 97) k_X12_198 dX12_scans_107 (by decide +kernel) ?_
            refine z_lsub dX12_scans_110 ?_
            refine z_lconst1 dX12_scans_111 ?_
            refine z_ladd dX12_scans_112 ?_
            first | rw [show zw64 (zw64 (zw64 (zw64 (32 * v) + μ 399 (s + (k : Int))) - 97) + 1) = zcd (μ 399) s (k + 1) by have vb := zcd_b k hlet; have vp := zpo_32 k (by omega); rw [if_pos (by omega)] at hv; rw [zw64_i (z := 32 * v) ⟨by omega, by omega⟩, zw64_i (z := 32 * v + μ 399 (s + (k : Int))) ⟨by omega, by omega⟩, zw64_i (z := 32 * v + μ 399 (s + (k : Int)) - 97) ⟨by omega, by omega⟩, zw64_i (z := 32 * v + μ 399 (s + (k : Int)) - 97 + 1) ⟨by omega, by omega⟩, zcd_s, hv]; omega] | skip
            refine z_lstore_1 rfl dX12_scans_113 ?_
            refine z_aload_0 dX12_scans_114 ?_
            refine z_dup dX12_scans_115 rfl ?_
            refine z_getI 10 rfl f_X12_159 zl_393 rfl dX12_scans_116 ?_
            rw [ea]
            refine z_iconst dX12_scans_119 (by decide) ?_
            refine z_iadd dX12_scans_120 (by omega) ?_
            refine z_putI 10 rfl f_X12_159 p_12_10 zl_393 rfl rfl dX12_scans_121 ?_
            refine z_goto (tgt := 62) dX12_scans_124 (by decide) ?_
            refine ih (k + 1) _ _ (by omega) (by rw [zup_eq]; omega) (by rw [zup_ne (Or.inr (by decide))]; exact hst) ?_ (fun j hj => by by_cases q : j = k; rw [q]; exact h_70; exact hlb j (by omega)) (fun k k1 k2 k3 k4 => by (repeat (first | rw [zup_eq] | rw [zup_row (by omega)] | rw [zup_ne (Or.inr (by omega))])); exact hk k k1 k2 k3 k4) (fun x x1 => by (repeat (first | rw [zup_eq] | rw [zup_row (by omega)] | rw [zup_ne (Or.inr (by omega))])); exact hx x x1) (by omega)
            rw [if_pos (by omega)]
          · refine z_lconst0 dX12_scans_87 ?_
            refine z_goto (tgt := 113) dX12_scans_88 (by decide) ?_
            first | rw [show zw64 (zw64 (zw64 (zw64 (32 * v) + μ 399 (s + (k : Int))) - 97) + 1) = zcd (μ 399) s (k + 1) by have vb := zcd_b k hlet; have vp := zpo_32 k (by omega); rw [if_pos (by omega)] at hv; rw [zw64_i (z := 32 * v) ⟨by omega, by omega⟩, zw64_i (z := 32 * v + μ 399 (s + (k : Int))) ⟨by omega, by omega⟩, zw64_i (z := 32 * v + μ 399 (s + (k : Int)) - 97) ⟨by omega, by omega⟩, zw64_i (z := 32 * v + μ 399 (s + (k : Int)) - 97 + 1) ⟨by omega, by omega⟩, zcd_s, hv]; omega] | skip
            refine z_lstore_1 rfl dX12_scans_113 ?_
            refine z_aload_0 dX12_scans_114 ?_
            refine z_dup dX12_scans_115 rfl ?_
            refine z_getI 10 rfl f_X12_159 zl_393 rfl dX12_scans_116 ?_
            rw [ea]
            refine z_iconst dX12_scans_119 (by decide) ?_
            refine z_iadd dX12_scans_120 (by omega) ?_
            refine z_putI 10 rfl f_X12_159 p_12_10 zl_393 rfl rfl dX12_scans_121 ?_
            refine z_goto (tgt := 62) dX12_scans_124 (by decide) ?_
            refine ih (k + 1) _ _ (by omega) (by rw [zup_eq]; omega) (by rw [zup_ne (Or.inr (by decide))]; exact hst) ?_ (fun j hj => by by_cases q : j = k; rw [q]; exact h_70; exact hlb j (by omega)) (fun k k1 k2 k3 k4 => by (repeat (first | rw [zup_eq] | rw [zup_row (by omega)] | rw [zup_ne (Or.inr (by omega))])); exact hk k k1 k2 k3 k4) (fun x x1 => by (repeat (first | rw [zup_eq] | rw [zup_row (by omega)] | rw [zup_ne (Or.inr (by omega))])); exact hx x x1) (by omega)
            rw [if_neg (by omega)]
    refine z_lconst0 dX12_scans_60 ?_
    refine z_lstore_1 rfl dX12_scans_61 ?_
    exact L62 400 0 0 ξ (by omega) (by omega) hst (by rw [if_pos (by decide)]; rfl) (fun j hj => by omega) hk hx (by omega)
  have J165 : s < μ 393 9 → zpD (μ 399 s) → ∀ ξ : zM, ξ 393 10 = s → ξ 393 11 = s → (∀ k, k ≠ 10 → k ≠ 11 → k ≠ 12 → k ≠ 13 → ξ 393 k = μ 393 k) → (∀ x, x ≠ 393 → ξ x = μ x) → MW X E cX12_scans RX12 ({ frames := 2, cells := 0, slots := 0, locals := 47 }) none (fun r ν => r = none ∧ ν 393 11 = (zen zpB (μ 399) (μ 393 9) (μ 393 10)) ∧ zTo (μ 399) (μ 393 9) (zen zpB (μ 399) (μ 393 9) (μ 393 10)) (ν 393 12) (ν 393 13) (ν 393 10) ∧ (∀ k, k ≠ 10 → k ≠ 11 → k ≠ 12 → k ≠ 13 → ν 393 k = μ 393 k) ∧ (∀ x, x ≠ 393 → ν x = μ x)) 165 [zR 393, zU, zU] [] ξ := by
    intro hsn hsl ξ hat hst hk hx
    have J238 : ∀ (k : Nat) (ξ : zM), ξ 393 10 = s + (k : Int) → ξ 393 11 = s → ξ 393 13 = (if k = 0 then 0 else if k = 1 then μ 399 s - 48 else 10 * (μ 399 s - 48) + (μ 399 (s + 1) - 48)) → (∀ j : Nat, j < k → zpD (zby (μ 399) (μ 393 9) (s + (j : Int)))) → ¬ zpD (zby (μ 399) (μ 393 9) (s + (k : Int))) → (∀ k, k ≠ 10 → k ≠ 11 → k ≠ 12 → k ≠ 13 → ξ 393 k = μ 393 k) → (∀ x, x ≠ 393 → ξ x = μ x) → MW X E cX12_scans RX12 ({ frames := 2, cells := 0, slots := 0, locals := 47 }) none (fun r ν => r = none ∧ ν 393 11 = (zen zpB (μ 399) (μ 393 9) (μ 393 10)) ∧ zTo (μ 399) (μ 393 9) (zen zpB (μ 399) (μ 393 9) (μ 393 10)) (ν 393 12) (ν 393 13) (ν 393 10) ∧ (∀ k, k ≠ 10 → k ≠ 11 → k ≠ 12 → k ≠ 13 → ν 393 k = μ 393 k) ∧ (∀ x, x ≠ 393 → ν x = μ x)) 238 [zR 393, zU, zU] [] ξ := by
      intro k ξ hat hst hv hlb hnl hk hx
      have hkb : s + (k : Int) ≤ 300 := by
        by_cases q : k = 0
        · omega
        · have := (zby_dd (hlb (k - 1) (by omega))).1; omega
      have hend : ξ 393 10 = zen zpD (μ 399) (μ 393 9) s := by
        rw [hat]
        exact zen_e zpD_n hn.2 (by omega) ⟨by omega, fun j j0 j1 => by have := hlb (j - s).toNat (by omega); rw [show s + (((j - s).toNat : Nat) : Int) = j by omega] at this; exact this, hnl⟩
      have hk1 : 1 ≤ k := by
        by_cases q : k = 0
        · subst q
          rw [show s + ((0 : Nat) : Int) = s by omega] at hnl
          unfold zby at hnl
          rw [if_pos hsn] at hnl
          exact absurd hsl hnl
        · omega
      refine z_aload_0 dX12_scans_238 ?_
      refine z_aload_0 dX12_scans_239 ?_
      refine z_getI 10 rfl f_X12_159 zl_393 rfl dX12_scans_240 ?_
      rw [hat]
      refine z_aload_0 dX12_scans_243 ?_
      refine z_getI 11 rfl f_X12_190 zl_393 rfl dX12_scans_244 ?_
      rw [hst]
      refine z_isub dX12_scans_247 (by omega) ?_
      refine z_iconst dX12_scans_248 (by decide) ?_
      refine z_icmple (tgt := 256) dX12_scans_249 (by decide) (fun h_249 => ?_) (fun h_249 => ?_)
      · refine z_iconst dX12_scans_256 (by decide) ?_
        refine z_putI 12 rfl f_X12_193 p_12_12 zl_393 rfl rfl dX12_scans_257 ?_
        exact z_vret dX12_scans_260 (⟨rfl, by rw [← hs]; (repeat (first | rw [zup_eq] | rw [zup_row (by omega)] | rw [zup_ne (Or.inr (by omega))])); exact hst, by
            rw [← hs]
            refine Or.inr (Or.inr (Or.inl ⟨by omega, hsl, ?_, ?_⟩))
            · rw [zup_ne (Or.inr (by decide))]; exact hend
            · rw [zup_eq, zup_ne (Or.inr (by decide)), zup_ne (Or.inr (by decide)), hat]
              refine Or.inl ⟨by omega, rfl, ?_⟩
              rw [hv]
              unfold znv
              rcases (by omega : k = 1 ∨ k = 2) with z | z
              · subst z; rw [if_neg (by decide), if_pos rfl, if_pos (by omega)]
              · subst z; rw [if_neg (by decide), if_neg (by decide), if_neg (by omega)], (fun k k1 k2 k3 k4 => by (repeat (first | rw [zup_eq] | rw [zup_row (by omega)] | rw [zup_ne (Or.inr (by omega))])); exact hk k k1 k2 k3 k4), (fun x x1 => by (repeat (first | rw [zup_eq] | rw [zup_row (by omega)] | rw [zup_ne (Or.inr (by omega))])); exact hx x x1)⟩)
      · refine z_iconst dX12_scans_252 (by decide) ?_
        refine z_goto (tgt := 257) dX12_scans_253 (by decide) ?_
        refine z_putI 12 rfl f_X12_193 p_12_12 zl_393 rfl rfl dX12_scans_257 ?_
        exact z_vret dX12_scans_260 (⟨rfl, by rw [← hs]; (repeat (first | rw [zup_eq] | rw [zup_row (by omega)] | rw [zup_ne (Or.inr (by omega))])); exact hst, by
            rw [← hs]
            refine Or.inr (Or.inr (Or.inl ⟨by omega, hsl, ?_, ?_⟩))
            · rw [zup_ne (Or.inr (by decide))]; exact hend
            · rw [zup_eq, zup_ne (Or.inr (by decide)), zup_ne (Or.inr (by decide)), hat]
              exact Or.inr ⟨by omega, rfl⟩, (fun k k1 k2 k3 k4 => by (repeat (first | rw [zup_eq] | rw [zup_row (by omega)] | rw [zup_ne (Or.inr (by omega))])); exact hk k k1 k2 k3 k4), (fun x x1 => by (repeat (first | rw [zup_eq] | rw [zup_row (by omega)] | rw [zup_ne (Or.inr (by omega))])); exact hx x x1)⟩)
    have L170 : ∀ (m : Nat) (k : Nat) (ξ : zM), s + (k : Int) ≤ 300 → ξ 393 10 = s + (k : Int) → ξ 393 11 = s → ξ 393 13 = (if k = 0 then 0 else if k = 1 then μ 399 s - 48 else 10 * (μ 399 s - 48) + (μ 399 (s + 1) - 48)) → (∀ j : Nat, j < k → zpD (zby (μ 399) (μ 393 9) (s + (j : Int)))) → (∀ k, k ≠ 10 → k ≠ 11 → k ≠ 12 → k ≠ 13 → ξ 393 k = μ 393 k) → (∀ x, x ≠ 393 → ξ x = μ x) → 300 - (s + (k : Int)) < m → MW X E cX12_scans RX12 ({ frames := 2, cells := 0, slots := 0, locals := 47 }) none (fun r ν => r = none ∧ ν 393 11 = (zen zpB (μ 399) (μ 393 9) (μ 393 10)) ∧ zTo (μ 399) (μ 393 9) (zen zpB (μ 399) (μ 393 9) (μ 393 10)) (ν 393 12) (ν 393 13) (ν 393 10) ∧ (∀ k, k ≠ 10 → k ≠ 11 → k ≠ 12 → k ≠ 13 → ν 393 k = μ 393 k) ∧ (∀ x, x ≠ 393 → ν x = μ x)) 170 [zR 393, zU, zU] [] ξ := by
      intro m
      induction m with
      | zero => intro k ξ hkn hat hst hv hlb hk hx h3; omega
      | succ m ih =>
        intro k ξ hkn hat hst hv hlb hk hx h3
        have ea : ξ 393 10 = s + (k : Int) := hat
        have e9 : ξ 393 9 = μ 393 9 := hk 9 (by decide) (by decide) (by decide) (by decide)
        have e399 : ξ 399 = μ 399 := hx 399 (by decide)
        refine z_aload_0 dX12_scans_170 ?_
        refine z_bipush dX12_scans_171 (by decide) ?_
        refine z_bipush dX12_scans_173 (by decide) ?_
        refine z_callV2 (k_X12_isAt (by rw [e9]; exact hn) (by omega) (by decide)) m_X12_isAt zl_393 l_X12_186 (Nat.le_of_ble_eq_true rfl) ⟨Nat.le_of_ble_eq_true rfl, Nat.le_of_ble_eq_true rfl⟩ ⟨rfl, rfl⟩ dX12_scans_175 (fun r μ1 hp => ?_)
        obtain ⟨rfl, hv⟩ := hp
        replace hv := hv.symm
        subst hv
        rw [e9, e399, ea]
        refine z_ifeq (tgt := 238) dX12_scans_178 (by decide) (fun h_178 => ?_) (fun h_178 => ?_)
        · replace h_178 := zb_0.mp h_178
          replace h_178 : ¬ zpD (zby (μ 399) (μ 393 9) (s + (k : Int))) := h_178
          exact J238 k ξ hat hst hv hlb h_178 hk hx
        · replace h_178 := zb_n.mp h_178
          replace h_178 : zpD (zby (μ 399) (μ 393 9) (s + (k : Int))) := h_178
          obtain ⟨l1, l2, l3, l4⟩ := zby_dd h_178
          have h0d : 0 < k → 48 ≤ μ 399 s ∧ μ 399 s ≤ 57 := fun q => by have := (zby_dd (hlb 0 q)).2.2; rw [show s + ((0 : Nat) : Int) = s by omega] at this; exact this
          have hvb : k < 2 → 0 ≤ ξ 393 13 ∧ ξ 393 13 ≤ 100 := fun q => by
            rw [hv]
            rcases (by omega : k = 0 ∨ k = 1) with z | z
            · subst z; rw [if_pos rfl]; decide
            · subst z; rw [if_neg (by decide), if_pos rfl]; have := h0d (by decide); omega
          refine z_aload_0 dX12_scans_181 ?_
          refine z_aload_0 dX12_scans_182 ?_
          refine z_getI 10 rfl f_X12_159 zl_393 rfl dX12_scans_183 ?_
          rw [ea]
          refine z_aload_0 dX12_scans_186 ?_
          refine z_getI 11 rfl f_X12_190 zl_393 rfl dX12_scans_187 ?_
          rw [hst]
          refine z_isub dX12_scans_190 (by omega) ?_
          refine z_iconst dX12_scans_191 (by decide) ?_
          refine z_icmpge (tgt := 218) dX12_scans_192 (by decide) (fun h_192 => ?_) (fun h_192 => ?_)
          · refine z_aload_0 dX12_scans_218 ?_
            refine z_getI 13 rfl f_X12_204 zl_393 rfl dX12_scans_219 ?_
            refine z_putI 13 rfl f_X12_204 p_12_13 zl_393 rfl rfl dX12_scans_222 ?_
            refine z_aload_0 dX12_scans_225 ?_
            refine z_dup dX12_scans_226 rfl ?_
            refine z_getI 10 rfl f_X12_159 zl_393 rfl dX12_scans_227 ?_
            rw [zup_ne (Or.inr (by decide)), ea]
            refine z_iconst dX12_scans_230 (by decide) ?_
            refine z_iadd dX12_scans_231 (by omega) ?_
            refine z_putI 10 rfl f_X12_159 p_12_10 zl_393 rfl rfl dX12_scans_232 ?_
            refine z_goto (tgt := 170) dX12_scans_235 (by decide) ?_
            refine ih (k + 1) _ (by omega) (by (repeat (first | rw [zup_eq] | rw [zup_row (by omega)] | rw [zup_ne (Or.inr (by omega))])); omega) (by (repeat (first | rw [zup_eq] | rw [zup_row (by omega)] | rw [zup_ne (Or.inr (by omega))])); exact hst) ?_ (fun j hj => by by_cases q : j = k; rw [q]; exact h_178; exact hlb j (by omega)) (fun k k1 k2 k3 k4 => by (repeat (first | rw [zup_eq] | rw [zup_row (by omega)] | rw [zup_ne (Or.inr (by omega))])); exact hk k k1 k2 k3 k4) (fun x x1 => by (repeat (first | rw [zup_eq] | rw [zup_row (by omega)] | rw [zup_ne (Or.inr (by omega))])); exact hx x x1) (by omega)
            rw [zup_ne (Or.inr (by decide)), zup_eq]
            rw [hv, if_neg (by omega), if_neg (by omega), if_neg (by omega), if_neg (by omega)]
          · have hvb2 := hvb (by omega)
            refine z_bipush dX12_scans_195 (by decide) ?_
            refine z_aload_0 dX12_scans_197 ?_
            refine z_getI 13 rfl f_X12_204 zl_393 rfl dX12_scans_198 ?_
            refine z_imul dX12_scans_201 (by omega) ?_
            refine z_aload_0 dX12_scans_202 ?_
            refine z_getF 399 6 rfl f_X12_26 zl_393 rfl rfl dX12_scans_203 ?_
            refine z_aload_0 dX12_scans_206 ?_
            refine z_getI 10 rfl f_X12_159 zl_393 rfl dX12_scans_207 ?_
            rw [ea]
            refine z_iald zl_399 (by omega) (by omega) dX12_scans_210 ?_
            rw [e399]
            refine z_iadd dX12_scans_211 (by omega) ?_
            refine z_bipush dX12_scans_212 (by decide) ?_
            refine z_isub dX12_scans_214 (by omega) ?_
            refine z_goto (tgt := 222) dX12_scans_215 (by decide) ?_
            refine z_putI 13 rfl f_X12_204 p_12_13 zl_393 rfl rfl dX12_scans_222 ?_
            refine z_aload_0 dX12_scans_225 ?_
            refine z_dup dX12_scans_226 rfl ?_
            refine z_getI 10 rfl f_X12_159 zl_393 rfl dX12_scans_227 ?_
            rw [zup_ne (Or.inr (by decide)), ea]
            refine z_iconst dX12_scans_230 (by decide) ?_
            refine z_iadd dX12_scans_231 (by omega) ?_
            refine z_putI 10 rfl f_X12_159 p_12_10 zl_393 rfl rfl dX12_scans_232 ?_
            refine z_goto (tgt := 170) dX12_scans_235 (by decide) ?_
            refine ih (k + 1) _ (by omega) (by (repeat (first | rw [zup_eq] | rw [zup_row (by omega)] | rw [zup_ne (Or.inr (by omega))])); omega) (by (repeat (first | rw [zup_eq] | rw [zup_row (by omega)] | rw [zup_ne (Or.inr (by omega))])); exact hst) ?_ (fun j hj => by by_cases q : j = k; rw [q]; exact h_178; exact hlb j (by omega)) (fun k k1 k2 k3 k4 => by (repeat (first | rw [zup_eq] | rw [zup_row (by omega)] | rw [zup_ne (Or.inr (by omega))])); exact hk k k1 k2 k3 k4) (fun x x1 => by (repeat (first | rw [zup_eq] | rw [zup_row (by omega)] | rw [zup_ne (Or.inr (by omega))])); exact hx x x1) (by omega)
            rw [zup_ne (Or.inr (by decide)), zup_eq]
            rcases (by omega : k = 0 ∨ k = 1) with z | z
            · subst z
              rw [hv, if_pos rfl, if_neg (by decide), if_pos (by decide), show s + ((0 : Nat) : Int) = s by omega]
              omega
            · subst z
              rw [hv, if_neg (by decide), if_pos rfl, if_neg (by decide), if_neg (by decide), show s + ((1 : Nat) : Int) = s + 1 by omega]
              omega
    refine z_aload_0 dX12_scans_165 ?_
    refine z_iconst dX12_scans_166 (by decide) ?_
    refine z_putI 13 rfl f_X12_204 p_12_13 zl_393 rfl rfl dX12_scans_167 ?_
    exact L170 400 0 _ (by omega) (by (repeat (first | rw [zup_eq] | rw [zup_row (by omega)] | rw [zup_ne (Or.inr (by omega))])); omega) (by (repeat (first | rw [zup_eq] | rw [zup_row (by omega)] | rw [zup_ne (Or.inr (by omega))])); exact hst) (by rw [zup_eq]; rfl) (fun j hj => by omega) (fun k k1 k2 k3 k4 => by (repeat (first | rw [zup_eq] | rw [zup_row (by omega)] | rw [zup_ne (Or.inr (by omega))])); exact hk k k1 k2 k3 k4) (fun x x1 => by (repeat (first | rw [zup_eq] | rw [zup_row (by omega)] | rw [zup_ne (Or.inr (by omega))])); exact hx x x1) (by omega)
  have J24 : ∀ ξ : zM, ξ 393 10 = s → (∀ k, k ≠ 10 → k ≠ 11 → k ≠ 12 → k ≠ 13 → ξ 393 k = μ 393 k) → (∀ x, x ≠ 393 → ξ x = μ x) → MW X E cX12_scans RX12 ({ frames := 2, cells := 0, slots := 0, locals := 47 }) none (fun r ν => r = none ∧ ν 393 11 = (zen zpB (μ 399) (μ 393 9) (μ 393 10)) ∧ zTo (μ 399) (μ 393 9) (zen zpB (μ 399) (μ 393 9) (μ 393 10)) (ν 393 12) (ν 393 13) (ν 393 10) ∧ (∀ k, k ≠ 10 → k ≠ 11 → k ≠ 12 → k ≠ 13 → ν 393 k = μ 393 k) ∧ (∀ x, x ≠ 393 → ν x = μ x)) 24 [zR 393, zU, zU] [] ξ := by
    intro ξ hat hk hx
    have e9 : ξ 393 9 = μ 393 9 := hk 9 (by decide) (by decide) (by decide) (by decide)
    have e399 : ξ 399 = μ 399 := hx 399 (by decide)
    refine z_aload_0 dX12_scans_24 ?_
    refine z_aload_0 dX12_scans_25 ?_
    refine z_getI 10 rfl f_X12_159 zl_393 rfl dX12_scans_26 ?_
    rw [hat]
    refine z_putI 11 rfl f_X12_190 p_12_11 zl_393 rfl rfl dX12_scans_29 ?_
    refine z_aload_0 dX12_scans_32 ?_
    refine z_getI 10 rfl f_X12_159 zl_393 rfl dX12_scans_33 ?_
    rw [zup_ne (Or.inr (by decide)), hat]
    refine z_aload_0 dX12_scans_36 ?_
    refine z_getI 9 rfl f_X12_154 zl_393 rfl dX12_scans_37 ?_
    rw [zup_ne (Or.inr (by decide)), e9]
    refine z_icmpne (tgt := 49) dX12_scans_40 (by decide) (fun h_40 => ?_) (fun h_40 => ?_)
    · have hsn : s < μ 393 9 := by omega
      have hz : zby (μ 399) (μ 393 9) s = μ 399 s := if_pos hsn
      refine z_aload_0 dX12_scans_49 ?_
      refine z_bipush dX12_scans_50 (by decide) ?_
      refine z_bipush dX12_scans_52 (by decide) ?_
      refine z_callV2 (k_X12_isAt (by rw [zup_ne (Or.inr (by decide)), e9]; exact hn) (by rw [zup_ne (Or.inr (by decide))]; omega) (by decide)) m_X12_isAt zl_393 l_X12_186 (Nat.le_of_ble_eq_true rfl) ⟨Nat.le_of_ble_eq_true rfl, Nat.le_of_ble_eq_true rfl⟩ ⟨rfl, rfl⟩ dX12_scans_54 (fun r μ1 hp => ?_)
      obtain ⟨rfl, hv⟩ := hp
      replace hv := hv.symm
      subst hv
      rw [zup_ne (Or.inr (by decide)), zup_ne (Or.inr (by decide)), zup_row (by decide), e9, e399, hat]
      refine z_ifeq (tgt := 154) dX12_scans_57 (by decide) (fun h_57 => ?_) (fun h_57 => ?_)
      · replace h_57 := zb_0.mp h_57
        refine z_aload_0 dX12_scans_154 ?_
        refine z_bipush dX12_scans_155 (by decide) ?_
        refine z_bipush dX12_scans_157 (by decide) ?_
        refine z_callV2 (k_X12_isAt (by rw [zup_ne (Or.inr (by decide)), e9]; exact hn) (by rw [zup_ne (Or.inr (by decide))]; omega) (by decide)) m_X12_isAt zl_393 l_X12_186 (Nat.le_of_ble_eq_true rfl) ⟨Nat.le_of_ble_eq_true rfl, Nat.le_of_ble_eq_true rfl⟩ ⟨rfl, rfl⟩ dX12_scans_159 (fun r μ1 hp => ?_)
        obtain ⟨rfl, hv⟩ := hp
        replace hv := hv.symm
        subst hv
        rw [zup_ne (Or.inr (by decide)), zup_ne (Or.inr (by decide)), zup_row (by decide), e9, e399, hat]
        refine z_ifeq (tgt := 261) dX12_scans_162 (by decide) (fun h_162 => ?_) (fun h_162 => ?_)
        · replace h_162 := zb_0.mp h_162
          refine z_aload_0 dX12_scans_261 ?_
          refine z_aload_0 dX12_scans_262 ?_
          refine z_bipush dX12_scans_263 (by decide) ?_
          refine z_bipush dX12_scans_265 (by decide) ?_
          refine z_callV2 (k_X12_isAt (by rw [zup_ne (Or.inr (by decide)), e9]; exact hn) (by rw [zup_ne (Or.inr (by decide))]; omega) (by decide)) m_X12_isAt zl_393 l_X12_186 (Nat.le_of_ble_eq_true rfl) ⟨Nat.le_of_ble_eq_true rfl, Nat.le_of_ble_eq_true rfl⟩ ⟨rfl, rfl⟩ dX12_scans_267 (fun r μ1 hp => ?_)
          obtain ⟨rfl, hv⟩ := hp
          replace hv := hv.symm
          subst hv
          rw [zup_ne (Or.inr (by decide)), zup_ne (Or.inr (by decide)), zup_row (by decide), e9, e399, hat]
          refine z_ifeq (tgt := 277) dX12_scans_270 (by decide) (fun h_270 => ?_) (fun h_270 => ?_)
          · replace h_270 := zb_0.mp h_270
            refine z_iconst dX12_scans_277 (by decide) ?_
            refine z_putI 12 rfl f_X12_193 p_12_12 zl_393 rfl rfl dX12_scans_278 ?_
            refine z_aload_0 dX12_scans_281 ?_
            refine z_dup dX12_scans_282 rfl ?_
            refine z_getI 10 rfl f_X12_159 zl_393 rfl dX12_scans_283 ?_
            rw [zup_ne (Or.inr (by decide)), zup_ne (Or.inr (by decide)), hat]
            refine z_iconst dX12_scans_286 (by decide) ?_
            refine z_iadd dX12_scans_287 (by omega) ?_
            refine z_putI 10 rfl f_X12_159 p_12_10 zl_393 rfl rfl dX12_scans_288 ?_
            exact z_vret dX12_scans_291 (⟨rfl, by rw [← hs]; (repeat (first | rw [zup_eq] | rw [zup_row (by omega)] | rw [zup_ne (Or.inr (by omega))])), by
                rw [← hs]
                refine Or.inr (Or.inr (Or.inr ⟨hsn, fun q => h_57 (by rw [hz]; exact q), fun q => h_162 (by rw [hz]; exact q), by (repeat (first | rw [zup_eq] | rw [zup_row (by omega)] | rw [zup_ne (Or.inr (by omega))])), ?_⟩))
                exact Or.inr ⟨fun q => h_270 ⟨by omega, by omega⟩, by (repeat (first | rw [zup_eq] | rw [zup_row (by omega)] | rw [zup_ne (Or.inr (by omega))]))⟩, (fun k k1 k2 k3 k4 => by (repeat (first | rw [zup_eq] | rw [zup_row (by omega)] | rw [zup_ne (Or.inr (by omega))])); exact hk k k1 k2 k3 k4), (fun x x1 => by (repeat (first | rw [zup_eq] | rw [zup_row (by omega)] | rw [zup_ne (Or.inr (by omega))])); exact hx x x1)⟩)
          · replace h_270 := zb_n.mp h_270
            refine z_iconst dX12_scans_273 (by decide) ?_
            refine z_goto (tgt := 278) dX12_scans_274 (by decide) ?_
            refine z_putI 12 rfl f_X12_193 p_12_12 zl_393 rfl rfl dX12_scans_278 ?_
            refine z_aload_0 dX12_scans_281 ?_
            refine z_dup dX12_scans_282 rfl ?_
            refine z_getI 10 rfl f_X12_159 zl_393 rfl dX12_scans_283 ?_
            rw [zup_ne (Or.inr (by decide)), zup_ne (Or.inr (by decide)), hat]
            refine z_iconst dX12_scans_286 (by decide) ?_
            refine z_iadd dX12_scans_287 (by omega) ?_
            refine z_putI 10 rfl f_X12_159 p_12_10 zl_393 rfl rfl dX12_scans_288 ?_
            exact z_vret dX12_scans_291 (⟨rfl, by rw [← hs]; (repeat (first | rw [zup_eq] | rw [zup_row (by omega)] | rw [zup_ne (Or.inr (by omega))])), by
                rw [← hs]
                refine Or.inr (Or.inr (Or.inr ⟨hsn, fun q => h_57 (by rw [hz]; exact q), fun q => h_162 (by rw [hz]; exact q), by (repeat (first | rw [zup_eq] | rw [zup_row (by omega)] | rw [zup_ne (Or.inr (by omega))])), ?_⟩))
                exact Or.inl ⟨by omega, by (repeat (first | rw [zup_eq] | rw [zup_row (by omega)] | rw [zup_ne (Or.inr (by omega))]))⟩, (fun k k1 k2 k3 k4 => by (repeat (first | rw [zup_eq] | rw [zup_row (by omega)] | rw [zup_ne (Or.inr (by omega))])); exact hk k k1 k2 k3 k4), (fun x x1 => by (repeat (first | rw [zup_eq] | rw [zup_row (by omega)] | rw [zup_ne (Or.inr (by omega))])); exact hx x x1)⟩)
        · replace h_162 := zb_n.mp h_162
          exact J165 hsn (by rw [← hz]; exact h_162) _ (by rw [zup_ne (Or.inr (by decide))]; exact hat) (by rw [zup_eq]) (fun k k1 k2 k3 k4 => by (repeat (first | rw [zup_eq] | rw [zup_row (by omega)] | rw [zup_ne (Or.inr (by omega))])); exact hk k k1 k2 k3 k4) (fun x x1 => by (repeat (first | rw [zup_eq] | rw [zup_row (by omega)] | rw [zup_ne (Or.inr (by omega))])); exact hx x x1)
      · replace h_57 := zb_n.mp h_57
        exact J60 hsn (by rw [← hz]; exact h_57) _ (by rw [zup_ne (Or.inr (by decide))]; exact hat) (by rw [zup_eq]) (fun k k1 k2 k3 k4 => by (repeat (first | rw [zup_eq] | rw [zup_row (by omega)] | rw [zup_ne (Or.inr (by omega))])); exact hk k k1 k2 k3 k4) (fun x x1 => by (repeat (first | rw [zup_eq] | rw [zup_row (by omega)] | rw [zup_ne (Or.inr (by omega))])); exact hx x x1)
    · refine z_aload_0 dX12_scans_43 ?_
      refine z_iconst dX12_scans_44 (by decide) ?_
      refine z_putI 12 rfl f_X12_193 p_12_12 zl_393 rfl rfl dX12_scans_45 ?_
      exact z_vret dX12_scans_48 (⟨rfl, by rw [← hs]; (repeat (first | rw [zup_eq] | rw [zup_row (by omega)] | rw [zup_ne (Or.inr (by omega))])), by
          rw [← hs]
          refine Or.inl ⟨by omega, by (repeat (first | rw [zup_eq] | rw [zup_row (by omega)] | rw [zup_ne (Or.inr (by omega))])), by (repeat (first | rw [zup_eq] | rw [zup_row (by omega)] | rw [zup_ne (Or.inr (by omega))])); exact hat⟩, (fun k k1 k2 k3 k4 => by (repeat (first | rw [zup_eq] | rw [zup_row (by omega)] | rw [zup_ne (Or.inr (by omega))])); exact hk k k1 k2 k3 k4), (fun x x1 => by (repeat (first | rw [zup_eq] | rw [zup_row (by omega)] | rw [zup_ne (Or.inr (by omega))])); exact hx x x1)⟩)
  have L0 : ∀ (m : Nat) (k : Nat) (ξ : zM), μ 393 10 + (k : Int) ≤ 300 → ξ 393 10 = μ 393 10 + (k : Int) → (∀ j : Nat, j < k → zpB (zby (μ 399) (μ 393 9) (μ 393 10 + (j : Int)))) → (∀ k, k ≠ 10 → k ≠ 11 → k ≠ 12 → k ≠ 13 → ξ 393 k = μ 393 k) → (∀ x, x ≠ 393 → ξ x = μ x) → 300 - (μ 393 10 + (k : Int)) < m → MW X E cX12_scans RX12 ({ frames := 2, cells := 0, slots := 0, locals := 47 }) none (fun r ν => r = none ∧ ν 393 11 = (zen zpB (μ 399) (μ 393 9) (μ 393 10)) ∧ zTo (μ 399) (μ 393 9) (zen zpB (μ 399) (μ 393 9) (μ 393 10)) (ν 393 12) (ν 393 13) (ν 393 10) ∧ (∀ k, k ≠ 10 → k ≠ 11 → k ≠ 12 → k ≠ 13 → ν 393 k = μ 393 k) ∧ (∀ x, x ≠ 393 → ν x = μ x)) 0 [zR 393, zU, zU] [] ξ := by
    intro m
    induction m with
    | zero => intro k ξ hkn hat hlb hk hx h3; omega
    | succ m ih =>
      intro k ξ hkn hat hlb hk hx h3
      have ea : ξ 393 10 = μ 393 10 + (k : Int) := hat
      have e9 : ξ 393 9 = μ 393 9 := hk 9 (by decide) (by decide) (by decide) (by decide)
      have e399 : ξ 399 = μ 399 := hx 399 (by decide)
      refine z_aload_0 dX12_scans_0 ?_
      refine z_bipush dX12_scans_1 (by decide) ?_
      refine z_bipush dX12_scans_3 (by decide) ?_
      refine z_callV2 (k_X12_isAt (by rw [e9]; exact hn) (by omega) (by decide)) m_X12_isAt zl_393 l_X12_186 (Nat.le_of_ble_eq_true rfl) ⟨Nat.le_of_ble_eq_true rfl, Nat.le_of_ble_eq_true rfl⟩ ⟨rfl, rfl⟩ dX12_scans_5 (fun r μ1 hp => ?_)
      obtain ⟨rfl, hv⟩ := hp
      replace hv := hv.symm
      subst hv
      rw [e9, e399, ea]
      refine z_ifeq (tgt := 24) dX12_scans_8 (by decide) (fun h_8 => ?_) (fun h_8 => ?_)
      · replace h_8 := zb_0.mp h_8
        replace h_8 : ¬ zpB (zby (μ 399) (μ 393 9) (μ 393 10 + (k : Int))) := fun q => h_8 ⟨by unfold zpB at q; omega, by unfold zpB at q; omega⟩
        exact J24 ξ (by rw [hat, hs]; exact zen_e zpB_n hn.2 ha.1 ⟨by omega, fun j j0 j1 => by have := hlb (j - μ 393 10).toNat (by omega); rw [show μ 393 10 + (((j - μ 393 10).toNat : Nat) : Int) = j by omega] at this; exact this, h_8⟩) hk hx
      · replace h_8 := zb_n.mp h_8
        replace h_8 : zpB (zby (μ 399) (μ 393 9) (μ 393 10 + (k : Int))) := by unfold zpB; omega
        refine z_aload_0 dX12_scans_11 ?_
        refine z_dup dX12_scans_12 rfl ?_
        refine z_getI 10 rfl f_X12_159 zl_393 rfl dX12_scans_13 ?_
        rw [ea]
        refine z_iconst dX12_scans_16 (by decide) ?_
        refine z_iadd dX12_scans_17 (by omega) ?_
        refine z_putI 10 rfl f_X12_159 p_12_10 zl_393 rfl rfl dX12_scans_18 ?_
        refine z_goto (tgt := 0) dX12_scans_21 (by decide) ?_
        refine ih (k + 1) _ (by have := (zby_bb h_8).1; omega) (by rw [zup_eq]; omega) (fun j hj => by by_cases q : j = k; rw [q]; exact h_8; exact hlb j (by omega)) (fun k k1 k2 k3 k4 => by (repeat (first | rw [zup_eq] | rw [zup_row (by omega)] | rw [zup_ne (Or.inr (by omega))])); exact hk k k1 k2 k3 k4) (fun x x1 => by (repeat (first | rw [zup_eq] | rw [zup_row (by omega)] | rw [zup_ne (Or.inr (by omega))])); exact hx x x1) (by omega)
  exact L0 400 0 μ (by omega) (by omega) (fun j hj => by omega) (fun _ _ _ _ _ => rfl) (fun _ _ => rfl) (by omega)
