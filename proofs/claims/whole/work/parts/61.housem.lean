theorem spT_cg {V : zM} {w : Int} {f g : Int → Int} (hw : 0 ≤ w) (h : ∀ i, 0 ≤ i → i < zcn w → f i = g i) : spT V w f = spT V w g := by
  have h0 := h 0 (by decide) (by have := zcn_b (w := w); omega)
  unfold spT
  by_cases q0 : w = 0
  · rw [if_pos q0, if_pos q0, h0]
  · rw [if_neg q0, if_neg q0]
    by_cases q1 : w = 1
    · have h1 := h 1 (by decide) (by unfold zcn; rw [if_pos (by omega)]; decide)
      rw [if_pos q1, if_pos q1, h0, h1]
    · rw [if_neg q1, if_neg q1]
      by_cases q2 : w = 2
      · rw [if_pos q2, if_pos q2, h0]
      · rw [if_neg q2, if_neg q2]
        by_cases q3 : w = 3
        · rw [if_pos q3, if_pos q3, h0]
        · rw [if_neg q3, if_neg q3]
          by_cases q4 : w = 4
          · rw [if_pos q4, if_pos q4, h0]
          · rw [if_neg q4, if_neg q4]
            by_cases q5 : w = 5
            · have e : zcn w = 5 := by unfold zcn; rw [if_neg (by omega), if_pos q5]
              rw [if_pos q5, if_pos q5, h0, h 1 (by decide) (by omega), h 2 (by decide) (by omega), h 3 (by decide) (by omega), h 4 (by decide) (by omega)]
            · rw [if_neg q5, if_neg q5]
              by_cases q6 : w = 6
              · have e : zcn w = 2 := by unfold zcn; rw [if_pos (by omega)]
                rw [if_pos q6, if_pos q6, h0, h 1 (by decide) (by omega)]
              · have e : zcn w = 4 := by unfold zcn; rw [if_neg (by omega), if_neg q5, if_pos (by omega)]
                rw [if_neg q6, if_neg q6, h0, h 1 (by decide) (by omega), h 2 (by decide) (by omega), h 3 (by decide) (by omega)]
/-- the house that the first items tell -/
noncomputable def zIn (t : Int → Int) (n : Int) (j : Nat) : Int → Int := fun i => zIv t n (zps t n j) i.toNat
noncomputable def zTS (t : Int → Int) (n : Int) : Nat → zM
  | 0 => zV0
  | j + 1 => (spT (zTS t n j) (zIw t n (zps t n j)) (zIn t n j)).2
theorem zTS_s {t : Int → Int} {n : Int} {j : Nat} : zTS t n (j + 1) = (spT (zTS t n j) (zIw t n (zps t n j)) (zIn t n j)).2 := rfl
def zTg9 (t : Int → Int) (n : Int) (j : Nat) : Prop := -2 < (spT (zTS t n j) (zIw t n (zps t n j)) (zIn t n j)).1
/-- of k items m are told well, and then one isn't, or that is all -/
def zTd9 (t : Int → Int) (n : Int) (k m : Nat) : Prop := m ≤ k ∧ (∀ j : Nat, j < m → zTg9 t n j) ∧ (m = k ∨ ¬ zTg9 t n m)
theorem zTd9_u {t : Int → Int} {n : Int} {k m l : Nat} (h : zTd9 t n k m) (g : zTd9 t n k l) : m = l := by
  by_cases q : m < l
  · rcases h.2.2 with e | e
    · have := g.1; omega
    · exact absurd (g.2.1 m q) e
  · by_cases q2 : l < m
    · rcases g.2.2 with e | e
      · have := h.1; omega
      · exact absurd (h.2.1 l q2) e
    · omega
theorem zTS_ok {t : Int → Int} {n : Int} : ∀ j : Nat, zOK (zTS t n j)
  | 0 => zV0_ok
  | j + 1 => by rw [zTS_s]; exact spT_ok (zTS_ok j)
theorem zV0_sum : zsum (zV0 0) 36 = 0 := by
  have : ∀ n : Nat, zsum (zV0 0) n = 0 := fun n => by
    induction n with
    | zero => rfl
    | succ n ih => rw [zsum_s, ih]; rfl
  exact this 36
/-- an answer of the house's calls is below -1 where it refuses, and not below 0 else, but for lie -/
theorem spT_g {V : zM} {w : Int} {f : Int → Int} (ok : zOK V) (hw : 0 ≤ w) (h6 : w ≠ 6) : -2 < (spT V w f).1 → 0 ≤ (spT V w f).1 := by
  unfold spT
  have b := ok.1.2.1
  have c := ok.1.2.2.2
  have p := ok.2.1.1
  have s := ok.2.2.1.1
  have N : ∀ (Q : Prop) (a y : Int × zM), (-2 < a.1 → 0 ≤ a.1) → (-2 < y.1 → 0 ≤ y.1) → (-2 < (zif Q a y).1 → 0 ≤ (zif Q a y).1) := fun Q a y h1 h2 => zif_i (p := fun (z : Int × zM) => -2 < z.1 → 0 ≤ z.1) (fun _ => h1) (fun _ => h2)
  split
  · unfold spW; exact N _ _ _ (fun q => by have q : _ < _ := q; simp only [] at q; omega) (N _ _ _ (fun q => by have q : _ < _ := q; simp only [] at q; omega) (fun _ => by show (0 : Int) ≤ 1; decide))
  · split
    · unfold spC
      refine zif_i (p := fun (z : Int × zM) => -2 < z.1 → 0 ≤ z.1) (fun _ q => by have q : (-2 : Int) < -2 := q; omega) (fun q _ => ?_)
      have : 0 ≤ f 0 ∧ f 0 < 36 := by
        by_cases z : 0 ≤ f 0 ∧ f 0 < 36
        · exact z
        · exact absurd (Or.inl z) q
      exact (ok.1.1 _ this.1 this.2).2.1
    · split
      · unfold spF; exact N _ _ _ (fun q => by have q : _ < _ := q; simp only [] at q; omega) (fun _ => c.1.1)
      · split
        · unfold spD; exact N _ _ _ (fun q => by have q : _ < _ := q; simp only [] at q; omega) (fun _ => c.2.1)
        · split
          · unfold spB; exact N _ _ _ (fun q => by have q : _ < _ := q; simp only [] at q; omega) (N _ _ _ (fun q => by have q : _ < _ := q; simp only [] at q; omega) (fun _ => b.1))
          · split
            · unfold spS; exact N _ _ _ (fun q => by have q : _ < _ := q; simp only [] at q; omega) (N _ _ _ (fun q => by have q : _ < _ := q; simp only [] at q; omega) (fun _ => p.1))
            · skip
              unfold spN; exact N _ _ _ (fun q => by have q : _ < _ := q; simp only [] at q; omega) (N _ _ _ (fun q => by have q : _ < _ := q; simp only [] at q; omega) (fun _ => s.1))
/-- behind a told item: well or not, the picture, the status -/
def zMq (sp : Int × zM) (μ ν : zM) : Prop := zBV (ν 394) = sp.2 ∧ ν 394 0 = zsum (sp.2 0) 36 ∧ (∀ j, 0 ≤ j → j < 3 → ν 398 j = μ 398 j + zRk (μ 393 7) sp.1 j) ∧ ∀ a, a ≠ 394 → a ≠ 398 → ν a = μ a
def zMt (sp : Int × zM) (μ : zM) (r : Option zAV) (ν : zM) : Prop := r = some (zI (zb (-2 < sp.1))) ∧ zMq sp μ ν
theorem zMt_1 {sp sp2 : Int × zM} {μ ν : zM} (e : sp = sp2) (h : -1 ≤ sp2.1) (hb : zMq sp2 μ ν) : zMt sp μ (some (zI 1)) ν := by
  rw [e]; exact ⟨by rw [zb_t (by omega)], hb⟩
theorem zMt_0 {V : zM} {w : Int} {f : Int → Int} {sp2 : Int × zM} {μ ν : zM} (ok : zOK V) (hw : 0 ≤ w) (h6 : w ≠ 6) (e : spT V w f = sp2) (h : sp2.1 < 0) (hb : zMq sp2 μ ν) : zMt (spT V w f) μ (some (zI 0)) ν := by
  have g := spT_g (f := f) ok hw h6
  rw [e] at g ⊢
  exact ⟨by rw [zb_f (by omega)], hb⟩
theorem zMt_6 {sp sp2 : Int × zM} {μ ν : zM} (e : sp = sp2) (h : sp2.1 ≤ -2) (hb : zMq sp2 μ ν) : zMt sp μ (some (zI 0)) ν := by
  rw [e]; exact ⟨by rw [zb_f (by omega)], hb⟩
theorem zLx_1 {z : Int} (h : -1 ≤ zLx z) : -1 ≤ z := by
  unfold zLx at h
  by_cases a : z = -2
  · rw [if_pos a] at h; omega
  · rw [if_neg a] at h
    by_cases b : z = -3
    · rw [if_pos b] at h; omega
    · rw [if_neg b] at h; exact h
theorem zLx_0 {z : Int} (h : zLx z < -1) : z ≤ -2 := by
  unfold zLx at h
  by_cases a : z = -2
  · omega
  · rw [if_neg a] at h
    by_cases b : z = -3
    · omega
    · rw [if_neg b] at h; omega
theorem zTk_w {w : Int} (h : 0 ≤ w) (h1 : w ≤ 11) : 10 ≤ zTk w ∧ zTk w ≤ 26 ∧ (20 ≤ zTk w → w = zTk w - 20) ∧ (zTk w < 20 → 7 ≤ w ∧ zTk w - 10 = w - 7) := by
  unfold zTk
  rw [if_neg (by omega)]
  by_cases a : w < 7
  · rw [if_pos a]; omega
  · rw [if_neg a]; omega
def zAr (μ : zM) (i : Int) : Int → Int := fun k => μ 401 (5 * i + k)
theorem spT_0 {V : zM} {f : Int → Int} : spT V 0 f = spW V (f 0) 1 := rfl
theorem spT_1 {V : zM} {f : Int → Int} : spT V 1 f = spC V (f 0) (f 1) := rfl
theorem spT_2 {V : zM} {f : Int → Int} : spT V 2 f = spP V 0 (f 0) := rfl
theorem spT_3 {V : zM} {f : Int → Int} : spT V 3 f = spP V 1 (f 0) := rfl
theorem spT_4 {V : zM} {f : Int → Int} : spT V 4 f = spB V (f 0) := rfl
theorem spT_5 {V : zM} {f : Int → Int} : spT V 5 f = spS V (f 0) (f 1) (f 2) (f 3) (f 4) := rfl
theorem spT_6 {V : zM} {f : Int → Int} : spT V 6 f = spL V (f 0) (f 1) := rfl
theorem spT_7 {V : zM} {w : Int} {f : Int → Int} (h : 7 ≤ w) : spT V w f = spN V (w - 7) (f 0) (f 1) (f 2) (f 3) := by
  unfold spT
  repeat (rw [if_neg (by omega)])
set_option maxRecDepth 100000 in
set_option maxHeartbeats 4000000 in
theorem k_X12_begins {l : Launch} {E : zE} {μ : zM} : Ct l E yX12_begins cX12_begins 2 none ({ frames := 0, cells := 0, slots := 0, locals := 0 }) [zR 393] μ (fun r ν => r = none ∧ (∀ k, 0 ≤ k → k < 172 → ν 394 k = if k = 5 then 2 else 0) ∧ ∀ a, a ≠ 394 → ν a = μ a) := by
  refine Ct.of RX12 [zR 393, zU] (by decide +kernel) rfl ⟨rfl, rfl⟩ rfl (Nat.le_of_ble_eq_true rfl) (fun X hX hc0 ha0 => ?_)
  subst hX
  have L2 : ∀ (k : Nat) (i : Int) (ξ : zM), 0 ≤ i → i ≤ 172 → (∀ j, 0 ≤ j → j < i → ξ 394 j = 0) → (∀ a, a ≠ 394 → ξ a = μ a) → 172 - i < k → MW X E cX12_begins RX12 ({ frames := 0, cells := 0, slots := 0, locals := 0 }) none (fun r ν => r = none ∧ (∀ k, 0 ≤ k → k < 172 → ν 394 k = if k = 5 then 2 else 0) ∧ ∀ a, a ≠ 394 → ν a = μ a) 2 [zR 393, zI i] [] ξ := by
    intro k
    induction k with
    | zero => intro i ξ h1 h2 hz hx h3; omega
    | succ k ih =>
      intro i ξ h1 h2 hz hx h3
      refine z_iload_1 dX12_begins_2 ?_
      refine z_sipush dX12_begins_3 (by decide) ?_
      refine z_icmpge (tgt := 22) dX12_begins_6 (by decide) (fun h_6 => ?_) (fun h_6 => ?_)
      · refine z_aload_0 dX12_begins_22 ?_
        refine z_getF 394 1 rfl f_X12_7 zl_393 rfl rfl dX12_begins_23 ?_
        refine z_iconst dX12_begins_26 (by decide) ?_
        refine z_iconst dX12_begins_27 (by decide) ?_
        refine z_iast zl_394 (by omega) (by omega) dX12_begins_28 ?_
        exact z_vret dX12_begins_29 (⟨rfl, fun k k0 k1 => by by_cases q : k = 5; rw [if_pos q, q, zup_eq]; rw [if_neg q, zup_ne (Or.inr q)]; exact hz k k0 (by omega), fun a ha => by rw [zup_row ha]; exact hx a ha⟩)
      · refine z_aload_0 dX12_begins_9 ?_
        refine z_getF 394 1 rfl f_X12_7 zl_393 rfl rfl dX12_begins_10 ?_
        refine z_iload_1 dX12_begins_13 ?_
        refine z_iconst dX12_begins_14 (by decide) ?_
        refine z_iast zl_394 (by omega) (by omega) dX12_begins_15 ?_
        refine z_iinc_1 rfl dX12_begins_16 (by omega) ?_
        refine z_goto (tgt := 2) dX12_begins_19 (by decide) ?_
        exact ih (i + 1) _ (by omega) (by omega) (fun j j0 j1 => by by_cases q : j = i; rw [q, zup_eq]; rw [zup_ne (Or.inr q)]; exact hz j j0 (by omega)) (fun a ha => by rw [zup_row ha]; exact hx a ha) (by omega)
  refine z_iconst dX12_begins_0 (by decide) ?_
  refine z_istore_1 rfl dX12_begins_1 ?_
  exact L2 173 0 μ (by decide) (by decide) (fun j j0 j1 => by omega) (fun a ha => rfl) (by decide)
set_option maxRecDepth 100000 in
set_option maxHeartbeats 4000000 in
theorem k_X12_tellsItem {l : Launch} {E : zE} {μ : zM} (hm : zMpre μ) {i w : Int} (hi : 0 ≤ i ∧ i < 61) (hw : 0 ≤ w ∧ w ≤ 11) (hv : μ 400 i = zTk w) : Ct l E yX12_tellsItem cX12_tellsItem 6 (some .boolean) ({ frames := 3, cells := 0, slots := 0, locals := 73 }) [zR 393, zI i] μ (fun r ν => zMt (spT (zBV (μ 394)) w (zAr μ i)) μ r ν) := by
  refine Ct.of RX12 [zR 393, zI i, zU, zU, zU, zU] (by decide +kernel) rfl ⟨rfl, rfl⟩ rfl (Nat.le_of_ble_eq_true rfl) (fun X hX hc0 ha0 => ?_)
  subst hX
  have tb := zTk_w hw.1 hw.2
  refine z_aload_0 dX12_tellsItem_0 ?_
  refine z_getF 401 8 rfl f_X12_32 zl_393 rfl rfl dX12_tellsItem_1 ?_
  refine z_iconst dX12_tellsItem_4 (by decide) ?_
  refine z_iload_1 dX12_tellsItem_5 ?_
  refine z_imul dX12_tellsItem_6 (by omega) ?_
  refine z_iald zl_401 (by omega) (by omega) dX12_tellsItem_7 ?_
  rw [show μ 401 (5 * i) = zAr μ i 0 by unfold zAr; rw [Int.add_zero]]
  refine z_istore_2 rfl dX12_tellsItem_8 ?_
  refine z_aload_0 dX12_tellsItem_9 ?_
  refine z_getF 401 8 rfl f_X12_32 zl_393 rfl rfl dX12_tellsItem_10 ?_
  refine z_iconst dX12_tellsItem_13 (by decide) ?_
  refine z_iload_1 dX12_tellsItem_14 ?_
  refine z_imul dX12_tellsItem_15 (by omega) ?_
  refine z_iconst dX12_tellsItem_16 (by decide) ?_
  refine z_iadd dX12_tellsItem_17 (by omega) ?_
  refine z_iald zl_401 (by omega) (by omega) dX12_tellsItem_18 ?_
  rw [show μ 401 (5 * i + 1) = zAr μ i 1 from rfl]
  refine z_istore_3 rfl dX12_tellsItem_19 ?_
  refine z_aload_0 dX12_tellsItem_20 ?_
  refine z_getF 401 8 rfl f_X12_32 zl_393 rfl rfl dX12_tellsItem_21 ?_
  refine z_iconst dX12_tellsItem_24 (by decide) ?_
  refine z_iload_1 dX12_tellsItem_25 ?_
  refine z_imul dX12_tellsItem_26 (by omega) ?_
  refine z_iconst dX12_tellsItem_27 (by decide) ?_
  refine z_iadd dX12_tellsItem_28 (by omega) ?_
  refine z_iald zl_401 (by omega) (by omega) dX12_tellsItem_29 ?_
  rw [show μ 401 (5 * i + 2) = zAr μ i 2 from rfl]
  refine z_istore_4 rfl dX12_tellsItem_30 ?_
  refine z_aload_0 dX12_tellsItem_32 ?_
  refine z_getF 401 8 rfl f_X12_32 zl_393 rfl rfl dX12_tellsItem_33 ?_
  refine z_iconst dX12_tellsItem_36 (by decide) ?_
  refine z_iload_1 dX12_tellsItem_37 ?_
  refine z_imul dX12_tellsItem_38 (by omega) ?_
  refine z_iconst dX12_tellsItem_39 (by decide) ?_
  refine z_iadd dX12_tellsItem_40 (by omega) ?_
  refine z_iald zl_401 (by omega) (by omega) dX12_tellsItem_41 ?_
  rw [show μ 401 (5 * i + 3) = zAr μ i 3 from rfl]
  refine z_istore_5 rfl dX12_tellsItem_42 ?_
  refine z_aload_0 dX12_tellsItem_44 ?_
  refine z_getF 400 7 rfl f_X12_29 zl_393 rfl rfl dX12_tellsItem_45 ?_
  refine z_iload_1 dX12_tellsItem_48 ?_
  refine z_iald zl_400 (by omega) (by omega) dX12_tellsItem_49 ?_
  rw [hv]
  by_cases hs_50_20 : zTk w = 20
  · rw [hs_50_20]
    refine z_tabIn (tgt := 92) dX12_tellsItem_50 (by decide) (by decide) rfl (by decide) ?_
    refine z_aload_0 dX12_tellsItem_92 ?_
    refine z_iload_2 dX12_tellsItem_93 ?_
    refine z_iconst dX12_tellsItem_94 (by decide) ?_
    refine z_callV2 (k_X12_wall hm (Or.inr rfl)) m_X12_wall zl_393 l_X12_217 (Nat.le_of_ble_eq_true rfl) ⟨Nat.le_of_ble_eq_true rfl, Nat.le_of_ble_eq_true rfl⟩ ⟨rfl, rfl⟩ dX12_tellsItem_95 (fun r μ1 hp => ?_)
    obtain ⟨rfl, hb⟩ := hp
    refine z_iflt (tgt := 105) dX12_tellsItem_98 (by decide) (fun h_98 => ?_) (fun h_98 => ?_)
    · refine z_iconst dX12_tellsItem_105 (by decide) ?_
      exact z_zret (by decide) dX12_tellsItem_106 (by (obtain rfl : w = 0 := (by have := tb.2.2.1 (by omega); omega)); first | exact zMt_1 spT_0 (by omega) hb | exact zMt_0 hm.1 hw.1 (by omega) spT_0 (by omega) hb)
    · refine z_iconst dX12_tellsItem_101 (by decide) ?_
      refine z_goto (tgt := 106) dX12_tellsItem_102 (by decide) ?_
      exact z_zret (by decide) dX12_tellsItem_106 (by (obtain rfl : w = 0 := (by have := tb.2.2.1 (by omega); omega)); first | exact zMt_1 spT_0 (by omega) hb | exact zMt_0 hm.1 hw.1 (by omega) spT_0 (by omega) hb)
  by_cases hs_50_21 : zTk w = 21
  · rw [hs_50_21]
    refine z_tabIn (tgt := 107) dX12_tellsItem_50 (by decide) (by decide) rfl (by decide) ?_
    refine z_aload_0 dX12_tellsItem_107 ?_
    refine z_iload_2 dX12_tellsItem_108 ?_
    refine z_iload_3 dX12_tellsItem_109 ?_
    refine z_callV2 (k_X12_board hm) m_X12_board zl_393 l_X12_221 (Nat.le_of_ble_eq_true rfl) ⟨Nat.le_of_ble_eq_true rfl, Nat.le_of_ble_eq_true rfl⟩ ⟨rfl, rfl⟩ dX12_tellsItem_110 (fun r μ1 hp => ?_)
    obtain ⟨rfl, hb⟩ := hp
    refine z_iflt (tgt := 120) dX12_tellsItem_113 (by decide) (fun h_113 => ?_) (fun h_113 => ?_)
    · refine z_iconst dX12_tellsItem_120 (by decide) ?_
      exact z_zret (by decide) dX12_tellsItem_121 (by (obtain rfl : w = 1 := (by have := tb.2.2.1 (by omega); omega)); first | exact zMt_1 spT_1 (by omega) hb | exact zMt_0 hm.1 hw.1 (by omega) spT_1 (by omega) hb)
    · refine z_iconst dX12_tellsItem_116 (by decide) ?_
      refine z_goto (tgt := 121) dX12_tellsItem_117 (by decide) ?_
      exact z_zret (by decide) dX12_tellsItem_121 (by (obtain rfl : w = 1 := (by have := tb.2.2.1 (by omega); omega)); first | exact zMt_1 spT_1 (by omega) hb | exact zMt_0 hm.1 hw.1 (by omega) spT_1 (by omega) hb)
  by_cases hs_50_22 : zTk w = 22
  · rw [hs_50_22]
    refine z_tabIn (tgt := 122) dX12_tellsItem_50 (by decide) (by decide) rfl (by decide) ?_
    refine z_aload_0 dX12_tellsItem_122 ?_
    refine z_iconst dX12_tellsItem_123 (by decide) ?_
    refine z_iload_2 dX12_tellsItem_124 ?_
    refine z_callV2 (k_X12_put hm) m_X12_put zl_393 l_X12_224 (Nat.le_of_ble_eq_true rfl) ⟨Nat.le_of_ble_eq_true rfl, Nat.le_of_ble_eq_true rfl⟩ ⟨rfl, rfl⟩ dX12_tellsItem_125 (fun r μ1 hp => ?_)
    obtain ⟨rfl, hb⟩ := hp
    refine z_iflt (tgt := 135) dX12_tellsItem_128 (by decide) (fun h_128 => ?_) (fun h_128 => ?_)
    · refine z_iconst dX12_tellsItem_135 (by decide) ?_
      exact z_zret (by decide) dX12_tellsItem_136 (by (obtain rfl : w = 2 := (by have := tb.2.2.1 (by omega); omega)); first | exact zMt_1 spT_2 (by omega) hb | exact zMt_0 hm.1 hw.1 (by omega) spT_2 (by omega) hb)
    · refine z_iconst dX12_tellsItem_131 (by decide) ?_
      refine z_goto (tgt := 136) dX12_tellsItem_132 (by decide) ?_
      exact z_zret (by decide) dX12_tellsItem_136 (by (obtain rfl : w = 2 := (by have := tb.2.2.1 (by omega); omega)); first | exact zMt_1 spT_2 (by omega) hb | exact zMt_0 hm.1 hw.1 (by omega) spT_2 (by omega) hb)
  by_cases hs_50_23 : zTk w = 23
  · rw [hs_50_23]
    refine z_tabIn (tgt := 137) dX12_tellsItem_50 (by decide) (by decide) rfl (by decide) ?_
    refine z_aload_0 dX12_tellsItem_137 ?_
    refine z_iconst dX12_tellsItem_138 (by decide) ?_
    refine z_iload_2 dX12_tellsItem_139 ?_
    refine z_callV2 (k_X12_put hm) m_X12_put zl_393 l_X12_224 (Nat.le_of_ble_eq_true rfl) ⟨Nat.le_of_ble_eq_true rfl, Nat.le_of_ble_eq_true rfl⟩ ⟨rfl, rfl⟩ dX12_tellsItem_140 (fun r μ1 hp => ?_)
    obtain ⟨rfl, hb⟩ := hp
    refine z_iflt (tgt := 150) dX12_tellsItem_143 (by decide) (fun h_143 => ?_) (fun h_143 => ?_)
    · refine z_iconst dX12_tellsItem_150 (by decide) ?_
      exact z_zret (by decide) dX12_tellsItem_151 (by (obtain rfl : w = 3 := (by have := tb.2.2.1 (by omega); omega)); first | exact zMt_1 spT_3 (by omega) hb | exact zMt_0 hm.1 hw.1 (by omega) spT_3 (by omega) hb)
    · refine z_iconst dX12_tellsItem_146 (by decide) ?_
      refine z_goto (tgt := 151) dX12_tellsItem_147 (by decide) ?_
      exact z_zret (by decide) dX12_tellsItem_151 (by (obtain rfl : w = 3 := (by have := tb.2.2.1 (by omega); omega)); first | exact zMt_1 spT_3 (by omega) hb | exact zMt_0 hm.1 hw.1 (by omega) spT_3 (by omega) hb)
  by_cases hs_50_24 : zTk w = 24
  · rw [hs_50_24]
    refine z_tabIn (tgt := 152) dX12_tellsItem_50 (by decide) (by decide) rfl (by decide) ?_
    refine z_aload_0 dX12_tellsItem_152 ?_
    refine z_iload_2 dX12_tellsItem_153 ?_
    refine z_callV1 (k_X12_bed hm) m_X12_bed zl_393 l_X12_227 (Nat.le_of_ble_eq_true rfl) ⟨Nat.le_of_ble_eq_true rfl, Nat.le_of_ble_eq_true rfl⟩ ⟨rfl, rfl⟩ dX12_tellsItem_154 (fun r μ1 hp => ?_)
    obtain ⟨rfl, hb⟩ := hp
    refine z_iflt (tgt := 164) dX12_tellsItem_157 (by decide) (fun h_157 => ?_) (fun h_157 => ?_)
    · refine z_iconst dX12_tellsItem_164 (by decide) ?_
      exact z_zret (by decide) dX12_tellsItem_165 (by (obtain rfl : w = 4 := (by have := tb.2.2.1 (by omega); omega)); first | exact zMt_1 spT_4 (by omega) hb | exact zMt_0 hm.1 hw.1 (by omega) spT_4 (by omega) hb)
    · refine z_iconst dX12_tellsItem_160 (by decide) ?_
      refine z_goto (tgt := 165) dX12_tellsItem_161 (by decide) ?_
      exact z_zret (by decide) dX12_tellsItem_165 (by (obtain rfl : w = 4 := (by have := tb.2.2.1 (by omega); omega)); first | exact zMt_1 spT_4 (by omega) hb | exact zMt_0 hm.1 hw.1 (by omega) spT_4 (by omega) hb)
  by_cases hs_50_25 : zTk w = 25
  · rw [hs_50_25]
    refine z_tabIn (tgt := 166) dX12_tellsItem_50 (by decide) (by decide) rfl (by decide) ?_
    refine z_aload_0 dX12_tellsItem_166 ?_
    refine z_iload_2 dX12_tellsItem_167 ?_
    refine z_iload_3 dX12_tellsItem_168 ?_
    refine z_iload_4 dX12_tellsItem_169 ?_
    refine z_iload_5 dX12_tellsItem_171 ?_
    refine z_aload_0 dX12_tellsItem_173 ?_
    refine z_getF 401 8 rfl f_X12_32 zl_393 rfl rfl dX12_tellsItem_174 ?_
    refine z_iconst dX12_tellsItem_177 (by decide) ?_
    refine z_iload_1 dX12_tellsItem_178 ?_
    refine z_imul dX12_tellsItem_179 (by omega) ?_
    refine z_iconst dX12_tellsItem_180 (by decide) ?_
    refine z_iadd dX12_tellsItem_181 (by omega) ?_
    refine z_iald zl_401 (by omega) (by omega) dX12_tellsItem_182 ?_
    rw [show μ 401 (5 * i + 4) = zAr μ i 4 from rfl]
    refine z_callV5 (k_X12_sleeper hm) m_X12_sleeper zl_393 l_X12_230 (Nat.le_of_ble_eq_true rfl) ⟨Nat.le_of_ble_eq_true rfl, Nat.le_of_ble_eq_true rfl⟩ ⟨rfl, rfl⟩ dX12_tellsItem_183 (fun r μ1 hp => ?_)
    obtain ⟨rfl, hb⟩ := hp
    refine z_iflt (tgt := 193) dX12_tellsItem_186 (by decide) (fun h_186 => ?_) (fun h_186 => ?_)
    · refine z_iconst dX12_tellsItem_193 (by decide) ?_
      exact z_zret (by decide) dX12_tellsItem_194 (by (obtain rfl : w = 5 := (by have := tb.2.2.1 (by omega); omega)); first | exact zMt_1 spT_5 (by omega) hb | exact zMt_0 hm.1 hw.1 (by omega) spT_5 (by omega) hb)
    · refine z_iconst dX12_tellsItem_189 (by decide) ?_
      refine z_goto (tgt := 194) dX12_tellsItem_190 (by decide) ?_
      exact z_zret (by decide) dX12_tellsItem_194 (by (obtain rfl : w = 5 := (by have := tb.2.2.1 (by omega); omega)); first | exact zMt_1 spT_5 (by omega) hb | exact zMt_0 hm.1 hw.1 (by omega) spT_5 (by omega) hb)
  by_cases hs_50_26 : zTk w = 26
  · rw [hs_50_26]
    refine z_tabIn (tgt := 195) dX12_tellsItem_50 (by decide) (by decide) rfl (by decide) ?_
    refine z_aload_0 dX12_tellsItem_195 ?_
    refine z_iload_2 dX12_tellsItem_196 ?_
    refine z_iload_3 dX12_tellsItem_197 ?_
    refine z_callV2 (k_X12_lie hm) m_X12_lie zl_393 l_X12_234 (Nat.le_of_ble_eq_true rfl) ⟨Nat.le_of_ble_eq_true rfl, Nat.le_of_ble_eq_true rfl⟩ ⟨rfl, rfl⟩ dX12_tellsItem_198 (fun r μ1 hp => ?_)
    obtain ⟨rfl, hb⟩ := hp
    refine z_iconst dX12_tellsItem_201 (by decide) ?_
    refine z_icmplt (tgt := 209) dX12_tellsItem_202 (by decide) (fun h_202 => ?_) (fun h_202 => ?_)
    · refine z_iconst dX12_tellsItem_209 (by decide) ?_
      exact z_zret (by decide) dX12_tellsItem_210 (by (obtain rfl : w = 6 := (by have := tb.2.2.1 (by omega); omega)); first | exact zMt_1 spT_6 (zLx_1 (by omega)) hb | exact zMt_6 spT_6 (zLx_0 (by omega)) hb)
    · refine z_iconst dX12_tellsItem_205 (by decide) ?_
      refine z_goto (tgt := 210) dX12_tellsItem_206 (by decide) ?_
      exact z_zret (by decide) dX12_tellsItem_210 (by (obtain rfl : w = 6 := (by have := tb.2.2.1 (by omega); omega)); first | exact zMt_1 spT_6 (zLx_1 (by omega)) hb | exact zMt_6 spT_6 (zLx_0 (by omega)) hb)
  refine z_tabOut (tgt := 211) dX12_tellsItem_50 (by omega) (by decide) ?_
  refine z_aload_0 dX12_tellsItem_211 ?_
  refine z_aload_0 dX12_tellsItem_212 ?_
  refine z_getF 400 7 rfl f_X12_29 zl_393 rfl rfl dX12_tellsItem_213 ?_
  refine z_iload_1 dX12_tellsItem_216 ?_
  refine z_iald zl_400 (by omega) (by omega) dX12_tellsItem_217 ?_
  rw [hv]
  refine z_bipush dX12_tellsItem_218 (by decide) ?_
  refine z_isub dX12_tellsItem_220 (by omega) ?_
  refine z_iload_2 dX12_tellsItem_221 ?_
  refine z_iload_3 dX12_tellsItem_222 ?_
  refine z_iload_4 dX12_tellsItem_223 ?_
  refine z_iload_5 dX12_tellsItem_225 ?_
  refine z_callV5 (k_X12_sound hm) m_X12_sound zl_393 l_X12_237 (Nat.le_of_ble_eq_true rfl) ⟨Nat.le_of_ble_eq_true rfl, Nat.le_of_ble_eq_true rfl⟩ ⟨rfl, rfl⟩ dX12_tellsItem_227 (fun r μ1 hp => ?_)
  obtain ⟨rfl, hb⟩ := hp
  refine z_iflt (tgt := 237) dX12_tellsItem_230 (by decide) (fun h_230 => ?_) (fun h_230 => ?_)
  · refine z_iconst dX12_tellsItem_237 (by decide) ?_
    exact z_zret (by decide) dX12_tellsItem_238 (by rw [show zTk w - 10 = w - 7 from (tb.2.2.2 (by omega)).2] at hb h_230; first | exact zMt_1 (spT_7 (tb.2.2.2 (by omega)).1) (by omega) hb | exact zMt_0 hm.1 hw.1 (by have := (tb.2.2.2 (by omega)).1; omega) (spT_7 (tb.2.2.2 (by omega)).1) (by omega) hb)
  · refine z_iconst dX12_tellsItem_233 (by decide) ?_
    refine z_goto (tgt := 238) dX12_tellsItem_234 (by decide) ?_
    exact z_zret (by decide) dX12_tellsItem_238 (by rw [show zTk w - 10 = w - 7 from (tb.2.2.2 (by omega)).2] at hb h_230; first | exact zMt_1 (spT_7 (tb.2.2.2 (by omega)).1) (by omega) hb | exact zMt_0 hm.1 hw.1 (by have := (tb.2.2.2 (by omega)).1; omega) (spT_7 (tb.2.2.2 (by omega)).1) (by omega) hb)
theorem zIf_b {t : Int → Int} {n p f : Int} (hn : n ≤ 300) (p0 : 0 ≤ p) (pn : p ≤ n) (h : zIf t n p f) : -1 ≤ f ∧ f ≤ n := by
  rcases h with ⟨a, b⟩ | ⟨a, b⟩
  · omega
  · rcases b with ⟨i, i1, i2, i3, i4⟩ | ⟨b1, b2⟩
    · have := zIs_b (t := t) hn p0 pn i
      have := zIe_b (t := t) hn p0 pn i
      omega
    · have := zIs_b (t := t) hn p0 pn (zcn (zIw t n p)).toNat
      have := zIe_b (t := t) hn p0 pn (zcn (zIw t n p)).toNat
      rcases b2 with ⟨c1, c2⟩ | ⟨c1, c2⟩ <;> omega
theorem zRd9_f {t : Int → Int} {n : Int} {k : Nat} {f : Int} (n0 : 0 ≤ n) (hn : n ≤ 300) (h : zRd9 t n k f) : -1 ≤ f ∧ f ≤ 300 := by
  have b := zps_b n0 hn k h.1
  rcases h.2 with ⟨a, c⟩ | ⟨a, c, d⟩
  · omega
  · have := zIf_b hn b.1 b.2.1 c; omega
theorem zRd9_w {t : Int → Int} {n : Int} {k : Nat} {f : Int} (n0 : 0 ≤ n) (hn : n ≤ 300) (h : zRd9 t n k f) {j : Nat} (hj : j < k) : j < 61 ∧ 0 ≤ zIw t n (zps t n j) ∧ zIw t n (zps t n j) ≤ 11 := by
  have q := h.1 j hj
  have b := zps_b n0 hn j (fun i hi => h.1 i (by omega))
  have v : -1 ≤ zIw t n (zps t n j) ∧ zIw t n (zps t n j) ≤ 11 := zwv_b
  rcases q.2 with ⟨a, c⟩ | ⟨a, c⟩
  · omega
  · omega
def zHo (t : Int → Int) (n : Int) (r : Int) (V V2 : zM) : Prop := ∃ (k : Nat) (f : Int), zRd9 t n k f ∧ ((f ≠ -1 ∧ r = -10 - f ∧ V2 = V) ∨ (f = -1 ∧ ∃ m : Nat, zTd9 t n k m ∧ ((m = k ∧ r = (k : Int) ∧ V2 = zTS t n k) ∨ (m ≠ k ∧ r = -1000 - (m : Int) ∧ V2 = V))))
theorem zHo_u {t : Int → Int} {n r r2 : Int} {V V2 V3 : zM} (h : zHo t n r V V2) (g : zHo t n r2 V V3) : r = r2 ∧ V2 = V3 := by
  obtain ⟨k, f, a, b⟩ := h
  obtain ⟨k2, f2, a2, b2⟩ := g
  obtain ⟨rfl, rfl⟩ := zRd9_u a a2
  rcases b with ⟨b, c, d⟩ | ⟨b, m, c, d⟩
  · rcases b2 with ⟨b2, c2, d2⟩ | ⟨b2, _⟩
    · exact ⟨c.trans c2.symm, d.trans d2.symm⟩
    · exact absurd b2 b
  · rcases b2 with ⟨b2, _⟩ | ⟨b2, m2, c2, d2⟩
    · exact absurd b b2
    · obtain rfl := zTd9_u c c2
      rcases d with ⟨d, e, f⟩ | ⟨d, e, f⟩
      · rcases d2 with ⟨d2, e2, f2⟩ | ⟨d2, e2, f2⟩
        · exact ⟨e.trans e2.symm, f.trans f2.symm⟩
        · exact absurd d d2
      · rcases d2 with ⟨d2, e2, f2⟩ | ⟨d2, e2, f2⟩
        · exact absurd d2 d
        · exact ⟨e.trans e2.symm, f.trans f2.symm⟩
theorem zRk_1 {z : Int} {j : Int} : zRk 1 z j = 0 := by unfold zRk; rw [if_neg (by omega)]
theorem zBV_b0 {b : Int → Int} (h : ∀ k, 0 ≤ k → k < 172 → b k = if k = 5 then 2 else 0) : zBV b = zV0 := by
  have e : zBV b = zBV (fun k => if k = 5 then 2 else 0) := zBV_cg h (by decide)
  rw [e]
  funext k i
  unfold zBV zV0
  (repeat' split) <;> first | rfl | omega | exact if_neg (by omega) | (rename_i q; exact absurd q.1 (by assumption)) | simp_all
set_option maxRecDepth 100000 in
set_option maxHeartbeats 4000000 in
theorem k_X12_house {l : Launch} {E : zE} {μ : zM} (hm : zMpre μ) (hn : 0 ≤ μ 393 9 ∧ μ 393 9 ≤ 300) (hq0 : μ 393 7 = 0) : Ct l E yX12_house cX12_house 3 (some .int) ({ frames := 4, cells := 0, slots := 0, locals := 98 }) [zR 393] μ (fun r ν => ∃ z : Int, r = some (zI z) ∧ zHo (μ 399) (μ 393 9) z (zBV (μ 394)) (zBV (ν 394)) ∧ ν 394 0 = zsum (zBV (ν 394) 0) 36 ∧ (∀ j, 0 ≤ j → j < 3 → ν 398 j = μ 398 j) ∧ ν 393 7 = 0 ∧ (∀ k, k ≠ 7 → k ≠ 10 → k ≠ 11 → k ≠ 12 → k ≠ 13 → k ≠ 16 → ν 393 k = μ 393 k) ∧ (∀ x, x ≠ 393 → x ≠ 394 → x ≠ 397 → x ≠ 398 → x ≠ 400 → x ≠ 401 → ν x = μ x)) := by
  refine Ct.of RX12 [zR 393, zU, zU] (by decide +kernel) rfl ⟨rfl, rfl⟩ rfl (Nat.le_of_ble_eq_true rfl) (fun X hX hc0 ha0 => ?_)
  subst hX
  refine z_aload_0 dX12_house_0 ?_
  refine z_callV0 (k_X12_reads hn) m_X12_reads zl_393 l_X12_240 (Nat.le_of_ble_eq_true rfl) ⟨Nat.le_of_ble_eq_true rfl, Nat.le_of_ble_eq_true rfl⟩ ⟨rfl, rfl⟩ dX12_house_1 (fun r μ1 hp => ?_)
  obtain ⟨k, f, hrd, rfl, hk16, hf11, hrec, hkx, hxx⟩ := hp
  obtain ⟨ξ, hζ9⟩ : ∃ z, z = μ1 := ⟨_, rfl⟩
  subst hζ9
  have fb := zRd9_f hn.1 hn.2 hrd
  refine z_ifne (tgt := 15) dX12_house_4 (by decide) (fun h_4 => ?_) (fun h_4 => ?_)
  · replace h_4 := zb_n.mp h_4
    refine z_iconst dX12_house_15 (by decide) ?_
    refine z_istore_1 rfl dX12_house_16 ?_
    obtain rfl : f = -1 := h_4
    have h16 : ξ 393 16 = (k : Int) := hk16 rfl
    have J75 : ∀ (m : Nat) (η : zM), zTd9 (μ 399) (μ 393 9) k m → m < 62 → (m = k → zBV (η 394) = (zTS (μ 399) (μ 393 9) k) ∧ η 394 0 = zsum ((zTS (μ 399) (μ 393 9) k) 0) 36) → η 393 16 = (k : Int) → (∀ j, 0 ≤ j → j < 172 → η 397 j = μ 394 j) → (∀ j, 0 ≤ j → j < 3 → η 398 j = μ 398 j) → (∀ k, k ≠ 7 → k ≠ 10 → k ≠ 11 → k ≠ 12 → k ≠ 13 → k ≠ 16 → η 393 k = μ 393 k) → (∀ x, x ≠ 393 → x ≠ 394 → x ≠ 397 → x ≠ 398 → x ≠ 400 → x ≠ 401 → η x = μ x) → MW X E cX12_house RX12 ({ frames := 4, cells := 0, slots := 0, locals := 98 }) (some .int) (fun r ν => ∃ z : Int, r = some (zI z) ∧ zHo (μ 399) (μ 393 9) z (zBV (μ 394)) (zBV (ν 394)) ∧ ν 394 0 = zsum (zBV (ν 394) 0) 36 ∧ (∀ j, 0 ≤ j → j < 3 → ν 398 j = μ 398 j) ∧ ν 393 7 = 0 ∧ (∀ k, k ≠ 7 → k ≠ 10 → k ≠ 11 → k ≠ 12 → k ≠ 13 → k ≠ 16 → ν 393 k = μ 393 k) ∧ (∀ x, x ≠ 393 → x ≠ 394 → x ≠ 397 → x ≠ 398 → x ≠ 400 → x ≠ 401 → ν x = μ x)) 75 [zR 393, zI (m : Int), zU] [] η := by
      intro m η htd hmb hbook h16 hbk hrf hfk hfx
      refine z_aload_0 dX12_house_75 ?_
      refine z_iconst dX12_house_76 (by decide) ?_
      refine z_putZ 7 rfl (by decide) f_X12_96 p_12_7 zl_393 rfl rfl dX12_house_77 ?_
      refine z_iload_1 dX12_house_80 ?_
      refine z_aload_0 dX12_house_81 ?_
      refine z_getI 16 rfl f_X12_207 zl_393 rfl dX12_house_82 ?_
      rw [zup_ne (Or.inr (by decide)), h16]
      refine z_icmpne (tgt := 93) dX12_house_85 (by decide) (fun h_85 => ?_) (fun h_85 => ?_)
      · refine z_iconst dX12_house_93 (by decide) ?_
        refine z_istore_2 rfl dX12_house_94 ?_
        have hmk : m ≠ k := fun q => h_85 (by rw [q])
        have L95 : ∀ (c : Nat) (i : Int) (θ : zM), 0 ≤ i → i ≤ 172 → (∀ j, 0 ≤ j → j < i → θ 394 j = μ 394 j) → (∀ j, 0 ≤ j → j < 172 → θ 397 j = μ 394 j) → (∀ j, 0 ≤ j → j < 3 → θ 398 j = μ 398 j) → θ 393 7 = 0 → (∀ k, k ≠ 7 → k ≠ 10 → k ≠ 11 → k ≠ 12 → k ≠ 13 → k ≠ 16 → θ 393 k = μ 393 k) → (∀ x, x ≠ 393 → x ≠ 394 → x ≠ 397 → x ≠ 398 → x ≠ 400 → x ≠ 401 → θ x = μ x) → 172 - i < c → MW X E cX12_house RX12 ({ frames := 4, cells := 0, slots := 0, locals := 98 }) (some .int) (fun r ν => ∃ z : Int, r = some (zI z) ∧ zHo (μ 399) (μ 393 9) z (zBV (μ 394)) (zBV (ν 394)) ∧ ν 394 0 = zsum (zBV (ν 394) 0) 36 ∧ (∀ j, 0 ≤ j → j < 3 → ν 398 j = μ 398 j) ∧ ν 393 7 = 0 ∧ (∀ k, k ≠ 7 → k ≠ 10 → k ≠ 11 → k ≠ 12 → k ≠ 13 → k ≠ 16 → ν 393 k = μ 393 k) ∧ (∀ x, x ≠ 393 → x ≠ 394 → x ≠ 397 → x ≠ 398 → x ≠ 400 → x ≠ 401 → ν x = μ x)) 95 [zR 393, zI (m : Int), zI i] [] θ := by
          intro c
          induction c with
          | zero => intro i θ h1 h2 hz hbk hrf h7 hfk hfx h3; omega
          | succ c ih =>
            intro i θ h1 h2 hz hbk hrf h7 hfk hfx h3
            refine z_iload_2 dX12_house_95 ?_
            refine z_sipush dX12_house_96 (by decide) ?_
            refine z_icmpge (tgt := 120) dX12_house_99 (by decide) (fun h_99 => ?_) (fun h_99 => ?_)
            · refine z_sipush dX12_house_120 (by decide) ?_
              refine z_iload_1 dX12_house_123 ?_
              refine z_isub dX12_house_124 (by omega) ?_
              exact z_iret dX12_house_125 (by
                have ez : zBV (θ 394) = zBV (μ 394) := by
                  obtain ⟨nb, nf, nd, np, ns, nr⟩ := zOK_b hm.1
                  exact zBV_cg (fun j j0 j1 => hz j j0 (by omega)) (by omega)
                exact ⟨-1000 - (m : Int), rfl, ⟨k, -1, hrd, Or.inr ⟨rfl, m, htd, Or.inr ⟨hmk, rfl, ez⟩⟩⟩, by rw [ez, hz 0 (by decide) (by omega)]; exact hm.2.1, hrf, h7, hfk, hfx⟩)
            · refine z_aload_0 dX12_house_102 ?_
              refine z_getF 394 1 rfl f_X12_7 zl_393 rfl rfl dX12_house_103 ?_
              refine z_iload_2 dX12_house_106 ?_
              refine z_aload_0 dX12_house_107 ?_
              refine z_getF 397 4 rfl f_X12_20 zl_393 rfl rfl dX12_house_108 ?_
              refine z_iload_2 dX12_house_111 ?_
              refine z_iald zl_397 (by omega) (by omega) dX12_house_112 ?_
              refine z_iast zl_394 (by omega) (by omega) dX12_house_113 ?_
              refine z_iinc_2 rfl dX12_house_114 (by omega) ?_
              refine z_goto (tgt := 95) dX12_house_117 (by decide) ?_
              exact ih (i + 1) _ (by omega) (by omega) (fun j j0 j1 => by by_cases q : j = i; rw [q, zup_eq]; exact hbk i h1 (by omega); rw [zup_ne (Or.inr q)]; exact hz j j0 (by omega)) (fun j j0 j1 => by rw [zup_row (by decide)]; exact hbk j j0 j1) (fun j j0 j1 => by rw [zup_row (by decide)]; exact hrf j j0 j1) (by rw [zup_row (by decide)]; exact h7) (by rw [zup_row (by decide)]; exact hfk) (fun x x1 x2 x3 x4 x5 x6 => by rw [zup_row x2]; exact hfx x x1 x2 x3 x4 x5 x6) (by omega)
        exact L95 173 0 _ (by decide) (by decide) (fun j j0 j1 => by omega) (fun j j0 j1 => by rw [zup_row (by decide)]; exact hbk j j0 j1) (fun j j0 j1 => by rw [zup_row (by decide)]; exact hrf j j0 j1) zup_eq (fun k k7 k10 k11 k12 k13 k16 => by rw [zup_ne (Or.inr (by omega))]; exact hfk k k7 k10 k11 k12 k13 k16) (fun x x1 x2 x3 x4 x5 x6 => by rw [zup_row x1]; exact hfx x x1 x2 x3 x4 x5 x6) (by decide)
      · refine z_aload_0 dX12_house_88 ?_
        refine z_getI 16 rfl f_X12_207 zl_393 rfl dX12_house_89 ?_
        rw [zup_ne (Or.inr (by decide)), h16]
        exact z_iret dX12_house_92 (by
          obtain rfl : m = k := by omega
          have ek := hbook rfl
          have e394 : (zup η 393 7 0) 394 = η 394 := zup_row (by decide)
          refine ⟨(m : Int), rfl, ⟨m, -1, hrd, Or.inr ⟨rfl, m, htd, Or.inl ⟨rfl, rfl, by rw [e394]; exact ek.1⟩⟩⟩, by rw [e394, ek.1]; exact ek.2, fun j j0 j1 => by rw [zup_row (by decide)]; exact hrf j j0 j1, zup_eq, (fun k k7 k10 k11 k12 k13 k16 => by rw [zup_ne (Or.inr (by omega))]; exact hfk k k7 k10 k11 k12 k13 k16), (fun x x1 x2 x3 x4 x5 x6 => by rw [zup_row x1]; exact hfx x x1 x2 x3 x4 x5 x6)⟩)
    
    have L53 : ∀ (c : Nat) (m : Nat) (η : zM), m ≤ k → (∀ j : Nat, j < m → zTg9 (μ 399) (μ 393 9) j) → zBV (η 394) = (zTS (μ 399) (μ 393 9) m) → η 394 0 = zsum ((zTS (μ 399) (μ 393 9) m) 0) 36 → η 393 7 = 1 → η 393 16 = (k : Int) → η 400 = ξ 400 → η 401 = ξ 401 → (∀ j, 0 ≤ j → j < 172 → η 397 j = μ 394 j) → (∀ j, 0 ≤ j → j < 3 → η 398 j = μ 398 j) → (∀ k, k ≠ 7 → k ≠ 10 → k ≠ 11 → k ≠ 12 → k ≠ 13 → k ≠ 16 → η 393 k = μ 393 k) → (∀ x, x ≠ 393 → x ≠ 394 → x ≠ 397 → x ≠ 398 → x ≠ 400 → x ≠ 401 → η x = μ x) → k - m < c → MW X E cX12_house RX12 ({ frames := 4, cells := 0, slots := 0, locals := 98 }) (some .int) (fun r ν => ∃ z : Int, r = some (zI z) ∧ zHo (μ 399) (μ 393 9) z (zBV (μ 394)) (zBV (ν 394)) ∧ ν 394 0 = zsum (zBV (ν 394) 0) 36 ∧ (∀ j, 0 ≤ j → j < 3 → ν 398 j = μ 398 j) ∧ ν 393 7 = 0 ∧ (∀ k, k ≠ 7 → k ≠ 10 → k ≠ 11 → k ≠ 12 → k ≠ 13 → k ≠ 16 → ν 393 k = μ 393 k) ∧ (∀ x, x ≠ 393 → x ≠ 394 → x ≠ 397 → x ≠ 398 → x ≠ 400 → x ≠ 401 → ν x = μ x)) 53 [zR 393, zI (m : Int), zU] [] η := by
      intro c
      induction c with
      | zero => intro m η hmm hgood hV hS h7 h16 he0 he1 hbk hrf hfk hfx h3; omega
      | succ c ih =>
        intro m η hmm hgood hV hS h7 h16 he0 he1 hbk hrf hfk hfx h3
        refine z_iload_1 dX12_house_53 ?_
        refine z_aload_0 dX12_house_54 ?_
        refine z_getI 16 rfl f_X12_207 zl_393 rfl dX12_house_55 ?_
        rw [h16]
        refine z_icmpge (tgt := 75) dX12_house_58 (by decide) (fun h_58 => ?_) (fun h_58 => ?_)
        · obtain rfl : m = k := by omega
          exact J75 m η ⟨Nat.le_refl _, hgood, Or.inl rfl⟩ (by rcases Nat.eq_zero_or_pos m with q | q; omega; have := zRd9_w hn.1 hn.2 hrd (j := m - 1) (by omega); omega) (fun _ => ⟨hV, hS⟩) h16 hbk hrf hfk hfx
        · have hmk : m < k := by omega
          have hw := zRd9_w hn.1 hn.2 hrd hmk
          refine z_aload_0 dX12_house_61 ?_
          refine z_iload_1 dX12_house_62 ?_
          refine z_callV1 (k_X12_tellsItem (w := zIw (μ 399) (μ 393 9) (zps (μ 399) (μ 393 9) m)) ⟨by rw [hV]; exact zTS_ok m, by rw [hV]; exact hS, fun j j0 j1 => by rw [hrf j j0 j1]; exact hm.2.2.1 j j0 j1, Or.inr h7⟩ ⟨by omega, by have := hw.1; omega⟩ hw.2 (by rw [he0]; exact (hrec m hmk).1)) m_X12_tellsItem zl_393 l_X12_244 (Nat.le_of_ble_eq_true rfl) ⟨Nat.le_of_ble_eq_true rfl, Nat.le_of_ble_eq_true rfl⟩ ⟨rfl, rfl⟩ dX12_house_63 (fun r μ1 hp => ?_)
          rw [hV, spT_cg (g := zIn (μ 399) (μ 393 9) m) hw.2.1 (fun i i0 i1 => by have := (hrec m hmk).2 i.toNat (by omega); rw [show ((i.toNat : Nat) : Int) = i by omega] at this; unfold zAr zIn; rw [he1]; exact this)] at hp
          obtain ⟨rfl, q1, q2, q3, q4⟩ := hp
          obtain ⟨η2, hζ9⟩ : ∃ z, z = μ1 := ⟨_, rfl⟩
          subst hζ9
          replace q3 : ∀ j, 0 ≤ j → j < 3 → η2 398 j = μ 398 j := fun j j0 j1 => by rw [q3 j j0 j1, h7, zRk_1, hrf j j0 j1]; omega
          have q5 : ∀ x, x ≠ 393 → x ≠ 394 → x ≠ 397 → x ≠ 398 → x ≠ 400 → x ≠ 401 → η2 x = μ x := fun x x1 x2 x3 x4 x5 x6 => by rw [q4 x x2 x4]; exact hfx x x1 x2 x3 x4 x5 x6
          have q6 : ∀ k, k ≠ 7 → k ≠ 10 → k ≠ 11 → k ≠ 12 → k ≠ 13 → k ≠ 16 → η2 393 k = μ 393 k := fun k k7 k10 k11 k12 k13 k16 => by rw [q4 393 (by decide) (by decide)]; exact hfk k k7 k10 k11 k12 k13 k16
          have q7 : ∀ j, 0 ≤ j → j < 172 → η2 397 j = μ 394 j := fun j j0 j1 => by rw [q4 397 (by decide) (by decide)]; exact hbk j j0 j1
          have q8 : η2 393 16 = (k : Int) := by rw [q4 393 (by decide) (by decide)]; exact h16
          refine z_ifeq (tgt := 75) dX12_house_66 (by decide) (fun h_66 => ?_) (fun h_66 => ?_)
          · replace h_66 := zb_0.mp h_66
            exact J75 m η2 ⟨hmm, hgood, Or.inr h_66⟩ (by have := hw.1; omega) (fun q => by omega) q8 q7 q3 q6 q5
          · replace h_66 := zb_n.mp h_66
            refine z_iinc_1 rfl dX12_house_69 (by have := hw.1; omega) ?_
            refine z_goto (tgt := 53) dX12_house_72 (by decide) ?_
            refine ih (m + 1) η2 (by omega) (fun j hj => by by_cases q : j = m; rw [q]; exact h_66; exact hgood j (by omega)) (by rw [q1]; exact zTS_s.symm) (by rw [q2, zTS_s]) (by rw [q4 393 (by decide) (by decide)]; exact h7) q8 (by rw [q4 400 (by decide) (by decide)]; exact he0) (by rw [q4 401 (by decide) (by decide)]; exact he1) q7 q3 q6 q5 (by omega)
    have J42 : ∀ (i : Int) (ζ : zM), (∀ j, 0 ≤ j → j < 172 → ζ 397 j = μ 394 j) → (∀ a, a ≠ 397 → ζ a = ξ a) → MW X E cX12_house RX12 ({ frames := 4, cells := 0, slots := 0, locals := 98 }) (some .int) (fun r ν => ∃ z : Int, r = some (zI z) ∧ zHo (μ 399) (μ 393 9) z (zBV (μ 394)) (zBV (ν 394)) ∧ ν 394 0 = zsum (zBV (ν 394) 0) 36 ∧ (∀ j, 0 ≤ j → j < 3 → ν 398 j = μ 398 j) ∧ ν 393 7 = 0 ∧ (∀ k, k ≠ 7 → k ≠ 10 → k ≠ 11 → k ≠ 12 → k ≠ 13 → k ≠ 16 → ν 393 k = μ 393 k) ∧ (∀ x, x ≠ 393 → x ≠ 394 → x ≠ 397 → x ≠ 398 → x ≠ 400 → x ≠ 401 → ν x = μ x)) 42 [zR 393, zI i, zU] [] ζ := by
      intro i ζ hc hcx
      refine z_aload_0 dX12_house_42 ?_
      refine z_callV0 (k_X12_begins) m_X12_begins zl_393 l_X12_89 (Nat.le_of_ble_eq_true rfl) ⟨Nat.le_of_ble_eq_true rfl, Nat.le_of_ble_eq_true rfl⟩ ⟨rfl, rfl⟩ dX12_house_43 (fun r μ1 hp => ?_)
      obtain ⟨rfl, hb0, hbx⟩ := hp
      obtain ⟨ρ, hζ9⟩ : ∃ z, z = μ1 := ⟨_, rfl⟩
      subst hζ9
      refine z_aload_0 dX12_house_46 ?_
      refine z_iconst dX12_house_47 (by decide) ?_
      refine z_putZ 7 rfl (by decide) f_X12_96 p_12_7 zl_393 rfl rfl dX12_house_48 ?_
      refine z_iconst dX12_house_51 (by decide) ?_
      refine z_istore_1 rfl dX12_house_52 ?_
      have e394 : (zup ρ 393 7 1) 394 = ρ 394 := zup_row (by decide)
      have ebv : zBV (ρ 394) = zV0 := zBV_b0 hb0
      refine L53 (k + 1) 0 _ (Nat.zero_le _) (fun j hj => by omega) (by rw [e394]; exact ebv) (by rw [e394, hb0 0 (by decide) (by decide)]; exact zV0_sum.symm) zup_eq ?_ ?_ ?_ ?_ ?_ ?_ ?_ (by omega)
      · rw [zup_ne (Or.inr (by decide)), hbx 393 (by decide), hcx 393 (by decide)]; exact h16
      · rw [zup_row (by decide), hbx 400 (by decide), hcx 400 (by decide)]
      · rw [zup_row (by decide), hbx 401 (by decide), hcx 401 (by decide)]
      · intro j j0 j1; rw [zup_row (by decide), hbx 397 (by decide)]; exact hc j j0 j1
      · intro j j0 j1; rw [zup_row (by decide), hbx 398 (by decide), hcx 398 (by decide), hxx 398 (by decide) (by decide) (by decide)]
      · intro x k7 k10 k11 k12 k13 k16; rw [zup_ne (Or.inr k7), hbx 393 (by decide), hcx 393 (by decide)]; exact hkx x k10 k11 k12 k13 k16
      · intro x x1 x2 x3 x4 x5 x6; rw [zup_row x1, hbx x x2, hcx x x3]; exact hxx x x1 x5 x6
    
    have L17 : ∀ (c : Nat) (i : Int) (ζ : zM), 0 ≤ i → i ≤ 172 → (∀ j, 0 ≤ j → j < i → ζ 397 j = μ 394 j) → (∀ a, a ≠ 397 → ζ a = ξ a) → 172 - i < c → MW X E cX12_house RX12 ({ frames := 4, cells := 0, slots := 0, locals := 98 }) (some .int) (fun r ν => ∃ z : Int, r = some (zI z) ∧ zHo (μ 399) (μ 393 9) z (zBV (μ 394)) (zBV (ν 394)) ∧ ν 394 0 = zsum (zBV (ν 394) 0) 36 ∧ (∀ j, 0 ≤ j → j < 3 → ν 398 j = μ 398 j) ∧ ν 393 7 = 0 ∧ (∀ k, k ≠ 7 → k ≠ 10 → k ≠ 11 → k ≠ 12 → k ≠ 13 → k ≠ 16 → ν 393 k = μ 393 k) ∧ (∀ x, x ≠ 393 → x ≠ 394 → x ≠ 397 → x ≠ 398 → x ≠ 400 → x ≠ 401 → ν x = μ x)) 17 [zR 393, zI i, zU] [] ζ := by
      intro c
      induction c with
      | zero => intro i ζ h1 h2 hc hcx h3; omega
      | succ c ih =>
        intro i ζ h1 h2 hc hcx h3
        refine z_iload_1 dX12_house_17 ?_
        refine z_sipush dX12_house_18 (by decide) ?_
        refine z_icmpge (tgt := 42) dX12_house_21 (by decide) (fun h_21 => ?_) (fun h_21 => ?_)
        · exact J42 i ζ (fun j j0 j1 => hc j j0 (by omega)) hcx
        · refine z_aload_0 dX12_house_24 ?_
          refine z_getF 397 4 rfl f_X12_20 zl_393 rfl rfl dX12_house_25 ?_
          refine z_iload_1 dX12_house_28 ?_
          refine z_aload_0 dX12_house_29 ?_
          refine z_getF 394 1 rfl f_X12_7 zl_393 rfl rfl dX12_house_30 ?_
          refine z_iload_1 dX12_house_33 ?_
          refine z_iald zl_394 (by omega) (by omega) dX12_house_34 ?_
          refine z_iast zl_397 (by omega) (by omega) dX12_house_35 ?_
          refine z_iinc_1 rfl dX12_house_36 (by omega) ?_
          refine z_goto (tgt := 17) dX12_house_39 (by decide) ?_
          exact ih (i + 1) _ (by omega) (by omega) (fun j j0 j1 => by by_cases q : j = i; rw [q, zup_eq, hcx 394 (by decide), hxx 394 (by decide) (by decide) (by decide)]; rw [zup_ne (Or.inr q)]; exact hc j j0 (by omega)) (fun a ha => by rw [zup_row ha]; exact hcx a ha) (by omega)
    exact L17 173 0 ξ (by decide) (by decide) (fun j j0 j1 => by omega) (fun a ha => rfl) (by decide)
  · replace h_4 := zb_0.mp h_4
    refine z_bipush dX12_house_7 (by decide) ?_
    refine z_aload_0 dX12_house_9 ?_
    refine z_getI 11 rfl f_X12_190 zl_393 rfl dX12_house_10 ?_
    rw [hf11 h_4]
    refine z_isub dX12_house_13 (by omega) ?_
    exact z_iret dX12_house_14 (⟨-10 - f, rfl, ⟨k, f, hrd, Or.inl ⟨h_4, rfl, by rw [hxx 394 (by decide) (by decide) (by decide)]⟩⟩, by rw [hxx 394 (by decide) (by decide) (by decide)]; exact hm.2.1, fun j j0 j1 => by rw [hxx 398 (by decide) (by decide) (by decide)], by rw [hkx 7 (by decide) (by decide) (by decide) (by decide) (by decide)]; exact hq0, fun x k7 k10 k11 k12 k13 k16 => hkx x k10 k11 k12 k13 k16, fun x x1 x2 x3 x4 x5 x6 => hxx x x1 x5 x6⟩)
