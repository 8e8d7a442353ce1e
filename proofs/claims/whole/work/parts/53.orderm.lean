/-- the book of the search: the house but in one kind; nothing else of the row is written -/
def zBk (off : Int) (b b2 : Int → Int) : Prop := ∀ y, (∀ j, 0 ≤ j → j < b 2 → y ≠ 90 + 6 * j + off) → b2 y = b y
theorem zBk_9 {b b2 : Int → Int} (ok : zOK (zBV b)) (h : zBk 5 b b2) : zBV b2 = zVk 9 (zBV b) (fun i => b2 (90 + 6 * i + 5)) := zBV_k9 (zBV_bd ok) h (fun _ _ _ => rfl)
theorem zBk_6 {b b2 : Int → Int} (ok : zOK (zBV b)) (h : zBk 2 b b2) : zBV b2 = zVk 6 (zBV b) (fun i => b2 (90 + 6 * i + 2)) := zBV_k6 (zBV_bd ok) h (fun _ _ _ => rfl)
theorem zBk_u {b b2 : Int → Int} {off k v : Int} (h : zBk off b b2) (k0 : 0 ≤ k) (k1 : k < b 2) : zBk off b (zfu b2 (90 + 6 * k + off) v) := fun y hy => by rw [zfu_n (hy k k0 k1)]; exact h y hy
theorem zBk_e {b b2 : Int → Int} {off : Int} (h : zBk off b b2) (g : ∀ j, 0 ≤ j → j < b 2 → b2 (90 + 6 * j + off) = b (90 + 6 * j + off)) : b2 = b := by
  funext y
  by_cases q : ∃ j, 0 ≤ j ∧ j < b 2 ∧ y = 90 + 6 * j + off
  · obtain ⟨j, j0, j1, rfl⟩ := q
    exact g j j0 j1
  · exact h y (fun j j0 j1 e => q ⟨j, j0, j1, e⟩)
set_option maxRecDepth 100000 in
set_option maxHeartbeats 4000000 in
theorem k_X12_findBest {l : Launch} {E : zE} {μ : zM} {rules : Int} (hm : zMpre μ) (hq : μ 393 18 = 0) : Ct l E yX12_findBest cX12_findBest 6 (some .boolean) ({ frames := 6, cells := 0, slots := 0, locals := 142 }) [zR 393, zI rules] μ (fun r ν => r = some (zI (zb ((zPB (zBV (μ 394)) rules).1 = 1))) ∧ ((zPB (zBV (μ 394)) rules).1 = 1 → ν 393 39 = (zPB (zBV (μ 394)) rules).2.1 ∧ ∀ k, 0 ≤ k → k < (zBV (μ 394) 3 3) → ν 418 k = zrw (zPB (zBV (μ 394)) rules).2.2.2 (zBV (μ 394) 3 0) (zBV (μ 394) 3 3) k) ∧ zMf μ ν) := by
  refine Ct.of RX12 [zR 393, zI rules, zU, zU, zU, zU] (by decide +kernel) rfl ⟨rfl, rfl⟩ rfl (Nat.le_of_ble_eq_true rfl) (fun X hX hc0 ha0 => ?_)
  subst hX
  have np := hm.1.2.1.1
  have nb := hm.1.1.2.1
  have pcm : zBV (μ 394) 3 3 = μ 394 2 := rfl
  have bcm : zBV (μ 394) 3 0 = μ 394 1 := rfl
  have tb := zpo_b (b := (zBV (μ 394) 3 0)) (n := (zBV (μ 394) 3 3).toNat) nb.1 nb.2 (by omega)
  have J139 : ∀ (ξ : zM) (u9 v9 : zAV), ξ 393 41 = (zPB (zBV (μ 394)) rules).1 → ((zPB (zBV (μ 394)) rules).1 = 1 → ξ 393 39 = (zPB (zBV (μ 394)) rules).2.1 ∧ ∀ k, 0 ≤ k → k < (zBV (μ 394) 3 3) → ξ 418 k = zrw (zPB (zBV (μ 394)) rules).2.2.2 (zBV (μ 394) 3 0) (zBV (μ 394) 3 3) k) → zBk 5 (μ 394) (ξ 394) → (∀ k, 0 ≤ k → k < (zBV (μ 394) 3 3) → ξ 419 k = (zBV (μ 394)) 9 k) → (∀ k, k ≠ 31 → k ≠ 32 → k ≠ 33 → k ≠ 39 → k ≠ 40 → k ≠ 41 → ξ 393 k = μ 393 k) → (∀ x : Nat, x ≠ 393 → x ≠ 394 → (x < 402 ∨ 419 < x) → ξ x = μ x) → MW X E cX12_findBest RX12 ({ frames := 6, cells := 0, slots := 0, locals := 142 }) (some .boolean) (fun r ν => r = some (zI (zb ((zPB (zBV (μ 394)) rules).1 = 1))) ∧ ((zPB (zBV (μ 394)) rules).1 = 1 → ν 393 39 = (zPB (zBV (μ 394)) rules).2.1 ∧ ∀ k, 0 ≤ k → k < (zBV (μ 394) 3 3) → ν 418 k = zrw (zPB (zBV (μ 394)) rules).2.2.2 (zBV (μ 394) 3 0) (zBV (μ 394) 3 3) k) ∧ zMf μ ν) 139 [zR 393, zI rules, zI (zBV (μ 394) 3 3), zI (zpo (zBV (μ 394) 3 0) (zBV (μ 394) 3 3).toNat), u9, v9] [] ξ := by
    intro ξ u9 v9 ha hbst hbk hhad hk hx
    have L : ∀ (k : Nat) (j : Nat) (ζ4 : zM), (j : Int) ≤ (zBV (μ 394) 3 3) → zBk 5 (μ 394) (ζ4 394) → (∀ y, 0 ≤ y → y < (j : Int) → ζ4 394 (90 + 6 * y + 5) = (zBV (μ 394)) 9 y) → (∀ x : Nat, x ≠ 394 → ζ4 x = ξ x) → (zBV (μ 394) 3 3) - (j : Int) < k → MW X E cX12_findBest RX12 ({ frames := 6, cells := 0, slots := 0, locals := 142 }) (some .boolean) (fun r ν => r = some (zI (zb ((zPB (zBV (μ 394)) rules).1 = 1))) ∧ ((zPB (zBV (μ 394)) rules).1 = 1 → ν 393 39 = (zPB (zBV (μ 394)) rules).2.1 ∧ ∀ k, 0 ≤ k → k < (zBV (μ 394) 3 3) → ν 418 k = zrw (zPB (zBV (μ 394)) rules).2.2.2 (zBV (μ 394) 3 0) (zBV (μ 394) 3 3) k) ∧ zMf μ ν) 142 [zR 393, zI rules, zI (zBV (μ 394) 3 3), zI (zpo (zBV (μ 394) 3 0) (zBV (μ 394) 3 3).toNat), zI (j : Int), v9] [] ζ4 := by
      intro k
      induction k with
      | zero => intro j ζ4 hj hbk4 hg4 hz4 h6; omega
      | succ k ih =>
        intro j ζ4 hj hbk4 hg4 hz4 h6
        refine z_iload_4 dX12_findBest_142 ?_
        refine z_iload_2 dX12_findBest_144 ?_
        refine z_icmpge (tgt := 176) dX12_findBest_145 (by decide) (fun h_145 => ?_) (fun h_145 => ?_)
        · have h94e : ζ4 394 = μ 394 := zBk_e hbk4 (fun y y0 y1 => by rw [hg4 y y0 (by omega)]; exact zBV_9 y0 y1)
          have hmf : zMf μ ζ4 := ⟨fun k a b c d e f => by rw [hz4 393 (by decide)]; exact hk k a b c d e f, fun x x1 x2 => by
            by_cases e : x = 394
            · rw [e, h94e]
            · rw [hz4 x e]; exact hx x x1 e x2⟩
          refine z_aload_0 dX12_findBest_176 ?_
          refine z_getI 41 rfl f_X12_317 zl_393 rfl dX12_findBest_177 ?_
          rw [hz4 393 (by decide)]
          rw [ha]
          have s01 : (zPB (zBV (μ 394)) rules).1 = 0 ∨ (zPB (zBV (μ 394)) rules).1 = 1 := (zSe_01 (T := (zTB (zBV (μ 394)) rules)) (W := (zWB (zBV (μ 394)))) (G := (zGB (zBV (μ 394)))) (n := (zpo (zBV (μ 394) 3 0) (zBV (μ 394) 3 3).toNat).toNat)).1
          exact z_zret s01 dX12_findBest_180 ⟨congrArg (fun z => (some (zI z) : Option zAV)) (s01.elim (fun q => by rw [q, zb_f (by decide)]) (fun q => by rw [q, zb_t rfl])), fun q => by rw [hz4 393 (by decide), hz4 418 (by decide)]; exact hbst q, hmf⟩
        · refine z_aload_0 dX12_findBest_148 ?_
          refine z_getF 394 1 rfl f_X12_7 zl_393 rfl rfl dX12_findBest_149 ?_
          refine z_bipush dX12_findBest_152 (by decide) ?_
          refine z_bipush dX12_findBest_154 (by decide) ?_
          refine z_iload_4 dX12_findBest_156 ?_
          refine z_imul dX12_findBest_158 (by omega) ?_
          refine z_iadd dX12_findBest_159 (by omega) ?_
          refine z_iconst dX12_findBest_160 (by decide) ?_
          refine z_iadd dX12_findBest_161 (by omega) ?_
          refine z_aload_0 dX12_findBest_162 ?_
          refine z_getF 419 26 rfl f_X12_86 zl_393 rfl rfl dX12_findBest_163 ?_
          refine z_iload_4 dX12_findBest_166 ?_
          refine z_iald zl_419 (by omega) (by omega) dX12_findBest_168 ?_
          refine z_iast zl_394 (by omega) (by omega) dX12_findBest_169 ?_
          refine z_iinc_4 rfl dX12_findBest_170 (by omega) ?_
          refine z_goto (tgt := 142) dX12_findBest_173 (by decide) ?_
          exact ih (j + 1) _ (by omega) (by rw [zup_fu]; exact zBk_u hbk4 (by omega) (by omega)) (fun y y0 y1 => by
            rw [zup_fu]
            by_cases e : y = j
            · rw [e, zfu_e, hz4 419 (by decide)]; exact hhad j (by omega) (by omega)
            · rw [zfu_n (by omega)]; exact hg4 y y0 (by omega)) (fun x x1 => by rw [zup_row x1]; exact hz4 x x1) (by omega)
    refine z_iconst dX12_findBest_139 (by decide) ?_
    refine z_istore_4 rfl dX12_findBest_140 ?_
    exact L 9 0 ξ (by omega) hbk (fun y y0 y1 => by omega) (fun _ _ => rfl) (by omega)
  have LB : ∀ (k : Nat) (i : Nat) (ξ : zM), (i : Int) ≤ (zpo (zBV (μ 394) 3 0) (zBV (μ 394) 3 3).toNat) → ξ 393 41 = (zSe (zTB (zBV (μ 394)) rules) (zWB (zBV (μ 394))) (zGB (zBV (μ 394))) i).1 → ((zSe (zTB (zBV (μ 394)) rules) (zWB (zBV (μ 394))) (zGB (zBV (μ 394))) i).1 = 1 → ξ 393 39 = (zSe (zTB (zBV (μ 394)) rules) (zWB (zBV (μ 394))) (zGB (zBV (μ 394))) i).2.1 ∧ ξ 393 40 = (zSe (zTB (zBV (μ 394)) rules) (zWB (zBV (μ 394))) (zGB (zBV (μ 394))) i).2.2.1 ∧ ∀ k, 0 ≤ k → k < (zBV (μ 394) 3 3) → ξ 418 k = zrw (zSe (zTB (zBV (μ 394)) rules) (zWB (zBV (μ 394))) (zGB (zBV (μ 394))) i).2.2.2 (zBV (μ 394) 3 0) (zBV (μ 394) 3 3) k) → zBk 5 (μ 394) (ξ 394) → zFar (zBV (μ 394)) (ξ 402) → (∀ k, 0 ≤ k → k < (zBV (μ 394) 3 3) → ξ 419 k = (zBV (μ 394)) 9 k) → (∀ k, k ≠ 31 → k ≠ 32 → k ≠ 33 → k ≠ 39 → k ≠ 40 → k ≠ 41 → ξ 393 k = μ 393 k) → (∀ x : Nat, x ≠ 393 → x ≠ 394 → (x < 402 ∨ 419 < x) → ξ x = μ x) → (zpo (zBV (μ 394) 3 0) (zBV (μ 394) 3 3).toNat) - (i : Int) < k → MW X E cX12_findBest RX12 ({ frames := 6, cells := 0, slots := 0, locals := 142 }) (some .boolean) (fun r ν => r = some (zI (zb ((zPB (zBV (μ 394)) rules).1 = 1))) ∧ ((zPB (zBV (μ 394)) rules).1 = 1 → ν 393 39 = (zPB (zBV (μ 394)) rules).2.1 ∧ ∀ k, 0 ≤ k → k < (zBV (μ 394) 3 3) → ν 418 k = zrw (zPB (zBV (μ 394)) rules).2.2.2 (zBV (μ 394) 3 0) (zBV (μ 394) 3 3) k) ∧ zMf μ ν) 59 [zR 393, zI rules, zI (zBV (μ 394) 3 3), zI (zpo (zBV (μ 394) 3 0) (zBV (μ 394) 3 3).toNat), zI (i : Int), zU] [] ξ := by
    intro k
    induction k with
    | zero => intro i ξ hi ha hbst hbk far hhad hk hx h9; omega
    | succ k ih =>
      intro i ξ hi ha hbst hbk far hhad hk hx h9
      have hc2 : ξ 394 2 = (zBV (μ 394) 3 3) := hbk 2 (fun j j0 j1 => by omega)
      have hc1 : ξ 394 1 = (zBV (μ 394) 3 0) := hbk 1 (fun j j0 j1 => by omega)
      refine z_iload_4 dX12_findBest_59 ?_
      refine z_iload_3 dX12_findBest_61 ?_
      refine z_icmpge (tgt := 139) dX12_findBest_62 (by decide) (fun h_62 => ?_) (fun h_62 => ?_)
      · have hPI : (zPB (zBV (μ 394)) rules) = (zSe (zTB (zBV (μ 394)) rules) (zWB (zBV (μ 394))) (zGB (zBV (μ 394))) i) := by unfold zPB; rw [show (zpo (zBV (μ 394) 3 0) (zBV (μ 394) 3 3).toNat).toNat = i by omega]
        exact J139 ξ _ _ (by rw [ha, hPI]) (by rw [hPI]; exact fun z => ⟨(hbst z).1, (hbst z).2.2⟩) hbk hhad hk hx
      · have hbp : 0 < (zBV (μ 394) 3 3) → 0 < (zBV (μ 394) 3 0) := fun q => zpo_p (n := (zBV (μ 394) 3 3).toNat) (by omega) (by omega) (by omega)
        refine z_aload_0 dX12_findBest_65 ?_
        refine z_iload_4 dX12_findBest_66 ?_
        refine z_aload_0 dX12_findBest_68 ?_
        refine z_getF 394 1 rfl f_X12_7 zl_393 rfl rfl dX12_findBest_69 ?_
        refine z_iconst dX12_findBest_72 (by decide) ?_
        refine z_iald zl_394 (by omega) (by omega) dX12_findBest_73 ?_
        rw [hc1]
        refine z_iload_2 dX12_findBest_74 ?_
        refine z_callV3 (k_X12_opens (by omega) (by omega) (by omega) (fun q => hbp q)) m_X12_opens zl_393 l_X12_326 (Nat.le_of_ble_eq_true rfl) ⟨Nat.le_of_ble_eq_true rfl, Nat.le_of_ble_eq_true rfl⟩ ⟨rfl, rfl⟩ dX12_findBest_75 (fun r μ1 hp => ?_)
        obtain ⟨rfl, hrow, hk_⟩ := hp
        obtain ⟨ζ1, hζ9⟩ : ∃ z, z = μ1 := ⟨_, rfl⟩
        subst hζ9
        have hbk1 : zBk 5 (μ 394) (ζ1 394) := by rw [hk_ 394 (by decide)]; exact hbk
        have far1 : zFar (zBV (μ 394)) (ζ1 402) := by rw [hk_ 402 (by decide)]; exact far
        have hhad1 : ∀ k, 0 ≤ k → k < (zBV (μ 394) 3 3) → ζ1 419 k = (zBV (μ 394)) 9 k := by rw [hk_ 419 (by decide)]; exact hhad
        have hk1 : ∀ k, k ≠ 31 → k ≠ 32 → k ≠ 33 → k ≠ 39 → k ≠ 40 → k ≠ 41 → ζ1 393 k = μ 393 k := by rw [hk_ 393 (by decide)]; exact hk
        have hx1 : ∀ x : Nat, x ≠ 393 → x ≠ 394 → (x < 402 ∨ 419 < x) → ζ1 x = μ x := fun x x1 x2 x3 => (hk_ x (by omega)).trans (hx x x1 x2 x3)
        have ha1 : ζ1 393 41 = (zSe (zTB (zBV (μ 394)) rules) (zWB (zBV (μ 394))) (zGB (zBV (μ 394))) i).1 := by rw [hk_ 393 (by decide)]; exact ha
        have hbst1 : (zSe (zTB (zBV (μ 394)) rules) (zWB (zBV (μ 394))) (zGB (zBV (μ 394))) i).1 = 1 → ζ1 393 39 = (zSe (zTB (zBV (μ 394)) rules) (zWB (zBV (μ 394))) (zGB (zBV (μ 394))) i).2.1 ∧ ζ1 393 40 = (zSe (zTB (zBV (μ 394)) rules) (zWB (zBV (μ 394))) (zGB (zBV (μ 394))) i).2.2.1 ∧ ∀ k, 0 ≤ k → k < (zBV (μ 394) 3 3) → ζ1 418 k = zrw (zSe (zTB (zBV (μ 394)) rules) (zWB (zBV (μ 394))) (zGB (zBV (μ 394))) i).2.2.2 (zBV (μ 394) 3 0) (zBV (μ 394) 3 3) k := by rw [hk_ 393 (by decide), hk_ 418 (by decide)]; exact hbst
        have hV1 : zTl 9 (zBV (μ 394)) (zBV (ζ1 394)) := by rw [zBk_9 hm.1 hbk1]; exact ⟨fun k q => zVk_ne q, fun x q => zVk_out q⟩
        have okr : zOKr (zBV (ζ1 394)) := by
          unfold zOKr
          rw [hV1.1 3 (by decide), hV1.1 15 (by decide), hV1.1 16 (by decide), hV1.1 17 (by decide)]
          exact hm.1.2.2.2
        have J129 : zTB (zBV (μ 394)) rules (i : Int) → ∀ (ζ5 : zM) (u : zAV), zBk 5 (μ 394) (ζ5 394) → (∀ k, 0 ≤ k → k < (zBV (μ 394) 3 3) → ζ5 394 (90 + 6 * k + 5) = (zrw (i : Int) (zBV (μ 394) 3 0) (zBV (μ 394) 3 3)) k) → (∀ x : Nat, x ≠ 394 → ζ5 x = ζ1 x) → MW X E cX12_findBest RX12 ({ frames := 6, cells := 0, slots := 0, locals := 142 }) (some .boolean) (fun r ν => r = some (zI (zb ((zPB (zBV (μ 394)) rules).1 = 1))) ∧ ((zPB (zBV (μ 394)) rules).1 = 1 → ν 393 39 = (zPB (zBV (μ 394)) rules).2.1 ∧ ∀ k, 0 ≤ k → k < (zBV (μ 394) 3 3) → ν 418 k = zrw (zPB (zBV (μ 394)) rules).2.2.2 (zBV (μ 394) 3 0) (zBV (μ 394) 3 3) k) ∧ zMf μ ν) 129 [zR 393, zI rules, zI (zBV (μ 394) 3 3), zI (zpo (zBV (μ 394) 3 0) (zBV (μ 394) 3 3).toNat), zI (i : Int), u] [] ζ5 := by
          intro hT ζ5 u hbk5 hg5 hz5
          have h5c : ζ5 394 2 = (zBV (μ 394) 3 3) := hbk5 2 (fun j j0 j1 => by omega)
          have hV5 : zBV (ζ5 394) = zVk 9 (zBV (μ 394)) (zrw (i : Int) (zBV (μ 394) 3 0) (zBV (μ 394) 3 3)) := zBV_k9 (zBV_bd hm.1) hbk5 hg5
          have hokk : zOK (zVk 9 (zBV (μ 394)) (zrw (i : Int) (zBV (μ 394) 3 0) (zBV (μ 394) 3 3))) := zVk_9ok hm.1 (fun x x0 x1 => by have := zrw_b (c := (i : Int)) (n := (zBV (μ 394) 3 3)) (k := x) (hbp (by omega)); omega)
          have far5 : zFar (zBV (μ 394)) (ζ5 402) := by rw [hz5 402 (by decide)]; exact far1
          have hhad5 : ∀ k, 0 ≤ k → k < (zBV (μ 394) 3 3) → ζ5 419 k = (zBV (μ 394)) 9 k := by rw [hz5 419 (by decide)]; exact hhad1
          have hk5 : ∀ k, k ≠ 31 → k ≠ 32 → k ≠ 33 → k ≠ 39 → k ≠ 40 → k ≠ 41 → ζ5 393 k = μ 393 k := by rw [hz5 393 (by decide)]; exact hk1
          have hx5 : ∀ x : Nat, x ≠ 393 → x ≠ 394 → (x < 402 ∨ 419 < x) → ζ5 x = μ x := fun x x1 x2 x3 => (hz5 x x2).trans (hx1 x x1 x2 x3)
          have ha5 : ζ5 393 41 = (zSe (zTB (zBV (μ 394)) rules) (zWB (zBV (μ 394))) (zGB (zBV (μ 394))) i).1 := by rw [hz5 393 (by decide)]; exact ha1
          have hbst5 : (zSe (zTB (zBV (μ 394)) rules) (zWB (zBV (μ 394))) (zGB (zBV (μ 394))) i).1 = 1 → ζ5 393 39 = (zSe (zTB (zBV (μ 394)) rules) (zWB (zBV (μ 394))) (zGB (zBV (μ 394))) i).2.1 ∧ ζ5 393 40 = (zSe (zTB (zBV (μ 394)) rules) (zWB (zBV (μ 394))) (zGB (zBV (μ 394))) i).2.2.1 ∧ ∀ k, 0 ≤ k → k < (zBV (μ 394) 3 3) → ζ5 418 k = zrw (zSe (zTB (zBV (μ 394)) rules) (zWB (zBV (μ 394))) (zGB (zBV (μ 394))) i).2.2.2 (zBV (μ 394) 3 0) (zBV (μ 394) 3 3) k := by rw [hz5 393 (by decide), hz5 418 (by decide)]; exact hbst1
          have hrow5 : ∀ k, 0 ≤ k → k < (zBV (μ 394) 3 3) → ζ5 417 k = (zrw (i : Int) (zBV (μ 394) 3 0) (zBV (μ 394) 3 3)) k := fun k k0 k1 => by rw [hz5 417 (by decide)]; exact hrow k k0 k1
          refine z_aload_0 dX12_findBest_129 ?_
          refine z_callV0 (k_X12_keepsBetter (by rw [hV5]; exact hokk) (by rw [hV5]; exact zFar_op (zVk_op (by decide)) far5) (by rw [hk5 18 (by decide) (by decide) (by decide) (by decide) (by decide) (by decide)]; exact hq)) m_X12_keepsBetter zl_393 l_X12_333 (Nat.le_of_ble_eq_true rfl) ⟨Nat.le_of_ble_eq_true rfl, Nat.le_of_ble_eq_true rfl⟩ ⟨rfl, rfl⟩ dX12_findBest_130 (fun r μ1 hp => ?_)
          rw [hV5] at hp
          obtain ⟨rfl, ⟨f1, f2⟩, hkb⟩ := hp
          obtain ⟨ζ6, hζ9⟩ : ∃ z, z = μ1 := ⟨_, rfl⟩
          subst hζ9
          have hW : zWR (zVk 9 (zBV (μ 394)) (zrw (i : Int) (zBV (μ 394) 3 0) (zBV (μ 394) 3 3))) 0 = (zWB (zBV (μ 394))) (i : Int) := rfl
          have hG : zGR (zVk 9 (zBV (μ 394)) (zrw (i : Int) (zBV (μ 394) 3 0) (zBV (μ 394) 3 3))) 0 = (zGB (zBV (μ 394))) (i : Int) := rfl
          rw [hW, hG, ha5, h5c] at hkb
          have hbk6 : zBk 5 (μ 394) (ζ6 394) := by rw [f2 394 (by decide) (by decide) (by decide)]; exact hbk5
          have far6 : zFar (zBV (μ 394)) (ζ6 402) := by rw [f2 402 (by decide) (by decide) (by decide)]; exact far5
          have hhad6 : ∀ k, 0 ≤ k → k < (zBV (μ 394) 3 3) → ζ6 419 k = (zBV (μ 394)) 9 k := by rw [f2 419 (by decide) (by decide) (by decide)]; exact hhad5
          have hk6 : ∀ k, k ≠ 31 → k ≠ 32 → k ≠ 33 → k ≠ 39 → k ≠ 40 → k ≠ 41 → ζ6 393 k = μ 393 k := fun k a b c d e f => (f1 k a b c d e f).trans (hk5 k a b c d e f)
          have hx6 : ∀ x : Nat, x ≠ 393 → x ≠ 394 → (x < 402 ∨ 419 < x) → ζ6 x = μ x := fun x x1 x2 x3 => (f2 x x1 (by omega) (by omega)).trans (hx5 x x1 x2 x3)
          refine z_iinc_4 rfl dX12_findBest_133 (by omega) ?_
          refine z_goto (tgt := 59) dX12_findBest_136 (by decide) ?_
          rcases hkb with ⟨hco, w3, w1, w2, wb⟩ | ⟨hco, w3, w1, w2, wb⟩
          · have hco2 : (zSe (zTB (zBV (μ 394)) rules) (zWB (zBV (μ 394))) (zGB (zBV (μ 394))) i).1 = 0 ∨ (zSe (zTB (zBV (μ 394)) rules) (zWB (zBV (μ 394))) (zGB (zBV (μ 394))) i).2.1 < (zWB (zBV (μ 394))) (i : Int) ∨ ((zWB (zBV (μ 394))) (i : Int) = (zSe (zTB (zBV (μ 394)) rules) (zWB (zBV (μ 394))) (zGB (zBV (μ 394))) i).2.1 ∧ (zSe (zTB (zBV (μ 394)) rules) (zWB (zBV (μ 394))) (zGB (zBV (μ 394))) i).2.2.1 < (zGB (zBV (μ 394))) (i : Int)) := by
              rcases (zSe_01 (T := (zTB (zBV (μ 394)) rules)) (W := (zWB (zBV (μ 394)))) (G := (zGB (zBV (μ 394)))) (n := i)).1 with z | z
              · exact Or.inl z
              · obtain ⟨b1, b2, -⟩ := hbst5 z
                rw [b1, b2] at hco
                exact hco
            refine z_weak (ls' := [zR 393, zI rules, zI (zBV (μ 394) 3 3), zI (zpo (zBV (μ 394) 3 0) (zBV (μ 394) 3 3).toNat), zI ((i + 1 : Nat) : Int), zU]) ⟨Or.inl rfl, Or.inl rfl, Or.inl rfl, Or.inl rfl, Or.inl rfl, Or.inr rfl, trivial⟩ (ih (i + 1) ζ6 (by omega) (by rw [zSe_s, zif_t ⟨hT, hco2⟩]; exact w3) (by rw [zSe_s, zif_t ⟨hT, hco2⟩]; exact fun _ => ⟨w1, w2, fun k k0 k1 => by rw [wb k k0 k1, hrow5 k k0 k1]⟩) hbk6 far6 hhad6 hk6 hx6 (by omega))
          · have hco2 : ¬ ((zSe (zTB (zBV (μ 394)) rules) (zWB (zBV (μ 394))) (zGB (zBV (μ 394))) i).1 = 0 ∨ (zSe (zTB (zBV (μ 394)) rules) (zWB (zBV (μ 394))) (zGB (zBV (μ 394))) i).2.1 < (zWB (zBV (μ 394))) (i : Int) ∨ ((zWB (zBV (μ 394))) (i : Int) = (zSe (zTB (zBV (μ 394)) rules) (zWB (zBV (μ 394))) (zGB (zBV (μ 394))) i).2.1 ∧ (zSe (zTB (zBV (μ 394)) rules) (zWB (zBV (μ 394))) (zGB (zBV (μ 394))) i).2.2.1 < (zGB (zBV (μ 394))) (i : Int))) := fun c => by
              rcases (zSe_01 (T := (zTB (zBV (μ 394)) rules)) (W := (zWB (zBV (μ 394)))) (G := (zGB (zBV (μ 394)))) (n := i)).1 with z | z
              · exact hco (Or.inl z)
              · obtain ⟨b1, b2, -⟩ := hbst5 z
                rw [b1, b2] at hco
                exact hco c
            refine z_weak (ls' := [zR 393, zI rules, zI (zBV (μ 394) 3 3), zI (zpo (zBV (μ 394) 3 0) (zBV (μ 394) 3 3).toNat), zI ((i + 1 : Nat) : Int), zU]) ⟨Or.inl rfl, Or.inl rfl, Or.inl rfl, Or.inl rfl, Or.inl rfl, Or.inr rfl, trivial⟩ (ih (i + 1) ζ6 (by omega) (by rw [zSe_s, zif_f (fun q => hco2 q.2), w3]) (by rw [zSe_s, zif_f (fun q => hco2 q.2), w1, w2, wb]; exact hbst5) hbk6 far6 hhad6 hk6 hx6 (by omega))
        have J92 : zTB (zBV (μ 394)) rules (i : Int) → MW X E cX12_findBest RX12 ({ frames := 6, cells := 0, slots := 0, locals := 142 }) (some .boolean) (fun r ν => r = some (zI (zb ((zPB (zBV (μ 394)) rules).1 = 1))) ∧ ((zPB (zBV (μ 394)) rules).1 = 1 → ν 393 39 = (zPB (zBV (μ 394)) rules).2.1 ∧ ∀ k, 0 ≤ k → k < (zBV (μ 394) 3 3) → ν 418 k = zrw (zPB (zBV (μ 394)) rules).2.2.2 (zBV (μ 394) 3 0) (zBV (μ 394) 3 3) k) ∧ zMf μ ν) 92 [zR 393, zI rules, zI (zBV (μ 394) 3 3), zI (zpo (zBV (μ 394) 3 0) (zBV (μ 394) 3 3).toNat), zI (i : Int), zU] [] ζ1 := by
          intro hT
          refine z_iconst dX12_findBest_92 (by decide) ?_
          refine z_istore_5 rfl dX12_findBest_93 ?_
          have L95 : ∀ (m : Nat) (k : Nat) (ζ5 : zM), (k : Int) ≤ (zBV (μ 394) 3 3) → zBk 5 (μ 394) (ζ5 394) → (∀ y, 0 ≤ y → y < (k : Int) → ζ5 394 (90 + 6 * y + 5) = (zrw (i : Int) (zBV (μ 394) 3 0) (zBV (μ 394) 3 3)) y) → (∀ x : Nat, x ≠ 394 → ζ5 x = ζ1 x) → (zBV (μ 394) 3 3) - (k : Int) < m → MW X E cX12_findBest RX12 ({ frames := 6, cells := 0, slots := 0, locals := 142 }) (some .boolean) (fun r ν => r = some (zI (zb ((zPB (zBV (μ 394)) rules).1 = 1))) ∧ ((zPB (zBV (μ 394)) rules).1 = 1 → ν 393 39 = (zPB (zBV (μ 394)) rules).2.1 ∧ ∀ k, 0 ≤ k → k < (zBV (μ 394) 3 3) → ν 418 k = zrw (zPB (zBV (μ 394)) rules).2.2.2 (zBV (μ 394) 3 0) (zBV (μ 394) 3 3) k) ∧ zMf μ ν) 95 [zR 393, zI rules, zI (zBV (μ 394) 3 3), zI (zpo (zBV (μ 394) 3 0) (zBV (μ 394) 3 3).toNat), zI (i : Int), zI (k : Int)] [] ζ5 := by
            intro m
            induction m with
            | zero => intro k ζ5 hk9 hbk5 hg5 hz5 h6; omega
            | succ m ih5 =>
              intro k ζ5 hk9 hbk5 hg5 hz5 h6
              refine z_iload_5 dX12_findBest_95 ?_
              refine z_iload_2 dX12_findBest_97 ?_
              refine z_icmpge (tgt := 129) dX12_findBest_98 (by decide) (fun h_98 => ?_) (fun h_98 => ?_)
              · exact J129 hT ζ5 _ hbk5 (fun y y0 y1 => hg5 y y0 (by omega)) hz5
              · refine z_aload_0 dX12_findBest_101 ?_
                refine z_getF 394 1 rfl f_X12_7 zl_393 rfl rfl dX12_findBest_102 ?_
                refine z_bipush dX12_findBest_105 (by decide) ?_
                refine z_bipush dX12_findBest_107 (by decide) ?_
                refine z_iload_5 dX12_findBest_109 ?_
                refine z_imul dX12_findBest_111 (by omega) ?_
                refine z_iadd dX12_findBest_112 (by omega) ?_
                refine z_iconst dX12_findBest_113 (by decide) ?_
                refine z_iadd dX12_findBest_114 (by omega) ?_
                refine z_aload_0 dX12_findBest_115 ?_
                refine z_getF 417 24 rfl f_X12_80 zl_393 rfl rfl dX12_findBest_116 ?_
                refine z_iload_5 dX12_findBest_119 ?_
                refine z_iald zl_417 (by omega) (by omega) dX12_findBest_121 ?_
                refine z_iast zl_394 (by omega) (by omega) dX12_findBest_122 ?_
                refine z_iinc_5 rfl dX12_findBest_123 (by omega) ?_
                refine z_goto (tgt := 95) dX12_findBest_126 (by decide) ?_
                exact ih5 (k + 1) _ (by omega) (by rw [zup_fu]; exact zBk_u hbk5 (by omega) (by omega)) (fun y y0 y1 => by
                  rw [zup_fu]
                  by_cases e : y = k
                  · rw [e, zfu_e, hz5 417 (by decide)]; exact hrow k (by omega) (by omega)
                  · rw [zfu_n (by omega)]; exact hg5 y y0 (by omega)) (fun x x1 => by rw [zup_row x1]; exact hz5 x x1) (by omega)
          exact L95 9 0 ζ1 (by omega) hbk1 (fun y y0 y1 => by omega) (fun _ _ => rfl) (by omega)
        refine z_ifeq (tgt := 133) dX12_findBest_78 (by decide) (fun h_78 => ?_) (fun h_78 => ?_)
        · replace h_78 := zb_0.mp h_78
          refine z_iinc_4 rfl dX12_findBest_133 (by omega) ?_
          refine z_goto (tgt := 59) dX12_findBest_136 (by decide) ?_
          refine z_weak (ls' := [zR 393, zI rules, zI (zBV (μ 394) 3 3), zI (zpo (zBV (μ 394) 3 0) (zBV (μ 394) 3 3).toNat), zI ((i + 1 : Nat) : Int), zU]) ⟨Or.inl rfl, Or.inl rfl, Or.inl rfl, Or.inl rfl, Or.inl rfl, Or.inr rfl, trivial⟩ (ih (i + 1) ζ1 (by omega) (by rw [zSe_s, zif_f (fun q => h_78 q.1.1)]; exact ha1) (by rw [zSe_s, zif_f (fun q => h_78 q.1.1)]; exact hbst1) hbk1 far1 hhad1 hk1 hx1 (by omega))
        · replace h_78 := zb_n.mp h_78
          refine z_iload_1 dX12_findBest_81 ?_
          refine z_ifeq (tgt := 92) dX12_findBest_82 (by decide) (fun h_82 => ?_) (fun h_82 => ?_)
          · exact J92 ⟨h_78, fun q => absurd h_82 q⟩
          · refine z_aload_0 dX12_findBest_85 ?_
            refine z_callV0 (k_X12_isRuled (by rw [hV1.1 3 (by decide)]; exact hm.1.2.1.1) (by rw [hV1.1 3 (by decide)]; exact hm.1.1.2.1) okr) m_X12_isRuled zl_393 l_X12_330 (Nat.le_of_ble_eq_true rfl) ⟨Nat.le_of_ble_eq_true rfl, Nat.le_of_ble_eq_true rfl⟩ ⟨rfl, rfl⟩ dX12_findBest_86 (fun r μ1 hp => ?_)
            obtain ⟨rfl, hv⟩ := hp
            replace hv := hv.symm
            subst hv
            have hal : zAl (zBV (ζ1 394)) (ζ1 417) ↔ zAl (zBV (μ 394)) (zrw (i : Int) (zBV (μ 394) 3 0) (zBV (μ 394) 3 3)) := (zTl_a hV1 (by decide) (by decide)).trans (zRu_c hm.1 (fun x x0 x1 => hrow x x0 x1))
            refine z_ifeq (tgt := 133) dX12_findBest_89 (by decide) (fun h_89 => ?_) (fun h_89 => ?_)
            · replace h_89 := zb_0.mp h_89
              refine z_iinc_4 rfl dX12_findBest_133 (by omega) ?_
              refine z_goto (tgt := 59) dX12_findBest_136 (by decide) ?_
              refine z_weak (ls' := [zR 393, zI rules, zI (zBV (μ 394) 3 3), zI (zpo (zBV (μ 394) 3 0) (zBV (μ 394) 3 3).toNat), zI ((i + 1 : Nat) : Int), zU]) ⟨Or.inl rfl, Or.inl rfl, Or.inl rfl, Or.inl rfl, Or.inl rfl, Or.inr rfl, trivial⟩ (ih (i + 1) ζ1 (by omega) (by rw [zSe_s, zif_f (fun q => h_89 (hal.mpr (q.1.2 h_82)))]; exact ha1) (by rw [zSe_s, zif_f (fun q => h_89 (hal.mpr (q.1.2 h_82)))]; exact hbst1) hbk1 far1 hhad1 hk1 hx1 (by omega))
            · replace h_89 := zb_n.mp h_89
              exact J92 ⟨h_78, fun _ => hal.mp h_89⟩
  have LA : ∀ (k : Nat) (i : Nat) (ξ : zM), (i : Int) ≤ (zBV (μ 394) 3 3) → (∀ k, 0 ≤ k → k < (i : Int) → ξ 419 k = (zBV (μ 394)) 9 k) → (∀ x : Nat, x ≠ 419 → ξ x = μ x) → (zBV (μ 394) 3 3) - (i : Int) < k → MW X E cX12_findBest RX12 ({ frames := 6, cells := 0, slots := 0, locals := 142 }) (some .boolean) (fun r ν => r = some (zI (zb ((zPB (zBV (μ 394)) rules).1 = 1))) ∧ ((zPB (zBV (μ 394)) rules).1 = 1 → ν 393 39 = (zPB (zBV (μ 394)) rules).2.1 ∧ ∀ k, 0 ≤ k → k < (zBV (μ 394) 3 3) → ν 418 k = zrw (zPB (zBV (μ 394)) rules).2.2.2 (zBV (μ 394) 3 0) (zBV (μ 394) 3 3) k) ∧ zMf μ ν) 12 [zR 393, zI rules, zI (zBV (μ 394) 3 3), zI (zpo (zBV (μ 394) 3 0) i), zI (i : Int), zU] [] ξ := by
    intro k
    induction k with
    | zero => intro i ξ hi hhad hx h7; omega
    | succ k ih =>
      intro i ξ hi hhad hx h7
      refine z_iload_4 dX12_findBest_12 ?_
      refine z_iload_2 dX12_findBest_14 ?_
      refine z_icmpge (tgt := 47) dX12_findBest_15 (by decide) (fun h_15 => ?_) (fun h_15 => ?_)
      · refine z_aload_0 dX12_findBest_47 ?_
        refine z_iconst dX12_findBest_48 (by decide) ?_
        refine z_putZ 41 rfl (by decide) f_X12_317 p_12_41 zl_393 rfl rfl dX12_findBest_49 ?_
        refine z_aload_0 dX12_findBest_52 ?_
        refine z_callV0 (k_X12_looks) m_X12_looks zl_393 l_X12_255 (Nat.le_of_ble_eq_true rfl) ⟨Nat.le_of_ble_eq_true rfl, Nat.le_of_ble_eq_true rfl⟩ ⟨rfl, rfl⟩ dX12_findBest_53 (fun r μ1 hp => ?_)
        obtain ⟨rfl, far, hL⟩ := hp
        obtain ⟨ζ0, hζ9⟩ : ∃ z, z = μ1 := ⟨_, rfl⟩
        subst hζ9
        refine z_iconst dX12_findBest_56 (by decide) ?_
        refine z_istore_4 rfl dX12_findBest_57 ?_
        have h94 : ζ0 394 = μ 394 := by rw [hL 394 (by decide), zup_row (by decide), hx 394 (by decide)]
        rw [show (i : Nat) = (zBV (μ 394) 3 3).toNat by omega]
        refine z_weak (ls' := [zR 393, zI rules, zI (zBV (μ 394) 3 3), zI (zpo (zBV (μ 394) 3 0) (zBV (μ 394) 3 3).toNat), zI ((0 : Nat) : Int), zU]) ⟨Or.inl rfl, Or.inl rfl, Or.inl rfl, Or.inl rfl, Or.inl rfl, Or.inr rfl, trivial⟩ ?_
        exact LB 8000 0 ζ0 (by omega) (by rw [hL 393 (by decide), zup_eq]; rfl) (fun q => absurd q (by show ¬ ((0 : Int) = 1); decide)) (by rw [h94]; exact fun _ _ => rfl) (by rw [show zup ξ 393 41 0 394 = μ 394 by rw [zup_row (by decide), hx 394 (by decide)]] at far; exact far) (fun k k0 k1 => by rw [hL 419 (by decide), zup_row (by decide)]; exact hhad k k0 (by omega)) (fun k _ _ _ _ _ k41 => by rw [hL 393 (by decide), zup_ne (Or.inr k41), hx 393 (by decide)]) (fun x x1 _ x3 => by rw [hL x (by omega), zup_row x1]; exact hx x (by omega)) (by omega)
      · have q1 := zpo_b nb.1 nb.2 (n := i) (by omega)
        have q2 := zpo_b nb.1 nb.2 (n := i + 1) (by omega)
        rw [zpo_s] at q2
        have h94 : ξ 394 = μ 394 := hx 394 (by decide)
        have e9 : ξ 394 (90 + 6 * (i : Int) + 5) = zBV (μ 394) 9 (i : Int) := by rw [h94]; exact (zBV_9 (by omega) (by omega)).symm
        refine z_iload_3 dX12_findBest_18 ?_
        refine z_aload_0 dX12_findBest_19 ?_
        refine z_getF 394 1 rfl f_X12_7 zl_393 rfl rfl dX12_findBest_20 ?_
        refine z_iconst dX12_findBest_23 (by decide) ?_
        refine z_iald zl_394 (by omega) (by omega) dX12_findBest_24 ?_
        rw [show ξ 394 1 = (zBV (μ 394) 3 0) by rw [h94]; rfl]
        refine z_imul dX12_findBest_25 (by omega) ?_
        refine z_istore_3 rfl dX12_findBest_26 ?_
        refine z_aload_0 dX12_findBest_27 ?_
        refine z_getF 419 26 rfl f_X12_86 zl_393 rfl rfl dX12_findBest_28 ?_
        refine z_iload_4 dX12_findBest_31 ?_
        refine z_aload_0 dX12_findBest_33 ?_
        refine z_iload_4 dX12_findBest_34 ?_
        refine z_iconst dX12_findBest_36 (by decide) ?_
        refine z_callV2 (k_X12_of (by omega) (by omega) (by decide) (by decide)) m_X12_of zl_393 l_X12_147 (Nat.le_of_ble_eq_true rfl) ⟨Nat.le_of_ble_eq_true rfl, Nat.le_of_ble_eq_true rfl⟩ ⟨rfl, rfl⟩ dX12_findBest_37 (fun r μ1 hp => ?_)
        obtain ⟨rfl, hv⟩ := hp
        replace hv := hv.symm
        subst hv
        refine z_iast zl_419 (by omega) (by omega) dX12_findBest_40 ?_
        refine z_iinc_4 rfl dX12_findBest_41 (by omega) ?_
        refine z_goto (tgt := 12) dX12_findBest_44 (by decide) ?_
        refine z_weak (ls' := [zR 393, zI rules, zI (zBV (μ 394) 3 3), zI (zpo (zBV (μ 394) 3 0) (i + 1)), zI ((i + 1 : Nat) : Int), zU]) ⟨Or.inl rfl, Or.inl rfl, Or.inl rfl, Or.inl rfl, Or.inl rfl, Or.inr rfl, trivial⟩ (ih (i + 1) _ (by omega) (fun y y0 y1 => by
          by_cases e : y = i
          · rw [e, zup_eq]; exact e9 
          · rw [zup_ne (Or.inr e)]; exact hhad y y0 (by omega)) (fun x x1 => by rw [zup_row x1]; exact hx x x1) (by omega))
  refine z_aload_0 dX12_findBest_0 ?_
  refine z_getF 394 1 rfl f_X12_7 zl_393 rfl rfl dX12_findBest_1 ?_
  refine z_iconst dX12_findBest_4 (by decide) ?_
  refine z_iald zl_394 (by omega) (by omega) dX12_findBest_5 ?_
  rw [show μ 394 2 = (zBV (μ 394) 3 3) from rfl]
  refine z_istore_2 rfl dX12_findBest_6 ?_
  refine z_iconst dX12_findBest_7 (by decide) ?_
  refine z_istore_3 rfl dX12_findBest_8 ?_
  refine z_iconst dX12_findBest_9 (by decide) ?_
  refine z_istore_4 rfl dX12_findBest_10 ?_
  exact LA 9 0 μ (by omega) (fun y y0 y1 => by omega) (fun _ _ => rfl) (by omega)
