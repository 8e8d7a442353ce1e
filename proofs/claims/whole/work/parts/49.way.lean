theorem zRw_e {op : Int → Prop} {s : Int} {G : Int → Int} (h : zRw op s G) {c : Int} (c0 : 0 ≤ c) (c1 : c < 36) : (G c = 1000 ∧ zDs op s c = -1) ∨ (G c = zDs op s c ∧ 0 ≤ zDs op s c ∧ zDs op s c ≤ 40) := by
  have e := zDs_eq h.1 c0 c1
  have q := h.2 c c0 c1
  unfold zFA at e
  split at e
  · exact Or.inl ⟨by assumption, e.symm⟩
  · exact Or.inr ⟨e, by omega, by omega⟩
theorem zWn_j {op : Int → Prop} {V : zM} {G : Int → Int} {s c w : Int} (h : zRw op s G) (hop : ∀ x, op x → V 0 x ≠ 1) (c0 : 0 ≤ c) (c1 : c < 36) (w0 : 0 ≤ w) (w4 : w < 4) (hp : 0 < zDs op s c) : (zNw V c w ≠ -1 ∧ G (zNw V c w) = G c - 1) ↔ zWn (zDs op s) c w := by
  have ec := zRw_e h c0 c1
  constructor
  · intro q
    obtain ⟨r0, r1, r2, r3⟩ := zNw_r c0 c1 q.1
    have en := zRw_e h r0.1 r0.2
    exact ⟨r3, by rw [← r1]; omega⟩
  · intro q
    have nr := zNb_r c0 c1 q.1
    have q2 := q.2
    have o := zDM_op (zDs_of h.1) nr.1 nr.2 (by omega)
    have e : zNw V c w = zNb c w := by unfold zNw; rw [if_neg (fun x => hop _ o x.2)]
    have en := zRw_e h nr.1 nr.2
    rw [e]
    exact ⟨q.1, by omega⟩
set_option maxRecDepth 100000 in
set_option maxHeartbeats 4000000 in
theorem k_X12_paths {l : Launch} {E : zE} {μ V : zM} {a b m9 : Int} (hV : zBV (μ 394) = V) (hlo : ∀ c, 0 ≤ c → c < 36 → μ 415 c = zLo V c) (a0 : 0 ≤ a) (a1 : a < 36) (b0 : 0 ≤ b) (b1 : b < 36) (ob : V 0 b ≠ 1) : Ct l E yX12_paths cX12_paths 9 none ({ frames := 2, cells := 0, slots := 0, locals := 49 }) [zR 393, zI a, zI b, zI m9] μ (fun r ν => r = none ∧ zRw (zPo V a m9) b (ν 416) ∧ ∀ x, x ≠ 416 → ν x = μ x) := by
  refine Ct.of RX12 [zR 393, zI a, zI b, zI m9, zU, zU, zU, zU, zU] (by decide +kernel) rfl ⟨rfl, rfl⟩ rfl (Nat.le_of_ble_eq_true rfl) (fun X hX hc0 ha0 => ?_)
  subst hX
  have L2 : ∀ (k : Nat) (ξ : zM) (d m : Int), 0 ≤ d → d ≤ 37 → zLq (zPo V a m9) b (ξ 416) (d - 1) m 36 0 → (∀ x, x ≠ 416 → ξ x = μ x) → 40 - d < k → MW X E cX12_paths RX12 ({ frames := 2, cells := 0, slots := 0, locals := 49 }) none (fun r ν => r = none ∧ zRw (zPo V a m9) b (ν 416) ∧ ∀ x, x ≠ 416 → ν x = μ x) 60 [zR 393, zI a, zI b, zI m9, zI m, zI d, zU, zU, zU] [] ξ := by
    intro k
    induction k with
    | zero => intro ξ d m hd0 hd1 hB hfr h4; omega
    | succ k ih2 =>
      intro ξ d m hd0 hd1 hB hfr h4
      have dB := zLq_b hB
      have L3 : ∀  (k : Nat) (ξ : zM) (m c : Int), 0 ≤ c → c ≤ 36 → zLq (zPo V a m9) b (ξ 416) d m c 0 → (∀ x, x ≠ 416 → ξ x = μ x) → 36 - c < k → MW X E cX12_paths RX12 ({ frames := 2, cells := 0, slots := 0, locals := 49 }) none (fun r ν => r = none ∧ zRw (zPo V a m9) b (ν 416) ∧ ∀ x, x ≠ 416 → ν x = μ x) 71 [zR 393, zI a, zI b, zI m9, zI m, zI d, zI c, zU, zU] [] ξ := by
        intro  k
        induction k with
        | zero => intro ξ m c hc0' hc1 hB hfr h4; omega
        | succ k ih3 =>
          intro ξ m c hc0' hc1 hB hfr h4
          have L4 : ∀  (k : Nat) (ξ : zM) (m t : Int), 0 ≤ t → t ≤ 4 → c < 36 → zLq (zPo V a m9) b (ξ 416) d m c t → (∀ x, x ≠ 416 → ξ x = μ x) → 4 - t < k → MW X E cX12_paths RX12 ({ frames := 2, cells := 0, slots := 0, locals := 49 }) none (fun r ν => r = none ∧ zRw (zPo V a m9) b (ν 416) ∧ ∀ x, x ≠ 416 → ν x = μ x) 81 [zR 393, zI a, zI b, zI m9, zI m, zI d, zI c, zI t, zU] [] ξ := by
            intro  k
            induction k with
            | zero => intro ξ m t ht0 ht1 hc36 hB hfr h4; omega
            | succ k ih4 =>
              intro ξ m t ht0 ht1 hc36 hB hfr h4
              have h394 : ξ 394 = μ 394 := hfr 394 (by decide)
              have hV2 : zBV (ξ 394) = V := by rw [h394]; exact hV
              have db := zLq_b hB
              have gb := hB.2.1
              refine z_iload_7 dX12_paths_81 ?_
              refine z_iconst dX12_paths_83 (by decide) ?_
              refine z_icmpge (tgt := 183) dX12_paths_84 (by decide) (fun h_84 => ?_) (fun h_84 => ?_)
              · refine z_iinc_6 rfl dX12_paths_183 (by omega) ?_
                refine z_goto (tgt := 71) dX12_paths_186 (by decide) ?_
                exact z_weak (ls' := [zR 393, zI a, zI b, zI m9, zI m, zI d, zI (c + 1), zU, zU]) ⟨Or.inl rfl, Or.inl rfl, Or.inl rfl, Or.inl rfl, Or.inl rfl, Or.inl rfl, Or.inl rfl, Or.inr rfl, Or.inr rfl, trivial⟩ (ih3 ξ m (c + 1) (by omega) (by omega) (zLq_next hB (by first | exact Or.inr (by omega) | exact Or.inl h_96)) hfr (by omega))
              · refine z_aload_0 dX12_paths_87 ?_
                refine z_getF 416 23 rfl f_X12_77 zl_393 rfl rfl dX12_paths_88 ?_
                refine z_iload_6 dX12_paths_91 ?_
                refine z_iald zl_416 (by omega) (by omega) dX12_paths_93 ?_
                refine z_iload_5 dX12_paths_94 ?_
                refine z_icmpne (tgt := 183) dX12_paths_96 (by decide) (fun h_96 => ?_) (fun h_96 => ?_)
                · refine z_iinc_6 rfl dX12_paths_183 (by omega) ?_
                  refine z_goto (tgt := 71) dX12_paths_186 (by decide) ?_
                  exact z_weak (ls' := [zR 393, zI a, zI b, zI m9, zI m, zI d, zI (c + 1), zU, zU]) ⟨Or.inl rfl, Or.inl rfl, Or.inl rfl, Or.inl rfl, Or.inl rfl, Or.inl rfl, Or.inl rfl, Or.inr rfl, Or.inr rfl, trivial⟩ (ih3 ξ m (c + 1) (by omega) (by omega) (zLq_next hB (by first | exact Or.inr (by omega) | exact Or.inl h_96)) hfr (by omega))
                · have hdc : ξ 416 c = d := h_96
                  refine z_aload_0 dX12_paths_99 ?_
                  refine z_iload_6 dX12_paths_100 ?_
                  refine z_iload_7 dX12_paths_102 ?_
                  refine z_callV2 (k_X12_beside (by omega) (by omega)) m_X12_beside zl_393 l_X12_249 (Nat.le_of_ble_eq_true rfl) ⟨Nat.le_of_ble_eq_true rfl, Nat.le_of_ble_eq_true rfl⟩ ⟨rfl, rfl⟩ dX12_paths_104 (fun r μ1 hp => ?_)
                  obtain ⟨rfl, hv⟩ := hp
                  replace hv := hv.symm
                  subst hv
                  rw [hV2]
                  have nr := fun h => zNw_r (V := V) (c := c) (w := t) (by omega) (by omega) h
                  refine z_istore_8 rfl dX12_paths_107 ?_
                  refine z_iload_8 dX12_paths_109 ?_
                  refine z_iconst dX12_paths_111 (by decide) ?_
                  refine z_icmpeq (tgt := 177) dX12_paths_112 (by decide) (fun h_112 => ?_) (fun h_112 => ?_)
                  · refine z_iinc_7 rfl dX12_paths_177 (by omega) ?_
                    refine z_goto (tgt := 81) dX12_paths_180 (by decide) ?_
                    exact z_weak (ls' := [zR 393, zI a, zI b, zI m9, zI m, zI d, zI c, zI (t + 1), zU]) ⟨Or.inl rfl, Or.inl rfl, Or.inl rfl, Or.inl rfl, Or.inl rfl, Or.inl rfl, Or.inl rfl, Or.inl rfl, Or.inr rfl, trivial⟩ (ih4 ξ m (t + 1) (by omega) (by omega) hc36 (zLq_skip hB (by have h := h_112; unfold zNw at h; split at h; exact Or.inr (Or.inl (fun o => o.1 (by rename_i q; exact q.2))); exact Or.inl h) hdc (by omega) (by omega)) hfr (by omega))
                  · have nb := nr h_112
                    refine z_aload_0 dX12_paths_115 ?_
                    refine z_getF 416 23 rfl f_X12_77 zl_393 rfl rfl dX12_paths_116 ?_
                    refine z_iload_8 dX12_paths_119 ?_
                    refine z_ifge (tgt := 128) dX12_paths_121 (by decide) (fun h_121 => ?_) (fun h_121 => ?_)
                    · refine z_iload_8 dX12_paths_128 ?_
                      refine z_iald zl_416 (by omega) (by omega) dX12_paths_130 ?_
                      refine z_sipush dX12_paths_131 (by decide) ?_
                      refine z_icmpne (tgt := 177) dX12_paths_134 (by decide) (fun h_134 => ?_) (fun h_134 => ?_)
                      · refine z_iinc_7 rfl dX12_paths_177 (by omega) ?_
                        refine z_goto (tgt := 81) dX12_paths_180 (by decide) ?_
                        exact z_weak (ls' := [zR 393, zI a, zI b, zI m9, zI m, zI d, zI c, zI (t + 1), zU]) ⟨Or.inl rfl, Or.inl rfl, Or.inl rfl, Or.inl rfl, Or.inl rfl, Or.inl rfl, Or.inl rfl, Or.inl rfl, Or.inr rfl, trivial⟩ (ih4 ξ m (t + 1) (by omega) (by omega) hc36 (zLq_skip hB (Or.inr (Or.inr (by rw [← nb.2.1]; exact h_134))) hdc (by omega) (by omega)) hfr (by omega))
                      · refine z_iload_8 dX12_paths_137 ?_
                        refine z_iload_1 dX12_paths_139 ?_
                        refine z_icmpeq (tgt := 163) dX12_paths_140 (by decide) (fun h_140 => ?_) (fun h_140 => ?_)
                        · refine z_aload_0 dX12_paths_163 ?_
                          refine z_getF 416 23 rfl f_X12_77 zl_393 rfl rfl dX12_paths_164 ?_
                          refine z_iload_8 dX12_paths_167 ?_
                          refine z_iload_5 dX12_paths_169 ?_
                          refine z_iconst dX12_paths_171 (by decide) ?_
                          refine z_iadd dX12_paths_172 (by omega) ?_
                          refine z_iast zl_416 (by omega) (by omega) dX12_paths_173 ?_
                          refine z_iconst dX12_paths_174 (by decide) ?_
                          refine z_istore_4 rfl dX12_paths_175 ?_
                          refine z_iinc_7 rfl dX12_paths_177 (by omega) ?_
                          refine z_goto (tgt := 81) dX12_paths_180 (by decide) ?_
                          exact z_weak (ls' := [zR 393, zI a, zI b, zI m9, zI 1, zI d, zI c, zI (t + 1), zU]) ⟨Or.inl rfl, Or.inl rfl, Or.inl rfl, Or.inl rfl, Or.inl rfl, Or.inl rfl, Or.inl rfl, Or.inl rfl, Or.inr rfl, trivial⟩ (ih4 (zup ξ 416 (zNw V c t) (d + 1)) 1 (t + 1) (by omega) (by omega) hc36 (by rw [zup_fu]; exact zLq_set hB (by omega) (by omega) nb.2.1.symm h_112 ⟨by rw [nb.2.1]; exact nb.2.2.1, Or.inl h_140⟩ h_134 hdc (by omega) (by omega)) (fun x hx => by rw [zup_row hx]; exact hfr x hx) (by omega))
                        · refine z_aload_0 dX12_paths_143 ?_
                          refine z_getF 415 22 rfl f_X12_74 zl_393 rfl rfl dX12_paths_144 ?_
                          refine z_iload_8 dX12_paths_147 ?_
                          refine z_ifge (tgt := 156) dX12_paths_149 (by decide) (fun h_149 => ?_) (fun h_149 => ?_)
                          · refine z_iload_8 dX12_paths_156 ?_
                            refine z_iald zl_415 (by omega) (by omega) dX12_paths_158 ?_
                            rw [hfr 415 (by decide), hlo _ nb.1.1 nb.1.2]
                            refine z_iload_3 dX12_paths_159 ?_
                            refine z_icmpgt (tgt := 177) dX12_paths_160 (by decide) (fun h_160 => ?_) (fun h_160 => ?_)
                            · refine z_iinc_7 rfl dX12_paths_177 (by omega) ?_
                              refine z_goto (tgt := 81) dX12_paths_180 (by decide) ?_
                              exact z_weak (ls' := [zR 393, zI a, zI b, zI m9, zI m, zI d, zI c, zI (t + 1), zU]) ⟨Or.inl rfl, Or.inl rfl, Or.inl rfl, Or.inl rfl, Or.inl rfl, Or.inl rfl, Or.inl rfl, Or.inl rfl, Or.inr rfl, trivial⟩ (ih4 ξ m (t + 1) (by omega) (by omega) hc36 (zLq_skip hB (Or.inr (Or.inl (fun o => by rw [← nb.2.1] at o; rcases o.2 with q | q; exact h_140 q; omega))) hdc (by omega) (by omega)) hfr (by omega))
                            · refine z_aload_0 dX12_paths_163 ?_
                              refine z_getF 416 23 rfl f_X12_77 zl_393 rfl rfl dX12_paths_164 ?_
                              refine z_iload_8 dX12_paths_167 ?_
                              refine z_iload_5 dX12_paths_169 ?_
                              refine z_iconst dX12_paths_171 (by decide) ?_
                              refine z_iadd dX12_paths_172 (by omega) ?_
                              refine z_iast zl_416 (by omega) (by omega) dX12_paths_173 ?_
                              refine z_iconst dX12_paths_174 (by decide) ?_
                              refine z_istore_4 rfl dX12_paths_175 ?_
                              refine z_iinc_7 rfl dX12_paths_177 (by omega) ?_
                              refine z_goto (tgt := 81) dX12_paths_180 (by decide) ?_
                              exact z_weak (ls' := [zR 393, zI a, zI b, zI m9, zI 1, zI d, zI c, zI (t + 1), zU]) ⟨Or.inl rfl, Or.inl rfl, Or.inl rfl, Or.inl rfl, Or.inl rfl, Or.inl rfl, Or.inl rfl, Or.inl rfl, Or.inr rfl, trivial⟩ (ih4 (zup ξ 416 (zNw V c t) (d + 1)) 1 (t + 1) (by omega) (by omega) hc36 (by rw [zup_fu]; exact zLq_set hB (by omega) (by omega) nb.2.1.symm h_112 ⟨by rw [nb.2.1]; exact nb.2.2.1, Or.inr (by omega)⟩ h_134 hdc (by omega) (by omega)) (fun x hx => by rw [zup_row hx]; exact hfr x hx) (by omega))
                          · exact absurd h_149 (by omega)
                    · exact absurd h_121 (by omega)
          refine z_iload_6 dX12_paths_71 ?_
          refine z_bipush dX12_paths_73 (by decide) ?_
          refine z_icmpge (tgt := 189) dX12_paths_75 (by decide) (fun h_75 => ?_) (fun h_75 => ?_)
          · refine z_iinc_5 rfl dX12_paths_189 (by omega) ?_
            refine z_goto (tgt := 60) dX12_paths_192 (by decide) ?_
            exact z_weak (ls' := [zR 393, zI a, zI b, zI m9, zI m, zI (d + 1), zU, zU, zU]) ⟨Or.inl rfl, Or.inl rfl, Or.inl rfl, Or.inl rfl, Or.inl rfl, Or.inl rfl, Or.inr rfl, Or.inr rfl, Or.inr rfl, trivial⟩ (ih2 ξ (d + 1) m (by omega) (by have := zLq_b hB; omega) (by rw [show d + 1 - 1 = d by omega]; rw [show c = 36 by omega] at hB; exact hB) hfr (by have := zLq_b hB; omega))
          · refine z_iconst dX12_paths_78 (by decide) ?_
            refine z_istore_7 rfl dX12_paths_79 ?_
            exact L4 5 ξ m 0 (by omega) (by omega) (by omega) hB hfr (by omega)
      refine z_iload_4 dX12_paths_60 ?_
      refine z_ifeq (tgt := 195) dX12_paths_62 (by decide) (fun h_62 => ?_) (fun h_62 => ?_)
      · exact z_vret dX12_paths_195 (⟨rfl, zLq_w (by rw [h_62] at hB; exact hB), hfr⟩)
      · refine z_iconst dX12_paths_65 (by decide) ?_
        refine z_istore_4 rfl dX12_paths_66 ?_
        refine z_iconst dX12_paths_68 (by decide) ?_
        refine z_istore_6 rfl dX12_paths_69 ?_
        exact L3 37 ξ 0 0 (by omega) (by omega) (zLq_in (by have m1 : m = 1 := (by have := hB.1.2.1; omega); rw [m1] at hB; exact hB)) hfr (by omega)
  have L1 : ∀ (k : Nat) (ξ : zM) (c : Int), 0 ≤ c → c ≤ 36 → (∀ y, 0 ≤ y → y < c → ξ 416 y = 1000) → (∀ x, x ≠ 416 → ξ x = μ x) → 36 - c < k → MW X E cX12_paths RX12 ({ frames := 2, cells := 0, slots := 0, locals := 49 }) none (fun r ν => r = none ∧ zRw (zPo V a m9) b (ν 416) ∧ ∀ x, x ≠ 416 → ν x = μ x) 3 [zR 393, zI a, zI b, zI m9, zI c, zU, zU, zU, zU] [] ξ := by
    intro k
    induction k with
    | zero => intro ξ c hc0' hc1 hI hfr h4; omega
    | succ k ih =>
      intro ξ c hc0' hc1 hI hfr h4
      refine z_iload_4 dX12_paths_3 ?_
      refine z_bipush dX12_paths_5 (by decide) ?_
      refine z_icmpge (tgt := 26) dX12_paths_7 (by decide) (fun h_7 => ?_) (fun h_7 => ?_)
      · refine z_aload_0 dX12_paths_26 ?_
        refine z_getF 416 23 rfl f_X12_77 zl_393 rfl rfl dX12_paths_27 ?_
        refine z_iload_2 dX12_paths_30 ?_
        refine z_iload_1 dX12_paths_31 ?_
        refine z_iload_2 dX12_paths_32 ?_
        refine z_icmpeq (tgt := 46) dX12_paths_33 (by decide) (fun h_33 => ?_) (fun h_33 => ?_)
        · refine z_iconst dX12_paths_46 (by decide) ?_
          refine z_goto (tgt := 53) dX12_paths_47 (by decide) ?_
          refine z_iast zl_416 (by omega) (by omega) dX12_paths_53 ?_
          refine z_iconst dX12_paths_54 (by decide) ?_
          refine z_istore_4 rfl dX12_paths_55 ?_
          refine z_iconst dX12_paths_57 (by decide) ?_
          refine z_istore_5 rfl dX12_paths_58 ?_
          exact z_weak (ls' := [zR 393, zI a, zI b, zI m9, zI 1, zI 0, zU, zU, zU]) ⟨Or.inl rfl, Or.inl rfl, Or.inl rfl, Or.inl rfl, Or.inl rfl, Or.inl rfl, Or.inr rfl, Or.inr rfl, Or.inr rfl, trivial⟩ (L2 41 (zup ξ 416 b 0) 0 1 (by decide) (by decide) (zLq_0 (Or.inr rfl) (fun y y0 y1 e => by rw [zup_ne (Or.inr e)]; exact hI y y0 (by omega)) (fun o => by rw [zup_eq] <;> skip) (fun o => by rw [zup_eq] <;> exact absurd ⟨ob, Or.inl h_33.symm⟩ o) (fun q => absurd q (by decide)) b0 b1) (fun x hx => by rw [zup_row hx]; exact hfr x hx) (by decide))
        · refine z_aload_0 dX12_paths_36 ?_
          refine z_getF 415 22 rfl f_X12_74 zl_393 rfl rfl dX12_paths_37 ?_
          refine z_iload_2 dX12_paths_40 ?_
          refine z_iald zl_415 (by omega) (by omega) dX12_paths_41 ?_
          rw [hfr 415 (by decide), hlo b b0 b1]
          refine z_iload_3 dX12_paths_42 ?_
          refine z_icmpgt (tgt := 50) dX12_paths_43 (by decide) (fun h_43 => ?_) (fun h_43 => ?_)
          · refine z_sipush dX12_paths_50 (by decide) ?_
            refine z_iast zl_416 (by omega) (by omega) dX12_paths_53 ?_
            refine z_iconst dX12_paths_54 (by decide) ?_
            refine z_istore_4 rfl dX12_paths_55 ?_
            refine z_iconst dX12_paths_57 (by decide) ?_
            refine z_istore_5 rfl dX12_paths_58 ?_
            exact z_weak (ls' := [zR 393, zI a, zI b, zI m9, zI 1, zI 0, zU, zU, zU]) ⟨Or.inl rfl, Or.inl rfl, Or.inl rfl, Or.inl rfl, Or.inl rfl, Or.inl rfl, Or.inr rfl, Or.inr rfl, Or.inr rfl, trivial⟩ (L2 41 (zup ξ 416 b 1000) 0 1 (by decide) (by decide) (zLq_0 (Or.inr rfl) (fun y y0 y1 e => by rw [zup_ne (Or.inr e)]; exact hI y y0 (by omega)) (fun o => by rw [zup_eq] <;> rcases o.2 with q | q; exact absurd q.symm h_33; omega) (fun o => by rw [zup_eq] <;> skip) (fun q => absurd q (by decide)) b0 b1) (fun x hx => by rw [zup_row hx]; exact hfr x hx) (by decide))
          · refine z_iconst dX12_paths_46 (by decide) ?_
            refine z_goto (tgt := 53) dX12_paths_47 (by decide) ?_
            refine z_iast zl_416 (by omega) (by omega) dX12_paths_53 ?_
            refine z_iconst dX12_paths_54 (by decide) ?_
            refine z_istore_4 rfl dX12_paths_55 ?_
            refine z_iconst dX12_paths_57 (by decide) ?_
            refine z_istore_5 rfl dX12_paths_58 ?_
            exact z_weak (ls' := [zR 393, zI a, zI b, zI m9, zI 1, zI 0, zU, zU, zU]) ⟨Or.inl rfl, Or.inl rfl, Or.inl rfl, Or.inl rfl, Or.inl rfl, Or.inl rfl, Or.inr rfl, Or.inr rfl, Or.inr rfl, trivial⟩ (L2 41 (zup ξ 416 b 0) 0 1 (by decide) (by decide) (zLq_0 (Or.inr rfl) (fun y y0 y1 e => by rw [zup_ne (Or.inr e)]; exact hI y y0 (by omega)) (fun o => by rw [zup_eq] <;> skip) (fun o => by rw [zup_eq] <;> exact absurd ⟨ob, Or.inr (by omega)⟩ o) (fun q => absurd q (by decide)) b0 b1) (fun x hx => by rw [zup_row hx]; exact hfr x hx) (by decide))
      · refine z_aload_0 dX12_paths_10 ?_
        refine z_getF 416 23 rfl f_X12_77 zl_393 rfl rfl dX12_paths_11 ?_
        refine z_iload_4 dX12_paths_14 ?_
        refine z_sipush dX12_paths_16 (by decide) ?_
        refine z_iast zl_416 (by omega) (by omega) dX12_paths_19 ?_
        refine z_iinc_4 rfl dX12_paths_20 (by omega) ?_
        refine z_goto (tgt := 3) dX12_paths_23 (by decide) ?_
        exact ih (zup ξ 416 c 1000) (c + 1) (by omega) (by omega) (fun y y0 y1 => by by_cases q : y = c; rw [q, zup_eq]; rw [zup_ne (Or.inr q)]; exact hI y y0 (by omega)) (fun x hx => by rw [zup_row hx]; exact hfr x hx) (by omega)
  refine z_iconst dX12_paths_0 (by decide) ?_
  refine z_istore_4 rfl dX12_paths_1 ?_
  exact L1 37 μ 0 (by decide) (by decide) (fun y y0 y1 => by omega) (fun _ _ => rfl) (by decide)
set_option maxRecDepth 100000 in
set_option maxHeartbeats 4000000 in
theorem k_X12_way {l : Launch} {E : zE} {μ : zM} (hm : zMpre μ) (hq : μ 393 18 = 0) {a b w : Int} : Ct l E yX12_way cX12_way 8 (some .int) ({ frames := 3, cells := 0, slots := 0, locals := 77 }) [zR 393, zI a, zI b, zI w] μ (fun r ν => (¬ (((0 ≤ a ∧ a < 36) ∧ (zBV (μ 394)) 0 a = 0) ∧ ((0 ≤ b ∧ b < 36) ∧ (zBV (μ 394)) 0 b = 0) ∧ 0 ≤ w ∧ w ≤ 2) ∧ r = some (zI (-2)) ∧ ν = zup μ 398 0 (μ 398 0 + zq1 μ)) ∨ ((((0 ≤ a ∧ a < 36) ∧ (zBV (μ 394)) 0 a = 0) ∧ ((0 ≤ b ∧ b < 36) ∧ (zBV (μ 394)) 0 b = 0) ∧ 0 ≤ w ∧ w ≤ 2) ∧ zWk (zBV (μ 394)) b a = -1 ∧ r = some (zI (-3)) ∧ ∃ ζ, zMf μ ζ ∧ ν = zup ζ 398 1 (ζ 398 1 + zq1 ζ)) ∨ ((((0 ≤ a ∧ a < 36) ∧ (zBV (μ 394)) 0 a = 0) ∧ ((0 ≤ b ∧ b < 36) ∧ (zBV (μ 394)) 0 b = 0) ∧ 0 ≤ w ∧ w ≤ 2) ∧ zWk (zBV (μ 394)) b a ≠ -1 ∧ (∃ z, r = some (zI z) ∧ zWa9 (zBV (μ 394)) a b w z) ∧ zMf μ ν)) := by
  refine Ct.of RX12 [zR 393, zI a, zI b, zI w, zU, zU, zU, zU] (by decide +kernel) rfl ⟨rfl, rfl⟩ rfl (Nat.le_of_ble_eq_true rfl) (fun X hX hc0 ha0 => ?_)
  subst hX
  have J : (((0 ≤ a ∧ a < 36) ∧ (zBV (μ 394)) 0 a = 0) ∧ ((0 ≤ b ∧ b < 36) ∧ (zBV (μ 394)) 0 b = 0) ∧ 0 ≤ w ∧ w ≤ 2) → ∀ ζ0 : zM, (∀ x, x ≠ 402 → ζ0 x = μ x) → zFar (zBV (μ 394)) (ζ0 402) → zWk (zBV (μ 394)) b a ≠ -1 → MW X E cX12_way RX12 ({ frames := 3, cells := 0, slots := 0, locals := 77 }) (some .int) (fun r ν => (¬ (((0 ≤ a ∧ a < 36) ∧ (zBV (μ 394)) 0 a = 0) ∧ ((0 ≤ b ∧ b < 36) ∧ (zBV (μ 394)) 0 b = 0) ∧ 0 ≤ w ∧ w ≤ 2) ∧ r = some (zI (-2)) ∧ ν = zup μ 398 0 (μ 398 0 + zq1 μ)) ∨ ((((0 ≤ a ∧ a < 36) ∧ (zBV (μ 394)) 0 a = 0) ∧ ((0 ≤ b ∧ b < 36) ∧ (zBV (μ 394)) 0 b = 0) ∧ 0 ≤ w ∧ w ≤ 2) ∧ zWk (zBV (μ 394)) b a = -1 ∧ r = some (zI (-3)) ∧ ∃ ζ, zMf μ ζ ∧ ν = zup ζ 398 1 (ζ 398 1 + zq1 ζ)) ∨ ((((0 ≤ a ∧ a < 36) ∧ (zBV (μ 394)) 0 a = 0) ∧ ((0 ≤ b ∧ b < 36) ∧ (zBV (μ 394)) 0 b = 0) ∧ 0 ≤ w ∧ w ≤ 2) ∧ zWk (zBV (μ 394)) b a ≠ -1 ∧ (∃ z, r = some (zI z) ∧ zWa9 (zBV (μ 394)) a b w z) ∧ zMf μ ν)) 73 [zR 393, zI a, zI b, zI w, zU, zU, zU, zU] [] ζ0 := by
    intro hB ζ0 hL far hreach
    have a0 := hB.1.1.1
    have a1 := hB.1.1.2
    have b0 := hB.2.1.1.1
    have b1 := hB.2.1.1.2
    have ob : zBV (μ 394) 0 b ≠ 1 := by rw [hB.2.1.2]; decide
    have np := hm.1.2.1.1
    have hd9 : ∀ x, 0 ≤ x → x < 36 → zDM (zOp (zBV (μ 394))) x (zWk (zBV (μ 394)) x) := fun x x0 x1 => zFar_d far x0 x1
    have L195 : ∀ (k : Nat) (m : Int) (ξ : zM), 0 ≤ m → m ≤ 40 → (∀ k, 0 ≤ k → k < m → zPd (zBV (μ 394)) a b k a = -1) → zRw (zPo (zBV (μ 394)) a m) b (ξ 416) → (∀ c, 0 ≤ c → c < 36 → ξ 415 c = zLo (zBV (μ 394)) c) → (∀ x : Nat, x ≠ 402 → x ≠ 415 → x ≠ 416 → ξ x = μ x) → 40 - m < k → MW X E cX12_way RX12 ({ frames := 3, cells := 0, slots := 0, locals := 77 }) (some .int) (fun r ν => (¬ (((0 ≤ a ∧ a < 36) ∧ (zBV (μ 394)) 0 a = 0) ∧ ((0 ≤ b ∧ b < 36) ∧ (zBV (μ 394)) 0 b = 0) ∧ 0 ≤ w ∧ w ≤ 2) ∧ r = some (zI (-2)) ∧ ν = zup μ 398 0 (μ 398 0 + zq1 μ)) ∨ ((((0 ≤ a ∧ a < 36) ∧ (zBV (μ 394)) 0 a = 0) ∧ ((0 ≤ b ∧ b < 36) ∧ (zBV (μ 394)) 0 b = 0) ∧ 0 ≤ w ∧ w ≤ 2) ∧ zWk (zBV (μ 394)) b a = -1 ∧ r = some (zI (-3)) ∧ ∃ ζ, zMf μ ζ ∧ ν = zup ζ 398 1 (ζ 398 1 + zq1 ζ)) ∨ ((((0 ≤ a ∧ a < 36) ∧ (zBV (μ 394)) 0 a = 0) ∧ ((0 ≤ b ∧ b < 36) ∧ (zBV (μ 394)) 0 b = 0) ∧ 0 ≤ w ∧ w ≤ 2) ∧ zWk (zBV (μ 394)) b a ≠ -1 ∧ (∃ z, r = some (zI z) ∧ zWa9 (zBV (μ 394)) a b w z) ∧ zMf μ ν)) 195 [zR 393, zI a, zI b, zI w, zI m, zU, zU, zU] [] ξ := by
      intro k
      induction k with
      | zero => intro m ξ hm0 hm40 hno hrw hlo hfr h3; omega
      | succ k ih =>
        intro m ξ hm0 hm40 hno hrw hlo hfr h3
        have h94 : ξ 394 = μ 394 := hfr 394 (by decide) (by decide) (by decide)
        have hV : zBV (ξ 394) = zBV (μ 394) := by rw [h94]
        have hc2 : ξ 394 2 = zBV (μ 394) 3 3 := by rw [h94]; rfl
        refine z_aload_0 dX12_way_195 ?_
        refine z_getF 416 23 rfl f_X12_77 zl_393 rfl rfl dX12_way_196 ?_
        refine z_iload_1 dX12_way_199 ?_
        refine z_iald zl_416 (by omega) (by omega) dX12_way_200 ?_
        refine z_sipush dX12_way_201 (by decide) ?_
        refine z_icmpne (tgt := 221) dX12_way_204 (by decide) (fun h_204 => ?_) (fun h_204 => ?_)
        · have hra := zRw_e hrw a0 a1
          have hwq : zWq (zBV (μ 394)) a b m := ⟨hm0, hm40, by unfold zPd; omega, hno⟩
          have hva : ξ 416 a = zPd (zBV (μ 394)) a b m a := by unfold zPd; omega
          have hmf : zMf μ ξ := ⟨fun k _ _ _ _ _ _ => by rw [hfr 393 (by decide) (by decide) (by decide)], fun x x1 x2 => hfr x (by omega) (by omega) (by omega)⟩
          refine z_iload_3 dX12_way_221 ?_
          refine z_iconst dX12_way_222 (by decide) ?_
          refine z_icmpge (tgt := 242) dX12_way_223 (by decide) (fun h_223 => ?_) (fun h_223 => ?_)
          · refine z_iconst dX12_way_242 (by decide) ?_
            refine z_istore_5 rfl dX12_way_243 ?_
            refine z_iconst dX12_way_245 (by decide) ?_
            refine z_istore_6 rfl dX12_way_246 ?_
            have L248 : ∀ (k : Nat) (v9 x : Int) (u : zAV), -1 ≤ v9 → v9 < 4 → (0 < (zPd (zBV (μ 394)) a b m) a → ∀ v, v9 < v → v < 4 → zWn (zPd (zBV (μ 394)) a b m) a v → ∃ u, v9 < u ∧ u ≤ v ∧ x = zNb a u ∧ zWn (zPd (zBV (μ 394)) a b m) a u ∧ ∀ y, v9 < y → y < u → ¬ zWn (zPd (zBV (μ 394)) a b m) a y) → v9 + 1 < k → MW X E cX12_way RX12 ({ frames := 3, cells := 0, slots := 0, locals := 77 }) (some .int) (fun r ν => (¬ (((0 ≤ a ∧ a < 36) ∧ (zBV (μ 394)) 0 a = 0) ∧ ((0 ≤ b ∧ b < 36) ∧ (zBV (μ 394)) 0 b = 0) ∧ 0 ≤ w ∧ w ≤ 2) ∧ r = some (zI (-2)) ∧ ν = zup μ 398 0 (μ 398 0 + zq1 μ)) ∨ ((((0 ≤ a ∧ a < 36) ∧ (zBV (μ 394)) 0 a = 0) ∧ ((0 ≤ b ∧ b < 36) ∧ (zBV (μ 394)) 0 b = 0) ∧ 0 ≤ w ∧ w ≤ 2) ∧ zWk (zBV (μ 394)) b a = -1 ∧ r = some (zI (-3)) ∧ ∃ ζ, zMf μ ζ ∧ ν = zup ζ 398 1 (ζ 398 1 + zq1 ζ)) ∨ ((((0 ≤ a ∧ a < 36) ∧ (zBV (μ 394)) 0 a = 0) ∧ ((0 ≤ b ∧ b < 36) ∧ (zBV (μ 394)) 0 b = 0) ∧ 0 ≤ w ∧ w ≤ 2) ∧ zWk (zBV (μ 394)) b a ≠ -1 ∧ (∃ z, r = some (zI z) ∧ zWa9 (zBV (μ 394)) a b w z) ∧ zMf μ ν)) 248 [zR 393, zI a, zI b, zI w, zI m, zI x, zI v9, u] [] ξ := by
              intro k
              induction k with
              | zero => intro v9 x u w0 w4 hin h4; omega
              | succ k ih2 =>
                intro v9 x u w0 w4 hin h4
                refine z_iload_6 dX12_way_248 ?_
                refine z_iflt (tgt := 310) dX12_way_250 (by decide) (fun h_250 => ?_) (fun h_250 => ?_)
                · refine z_iload_1 dX12_way_310 ?_
                  refine z_iload_2 dX12_way_311 ?_
                  refine z_icmpne (tgt := 319) dX12_way_312 (by decide) (fun h_312 => ?_) (fun h_312 => ?_)
                  · refine z_iload_5 dX12_way_319 ?_
                    exact z_iret dX12_way_321 (Or.inr (Or.inr ⟨hB, hreach, ⟨x, rfl, m, hwq, (by
                        rw [if_neg (by omega), if_neg (by omega)]
                        have ha := zRw_e hrw a0 a1
                        have dz := (zDs_of hrw.1).2.2.1 a a0 a1
                        have dn := hwq.2.2.1
                        have hp : 0 < (zPd (zBV (μ 394)) a b m) a := by unfold zPd at *; omega
                        have h4 := zNx_ok (zDs_of hrw.1) a0 a1 hp
                        have ex : ∃ v, 0 ≤ v ∧ v < 4 ∧ zWn (zPd (zBV (μ 394)) a b m) a v := Classical.byContradiction fun q => by
                          have := zNx_no (F := (zPd (zBV (μ 394)) a b m)) (c := a) (fun v v0 v4 z => q ⟨v, v0, v4, z⟩)
                          unfold zPd at *
                          omega
                        obtain ⟨v, v0, v4, hv⟩ := ex
                        obtain ⟨y, y0, y1, y2, y3, y4⟩ := hin hp v (by omega) v4 hv
                        rw [y2]
                        exact (zNx_w hp (by omega) (by omega) (fun z z0 z1 => y4 z (by omega) z1) y3).symm)⟩, hmf⟩))
                  · refine z_iconst dX12_way_315 (by decide) ?_
                    refine z_goto (tgt := 321) dX12_way_316 (by decide) ?_
                    exact z_iret dX12_way_321 (Or.inr (Or.inr ⟨hB, hreach, ⟨-1, rfl, m, hwq, (by rw [if_neg (by omega), if_neg (by omega)]; have e := (zDs_of hrw.1).2.1 ⟨ob, Or.inl h_312.symm⟩; subst h_312; exact (zNx_0 (Int.le_of_eq e)).symm)⟩, hmf⟩))
                · refine z_aload_0 dX12_way_253 ?_
                  refine z_iload_1 dX12_way_254 ?_
                  refine z_iload_6 dX12_way_255 ?_
                  refine z_callV2 (k_X12_beside ⟨a0, a1⟩ ⟨by omega, by omega⟩) m_X12_beside zl_393 l_X12_249 (Nat.le_of_ble_eq_true rfl) ⟨Nat.le_of_ble_eq_true rfl, Nat.le_of_ble_eq_true rfl⟩ ⟨rfl, rfl⟩ dX12_way_257 (fun r μ1 hp => ?_)
                  obtain ⟨rfl, hv⟩ := hp
                  replace hv := hv.symm
                  subst hv
                  rw [hV]
                  refine z_istore_7 rfl dX12_way_260 ?_
                  refine z_iload_7 dX12_way_262 ?_
                  refine z_iconst dX12_way_264 (by decide) ?_
                  refine z_icmpeq (tgt := 300) dX12_way_265 (by decide) (fun h_265 => ?_) (fun h_265 => ?_)
                  · refine z_iload_5 dX12_way_300 ?_
                    refine z_istore_5 rfl dX12_way_302 ?_
                    refine z_iinc_6 rfl dX12_way_304 (by omega) ?_
                    refine z_goto (tgt := 248) dX12_way_307 (by decide) ?_
                    refine ih2 (v9 - 1) x _ (by omega) (by omega) (fun hp v v0 v4 hv => ?_) (by omega)
                    have hno : ¬ zWn (zPd (zBV (μ 394)) a b m) a v9 := fun z => ((zWn_j (V := (zBV (μ 394))) hrw (fun _ o => o.1) a0 a1 (by omega) (by omega) hp).mpr z).1 h_265
                    by_cases e : v = v9
                    · exact absurd (e ▸ hv) hno
                    · obtain ⟨y, y0, y1, y2, y3, y4⟩ := hin hp v (by omega) v4 hv
                      refine ⟨y, by omega, y1, y2, y3, fun z z0 z1 => ?_⟩
                      by_cases e2 : z = v9
                      · rw [e2]; exact hno
                      · exact y4 z (by omega) z1
                  · have nr := (zNw_r a0 a1 h_265).1
                    refine z_aload_0 dX12_way_268 ?_
                    refine z_getF 416 23 rfl f_X12_77 zl_393 rfl rfl dX12_way_269 ?_
                    refine z_iload_7 dX12_way_272 ?_
                    refine z_ifge (tgt := 281) dX12_way_274 (by decide) (fun h_274 => ?_) (fun h_274 => ?_)
                    · refine z_iload_7 dX12_way_281 ?_
                      refine z_iald zl_416 (by omega) (by omega) dX12_way_283 ?_
                      refine z_aload_0 dX12_way_284 ?_
                      refine z_getF 416 23 rfl f_X12_77 zl_393 rfl rfl dX12_way_285 ?_
                      refine z_iload_1 dX12_way_288 ?_
                      refine z_iald zl_416 (by omega) (by omega) dX12_way_289 ?_
                      refine z_iconst dX12_way_290 (by decide) ?_
                      refine z_isub dX12_way_291 (by omega) ?_
                      refine z_icmpne (tgt := 300) dX12_way_292 (by decide) (fun h_292 => ?_) (fun h_292 => ?_)
                      · refine z_iload_5 dX12_way_300 ?_
                        refine z_istore_5 rfl dX12_way_302 ?_
                        refine z_iinc_6 rfl dX12_way_304 (by omega) ?_
                        refine z_goto (tgt := 248) dX12_way_307 (by decide) ?_
                        refine ih2 (v9 - 1) x _ (by omega) (by omega) (fun hp v v0 v4 hv => ?_) (by omega)
                        have hno : ¬ zWn (zPd (zBV (μ 394)) a b m) a v9 := fun z => h_292 ((zWn_j (V := (zBV (μ 394))) hrw (fun _ o => o.1) a0 a1 (by omega) (by omega) hp).mpr z).2
                        by_cases e : v = v9
                        · exact absurd (e ▸ hv) hno
                        · obtain ⟨y, y0, y1, y2, y3, y4⟩ := hin hp v (by omega) v4 hv
                          refine ⟨y, by omega, y1, y2, y3, fun z z0 z1 => ?_⟩
                          by_cases e2 : z = v9
                          · rw [e2]; exact hno
                          · exact y4 z (by omega) z1
                      · refine z_iload_7 dX12_way_295 ?_
                        refine z_goto (tgt := 302) dX12_way_297 (by decide) ?_
                        refine z_istore_5 rfl dX12_way_302 ?_
                        refine z_iinc_6 rfl dX12_way_304 (by omega) ?_
                        refine z_goto (tgt := 248) dX12_way_307 (by decide) ?_
                        refine ih2 (v9 - 1) (zNw (zBV (μ 394)) a v9) _ (by omega) (by omega) (fun hp v v0 v4 hv => ?_) (by omega)
                        have hyes : zWn (zPd (zBV (μ 394)) a b m) a v9 := (zWn_j (V := (zBV (μ 394))) hrw (fun _ o => o.1) a0 a1 (by omega) (by omega) hp).mp ⟨h_265, h_292⟩
                        exact ⟨v9, by omega, by omega, (zNw_r a0 a1 h_265).2.1, hyes, fun z z0 z1 => by omega⟩
                    · exact absurd h_274 (by omega)
            exact L248 9 3 (-1) _ (by decide) (by decide) (fun hp v v0 v4 => by omega) (by decide)
          · refine z_iload_3 dX12_way_226 ?_
            refine z_ifne (tgt := 235) dX12_way_227 (by decide) (fun h_227 => ?_) (fun h_227 => ?_)
            · refine z_aload_0 dX12_way_235 ?_
              refine z_getF 416 23 rfl f_X12_77 zl_393 rfl rfl dX12_way_236 ?_
              refine z_iload_1 dX12_way_239 ?_
              refine z_iald zl_416 (by omega) (by omega) dX12_way_240 ?_
              try rw [hva]
              exact z_iret dX12_way_241 (Or.inr (Or.inr ⟨hB, hreach, ⟨zPd (zBV (μ 394)) a b m a, rfl, m, hwq, by rw [if_neg (by omega), if_pos (by omega)]⟩, hmf⟩))
            · refine z_iload_4 dX12_way_230 ?_
              refine z_goto (tgt := 241) dX12_way_232 (by decide) ?_
              try rw [hva]
              exact z_iret dX12_way_241 (Or.inr (Or.inr ⟨hB, hreach, ⟨m, rfl, m, hwq, by rw [if_pos (by omega)]⟩, hmf⟩))
        · have hra := zRw_e hrw a0 a1
          have hpm : zPd (zBV (μ 394)) a b m a = -1 := by unfold zPd; omega
          have hm39 : m < 40 := by
            by_cases q : m = 40
            · subst q; exact absurd (zWq_no hm.1 hd9 a0 a1 b0 b1 _ hrw.1 hpm) hreach
            · omega
          refine z_iinc_4 rfl dX12_way_207 (by omega) ?_
          refine z_aload_0 dX12_way_210 ?_
          refine z_iload_1 dX12_way_211 ?_
          refine z_iload_2 dX12_way_212 ?_
          refine z_iload_4 dX12_way_213 ?_
          refine z_callV3 (k_X12_paths (V := (zBV (μ 394))) hV hlo a0 a1 b0 b1 ob) m_X12_paths zl_393 l_X12_310 (Nat.le_of_ble_eq_true rfl) ⟨Nat.le_of_ble_eq_true rfl, Nat.le_of_ble_eq_true rfl⟩ ⟨rfl, rfl⟩ dX12_way_215 (fun r μ1 hp => ?_)
          obtain ⟨rfl, hrw2, hfr2⟩ := hp
          obtain ⟨ζ, hζ9⟩ : ∃ z, z = μ1 := ⟨_, rfl⟩
          subst hζ9
          have hfr3 : (∀ x : Nat, x ≠ 402 → x ≠ 415 → x ≠ 416 → ζ x = μ x) := fun x x1 x2 x3 => (hfr2 x x3).trans (hfr x x1 x2 x3)
          refine z_goto (tgt := 195) dX12_way_218 (by decide) ?_
          refine z_weak (ls' := [zR 393, zI a, zI b, zI w, zI (m + 1), zU, zU, zU]) ⟨Or.inl rfl, Or.inl rfl, Or.inl rfl, Or.inl rfl, Or.inl rfl, Or.inr rfl, Or.inr rfl, Or.inr rfl, trivial⟩ ?_
          exact ih (m + 1) ζ (by omega) (by omega) (fun k k0 k1 => by by_cases q : k = m; rw [q]; exact hpm; exact hno k k0 (by omega)) hrw2 (fun c c0 c1 => by rw [hfr2 415 (by decide)]; exact hlo c c0 c1) hfr3 (by omega)
    have LC : ∀ (k : Nat) (c : Nat) (ξ : zM), (c : Int) ≤ 36 → (∀ y : Int, 0 ≤ y → y < c → ξ 415 y = zLo (zBV (μ 394)) y) → (∀ x : Nat, x ≠ 402 → x ≠ 415 → ξ x = μ x) → (∀ x : Nat, x ≠ 415 → ξ x = ζ0 x) → 36 - (c : Int) < k → MW X E cX12_way RX12 ({ frames := 3, cells := 0, slots := 0, locals := 77 }) (some .int) (fun r ν => (¬ (((0 ≤ a ∧ a < 36) ∧ (zBV (μ 394)) 0 a = 0) ∧ ((0 ≤ b ∧ b < 36) ∧ (zBV (μ 394)) 0 b = 0) ∧ 0 ≤ w ∧ w ≤ 2) ∧ r = some (zI (-2)) ∧ ν = zup μ 398 0 (μ 398 0 + zq1 μ)) ∨ ((((0 ≤ a ∧ a < 36) ∧ (zBV (μ 394)) 0 a = 0) ∧ ((0 ≤ b ∧ b < 36) ∧ (zBV (μ 394)) 0 b = 0) ∧ 0 ≤ w ∧ w ≤ 2) ∧ zWk (zBV (μ 394)) b a = -1 ∧ r = some (zI (-3)) ∧ ∃ ζ, zMf μ ζ ∧ ν = zup ζ 398 1 (ζ 398 1 + zq1 ζ)) ∨ ((((0 ≤ a ∧ a < 36) ∧ (zBV (μ 394)) 0 a = 0) ∧ ((0 ≤ b ∧ b < 36) ∧ (zBV (μ 394)) 0 b = 0) ∧ 0 ≤ w ∧ w ≤ 2) ∧ zWk (zBV (μ 394)) b a ≠ -1 ∧ (∃ z, r = some (zI z) ∧ zWa9 (zBV (μ 394)) a b w z) ∧ zMf μ ν)) 76 [zR 393, zI a, zI b, zI w, zI (c : Int), zU, zU, zU] [] ξ := by
      intro k
      induction k with
      | zero => intro c ξ hc hlo hfr hfz h3; omega
      | succ k ih =>
        intro c ξ hc hlo hfr hfz h3
        have h94 : ξ 394 = μ 394 := hfr 394 (by decide) (by decide)
        have hV : zBV (ξ 394) = zBV (μ 394) := by rw [h94]
        have hc2 : ξ 394 2 = zBV (μ 394) 3 3 := by rw [h94]; rfl
        have hfr402 : ξ 402 = ζ0 402 := hfz 402 (by decide)
        refine z_iload_4 dX12_way_76 ?_
        refine z_bipush dX12_way_78 (by decide) ?_
        refine z_icmpge (tgt := 184) dX12_way_80 (by decide) (fun h_80 => ?_) (fun h_80 => ?_)
        · refine z_iconst dX12_way_184 (by decide) ?_
          refine z_istore_4 rfl dX12_way_185 ?_
          refine z_aload_0 dX12_way_187 ?_
          refine z_iload_1 dX12_way_188 ?_
          refine z_iload_2 dX12_way_189 ?_
          refine z_iload_4 dX12_way_190 ?_
          refine z_callV3 (k_X12_paths (V := (zBV (μ 394))) hV (fun y y0 y1 => hlo y y0 (by omega)) a0 a1 b0 b1 ob) m_X12_paths zl_393 l_X12_310 (Nat.le_of_ble_eq_true rfl) ⟨Nat.le_of_ble_eq_true rfl, Nat.le_of_ble_eq_true rfl⟩ ⟨rfl, rfl⟩ dX12_way_192 (fun r μ1 hp => ?_)
          obtain ⟨rfl, hrw2, hfr2⟩ := hp
          obtain ⟨ζ, hζ9⟩ : ∃ z, z = μ1 := ⟨_, rfl⟩
          subst hζ9
          refine z_weak (ls' := [zR 393, zI a, zI b, zI w, zI 0, zU, zU, zU]) ⟨Or.inl rfl, Or.inl rfl, Or.inl rfl, Or.inl rfl, Or.inl rfl, Or.inr rfl, Or.inr rfl, Or.inr rfl, trivial⟩ ?_
          exact L195 41 0 ζ (by decide) (by decide) (fun k k0 k1 => by omega) hrw2 (fun y y0 y1 => by rw [hfr2 415 (by decide)]; exact hlo y y0 (by omega)) (fun x x1 x2 x3 => (hfr2 x x3).trans (hfr x x1 x2)) (by decide)
        · have c1 : (c : Int) < 36 := by omega
          refine z_aload_0 dX12_way_83 ?_
          refine z_getF 415 22 rfl f_X12_74 zl_393 rfl rfl dX12_way_84 ?_
          refine z_iload_4 dX12_way_87 ?_
          refine z_iconst dX12_way_89 (by decide) ?_
          refine z_iast zl_415 (by omega) (by omega) dX12_way_90 ?_
          have LI : ∀ (k : Nat) (s : Nat) (ξ : zM), (s : Int) ≤ zBV (μ 394) 3 3 → ξ 415 (c : Int) = zmf (zLf (zBV (μ 394)) (c : Int)) s → (∀ y : Int, 0 ≤ y → y < c → ξ 415 y = zLo (zBV (μ 394)) y) → (∀ x : Nat, x ≠ 402 → x ≠ 415 → ξ x = μ x) → (∀ x : Nat, x ≠ 415 → ξ x = ζ0 x) → zBV (μ 394) 3 3 - s < k → MW X E cX12_way RX12 ({ frames := 3, cells := 0, slots := 0, locals := 77 }) (some .int) (fun r ν => (¬ (((0 ≤ a ∧ a < 36) ∧ (zBV (μ 394)) 0 a = 0) ∧ ((0 ≤ b ∧ b < 36) ∧ (zBV (μ 394)) 0 b = 0) ∧ 0 ≤ w ∧ w ≤ 2) ∧ r = some (zI (-2)) ∧ ν = zup μ 398 0 (μ 398 0 + zq1 μ)) ∨ ((((0 ≤ a ∧ a < 36) ∧ (zBV (μ 394)) 0 a = 0) ∧ ((0 ≤ b ∧ b < 36) ∧ (zBV (μ 394)) 0 b = 0) ∧ 0 ≤ w ∧ w ≤ 2) ∧ zWk (zBV (μ 394)) b a = -1 ∧ r = some (zI (-3)) ∧ ∃ ζ, zMf μ ζ ∧ ν = zup ζ 398 1 (ζ 398 1 + zq1 ζ)) ∨ ((((0 ≤ a ∧ a < 36) ∧ (zBV (μ 394)) 0 a = 0) ∧ ((0 ≤ b ∧ b < 36) ∧ (zBV (μ 394)) 0 b = 0) ∧ 0 ≤ w ∧ w ≤ 2) ∧ zWk (zBV (μ 394)) b a ≠ -1 ∧ (∃ z, r = some (zI z) ∧ zWa9 (zBV (μ 394)) a b w z) ∧ zMf μ ν)) 94 [zR 393, zI a, zI b, zI w, zI (c : Int), zI (s : Int), zU, zU] [] ξ := by
            intro k
            induction k with
            | zero => intro s ξ hs hcur hlo hfr hfz h4; omega
            | succ k ih2 =>
              intro s ξ hs hcur hlo hfr hfz h4
              have h94 : ξ 394 = μ 394 := hfr 394 (by decide) (by decide)
              have hV : zBV (ξ 394) = zBV (μ 394) := by rw [h94]
              have hc2 : ξ 394 2 = zBV (μ 394) 3 3 := by rw [h94]; rfl
              have hfr402 : ξ 402 = ζ0 402 := hfz 402 (by decide)
              refine z_iload_5 dX12_way_94 ?_
              refine z_aload_0 dX12_way_96 ?_
              refine z_getF 394 1 rfl f_X12_7 zl_393 rfl rfl dX12_way_97 ?_
              refine z_iconst dX12_way_100 (by decide) ?_
              refine z_iald zl_394 (by omega) (by omega) dX12_way_101 ?_
              refine z_icmpge (tgt := 178) dX12_way_102 (by decide) (fun h_102 => ?_) (fun h_102 => ?_)
              · refine z_iinc_4 rfl dX12_way_178 (by omega) ?_
                refine z_goto (tgt := 76) dX12_way_181 (by decide) ?_
                refine z_weak (ls' := [zR 393, zI a, zI b, zI w, zI ((c + 1 : Nat) : Int), zU, zU, zU]) ⟨Or.inl rfl, Or.inl rfl, Or.inl rfl, Or.inl rfl, Or.inl rfl, Or.inr rfl, Or.inr rfl, Or.inr rfl, trivial⟩ (ih (c + 1) ξ (by omega) (fun y y0 y1 => by by_cases q : y = c; rw [q, hcur]; unfold zLo; rw [show (zBV (μ 394) 3 3).toNat = s by omega]; exact hlo y y0 (by omega)) hfr hfz (by omega))
              · have s1 : (s : Int) < zBV (μ 394) 3 3 := by omega
                have ps := hm.1.2.1.2 (s : Int) (by omega) s1
                have e9 : ξ 394 (90 + 6 * (s : Int) + 5) = zBV (μ 394) 9 (s : Int) := by rw [h94]; exact (zBV_9 (by omega) s1).symm
                have e1 : ξ 394 (46 + (c : Int)) = zBV (μ 394) 1 (c : Int) := by rw [h94]; exact (zBV_1 (by omega) (by omega)).symm
                have ck := (hm.1.1.1 (c : Int) (by omega) (by omega)).2
                refine z_aload_0 dX12_way_105 ?_
                refine z_iload_5 dX12_way_106 ?_
                refine z_iconst dX12_way_108 (by decide) ?_
                refine z_callV2 (k_X12_of (by omega) (by omega) (by decide) (by decide)) m_X12_of zl_393 l_X12_147 (Nat.le_of_ble_eq_true rfl) ⟨Nat.le_of_ble_eq_true rfl, Nat.le_of_ble_eq_true rfl⟩ ⟨rfl, rfl⟩ dX12_way_109 (fun r μ1 hp => ?_)
                obtain ⟨rfl, hv⟩ := hp
                replace hv := hv.symm
                subst hv
                rw [e9]
                refine z_iconst dX12_way_112 (by decide) ?_
                refine z_icmpeq (tgt := 172) dX12_way_113 (by decide) (fun h_113 => ?_) (fun h_113 => ?_)
                · refine z_iinc_5 rfl dX12_way_172 (by omega) ?_
                  refine z_goto (tgt := 94) dX12_way_175 (by decide) ?_
                  refine z_weak (ls' := [zR 393, zI a, zI b, zI w, zI (c : Int), zI ((s + 1 : Nat) : Int), zU, zU]) ⟨Or.inl rfl, Or.inl rfl, Or.inl rfl, Or.inl rfl, Or.inl rfl, Or.inl rfl, Or.inr rfl, Or.inr rfl, trivial⟩ (ih2 (s + 1) ξ (by omega) (by rw [zmf_s, show zLf (zBV (μ 394)) (c : Int) (s : Int) = 0 from zif_f (by omega)]; have := (zmf_n (f := zLf (zBV (μ 394)) (c : Int)) (n := s)); omega) hlo hfr hfz (by omega))
                · have bb := zOK_bed hm.1 (b := zBV (μ 394) 9 (s : Int)) (by omega) ps.2.2.2.2.2
                  have hcb := zHc_b hm.1 (hd9 _ bb.1 bb.2) (l := zBV (μ 394) 9 (s : Int)) (by omega) ps.2.2.2.2.2 (c0 := show 0 ≤ (c : Int) by omega) (by omega)
                  have hlf : zLf (zBV (μ 394)) (c : Int) (s : Int) = zHc (zBV (μ 394)) (zBV (μ 394) 9 (s : Int)) (c : Int) := zif_t (by omega)
                  refine z_aload_0 dX12_way_116 ?_
                  refine z_iload_4 dX12_way_117 ?_
                  refine z_aload_0 dX12_way_119 ?_
                  refine z_getF 394 1 rfl f_X12_7 zl_393 rfl rfl dX12_way_120 ?_
                  refine z_bipush dX12_way_123 (by decide) ?_
                  refine z_iload_4 dX12_way_125 ?_
                  refine z_iadd dX12_way_127 (by omega) ?_
                  refine z_iald zl_394 (by omega) (by omega) dX12_way_128 ?_
                  rw [e1]
                  refine z_aload_0 dX12_way_129 ?_
                  refine z_iload_5 dX12_way_130 ?_
                  refine z_callV1 (k_X12_bedCell (i := (s : Int)) (by omega) (by rw [hV]; exact s1) (by rw [hV]; exact hm.1) (by rw [hV]; omega)) m_X12_bedCell zl_393 l_X12_272 (Nat.le_of_ble_eq_true rfl) ⟨Nat.le_of_ble_eq_true rfl, Nat.le_of_ble_eq_true rfl⟩ ⟨rfl, rfl⟩ dX12_way_132 (fun r μ1 hp => ?_)
                  obtain ⟨rfl, hv⟩ := hp
                  replace hv := hv.symm
                  subst hv
                  rw [hV]
                  refine z_iconst dX12_way_135 (by decide) ?_
                  refine z_callV4 (k_X12_heardAt (V := zBV (μ 394)) ⟨by omega, by omega⟩ bb ⟨by omega, by omega⟩ ⟨by decide, by decide⟩ (by rw [h94]; exact hm.1.1.2.2.2.1) (by rw [hfr402]; exact far)) m_X12_heardAt zl_393 l_X12_261 (Nat.le_of_ble_eq_true rfl) ⟨Nat.le_of_ble_eq_true rfl, Nat.le_of_ble_eq_true rfl⟩ ⟨rfl, rfl⟩ dX12_way_136 (fun r μ1 hp => ?_)
                  obtain ⟨rfl, hv⟩ := hp
                  replace hv := hv.symm
                  subst hv
                  rw [show zHr (zBV (μ 394) 1 (c : Int)) (zWk (zBV (μ 394)) (zBV (μ 394) 2 (zBV (μ 394) 9 (s : Int))) (c : Int)) (ξ 394 5) 0 = zHc (zBV (μ 394)) (zBV (μ 394) 9 (s : Int)) (c : Int) by rw [h94]; unfold zHr; rw [show zFd (zBV (μ 394) 1 (c : Int)) (zWk (zBV (μ 394)) (zBV (μ 394) 2 (zBV (μ 394) 9 (s : Int))) (c : Int)) (μ 394 5) = zHc (zBV (μ 394)) (zBV (μ 394) 9 (s : Int)) (c : Int) from rfl]; omega]
                  refine z_istore_6 rfl dX12_way_139 ?_
                  refine z_aload_0 dX12_way_141 ?_
                  refine z_getF 415 22 rfl f_X12_74 zl_393 rfl rfl dX12_way_142 ?_
                  refine z_iload_4 dX12_way_145 ?_
                  refine z_iload_6 dX12_way_147 ?_
                  refine z_aload_0 dX12_way_149 ?_
                  refine z_getF 415 22 rfl f_X12_74 zl_393 rfl rfl dX12_way_150 ?_
                  refine z_iload_4 dX12_way_153 ?_
                  refine z_iald zl_415 (by omega) (by omega) dX12_way_155 ?_
                  rw [hcur]
                  refine z_icmple (tgt := 164) dX12_way_156 (by decide) (fun h_156 => ?_) (fun h_156 => ?_)
                  · refine z_aload_0 dX12_way_164 ?_
                    refine z_getF 415 22 rfl f_X12_74 zl_393 rfl rfl dX12_way_165 ?_
                    refine z_iload_4 dX12_way_168 ?_
                    refine z_iald zl_415 (by omega) (by omega) dX12_way_170 ?_
                    try rw [hcur]
                    refine z_iast zl_415 (by omega) (by omega) dX12_way_171 ?_
                    refine z_iinc_5 rfl dX12_way_172 (by omega) ?_
                    refine z_goto (tgt := 94) dX12_way_175 (by decide) ?_
                    refine z_weak (ls' := [zR 393, zI a, zI b, zI w, zI (c : Int), zI ((s + 1 : Nat) : Int), zU, zU]) ⟨Or.inl rfl, Or.inl rfl, Or.inl rfl, Or.inl rfl, Or.inl rfl, Or.inl rfl, Or.inr rfl, Or.inr rfl, trivial⟩ (ih2 (s + 1) _ (by omega) (by rw [zup_eq, zmf_s, hlf]; omega) (fun y y0 y1 => by rw [zup_ne (Or.inr (by omega))]; exact hlo y y0 y1) (fun x x1 x2 => by rw [zup_row x2]; exact hfr x x1 x2) (fun x x2 => by rw [zup_row x2]; exact hfz x x2) (by omega))
                  · refine z_iload_6 dX12_way_159 ?_
                    refine z_goto (tgt := 171) dX12_way_161 (by decide) ?_
                    try rw [hcur]
                    refine z_iast zl_415 (by omega) (by omega) dX12_way_171 ?_
                    refine z_iinc_5 rfl dX12_way_172 (by omega) ?_
                    refine z_goto (tgt := 94) dX12_way_175 (by decide) ?_
                    refine z_weak (ls' := [zR 393, zI a, zI b, zI w, zI (c : Int), zI ((s + 1 : Nat) : Int), zU, zU]) ⟨Or.inl rfl, Or.inl rfl, Or.inl rfl, Or.inl rfl, Or.inl rfl, Or.inl rfl, Or.inr rfl, Or.inr rfl, trivial⟩ (ih2 (s + 1) _ (by omega) (by rw [zup_eq, zmf_s, hlf]; omega) (fun y y0 y1 => by rw [zup_ne (Or.inr (by omega))]; exact hlo y y0 y1) (fun x x1 x2 => by rw [zup_row x2]; exact hfr x x1 x2) (fun x x2 => by rw [zup_row x2]; exact hfz x x2) (by omega))
          refine z_iconst dX12_way_91 (by decide) ?_
          refine z_istore_5 rfl dX12_way_92 ?_
          exact LI 9 0 _ (by omega) (by rw [zup_eq]; rfl) (fun y y0 y1 => by rw [zup_ne (Or.inr (by omega))]; exact hlo y y0 y1) (fun x x1 x2 => by rw [zup_row x2]; exact hfr x x1 x2) (fun x x2 => by rw [zup_row x2]; exact hfz x x2) (by omega)
    refine z_iconst dX12_way_73 (by decide) ?_
    refine z_istore_4 rfl dX12_way_74 ?_
    exact LC 37 0 ζ0 (by decide) (fun y y0 y1 => by omega) (fun x x1 _ => hL x x1) (fun _ _ => rfl) (by decide)
  refine z_iload_1 dX12_way_0 ?_
  refine z_callS1 (k_X12_isCell) m_X12_isCell l_X12_110 (Nat.le_of_ble_eq_true rfl) ⟨Nat.le_of_ble_eq_true rfl, Nat.le_of_ble_eq_true rfl⟩ ⟨rfl, rfl⟩ dX12_way_1 (fun r μ1 hp => ?_)
  obtain ⟨rfl, hv⟩ := hp
  replace hv := hv.symm
  subst hv
  refine z_ifeq (tgt := 42) dX12_way_4 (by decide) (fun h_4 => ?_) (fun h_4 => ?_)
  · replace h_4 := zb_0.mp h_4
    refine z_aload_0 dX12_way_42 ?_
    refine z_callV0 (k_X12_bad hm) m_X12_bad zl_393 l_X12_117 (Nat.le_of_ble_eq_true rfl) ⟨Nat.le_of_ble_eq_true rfl, Nat.le_of_ble_eq_true rfl⟩ ⟨rfl, rfl⟩ dX12_way_43 (fun r μ1 hp => ?_)
    obtain ⟨rfl, hv⟩ := hp
    replace hv := hv.symm
    subst hv
    exact z_iret dX12_way_46 (Or.inl ⟨by first | exact fun q => h_4 q.1.1 | exact fun q => h_11 q.2.1.1 | exact (fun q => absurd (h_19.symm.trans q.1.2) (by decide)) | exact (fun q => absurd (h_27.symm.trans q.2.1.2) (by decide)) | exact fun q => h_39 q.2.2, rfl, rfl⟩)
  · replace h_4 := zb_n.mp h_4
    refine z_iload_2 dX12_way_7 ?_
    refine z_callS1 (k_X12_isCell) m_X12_isCell l_X12_110 (Nat.le_of_ble_eq_true rfl) ⟨Nat.le_of_ble_eq_true rfl, Nat.le_of_ble_eq_true rfl⟩ ⟨rfl, rfl⟩ dX12_way_8 (fun r μ1 hp => ?_)
    obtain ⟨rfl, hv⟩ := hp
    replace hv := hv.symm
    subst hv
    refine z_ifeq (tgt := 42) dX12_way_11 (by decide) (fun h_11 => ?_) (fun h_11 => ?_)
    · replace h_11 := zb_0.mp h_11
      refine z_aload_0 dX12_way_42 ?_
      refine z_callV0 (k_X12_bad hm) m_X12_bad zl_393 l_X12_117 (Nat.le_of_ble_eq_true rfl) ⟨Nat.le_of_ble_eq_true rfl, Nat.le_of_ble_eq_true rfl⟩ ⟨rfl, rfl⟩ dX12_way_43 (fun r μ1 hp => ?_)
      obtain ⟨rfl, hv⟩ := hp
      replace hv := hv.symm
      subst hv
      exact z_iret dX12_way_46 (Or.inl ⟨by first | exact fun q => h_4 q.1.1 | exact fun q => h_11 q.2.1.1 | exact (fun q => absurd (h_19.symm.trans q.1.2) (by decide)) | exact (fun q => absurd (h_27.symm.trans q.2.1.2) (by decide)) | exact fun q => h_39 q.2.2, rfl, rfl⟩)
    · replace h_11 := zb_n.mp h_11
      refine z_aload_0 dX12_way_14 ?_
      refine z_iload_1 dX12_way_15 ?_
      refine z_callV1 (k_X12_isWall (by omega) (by omega)) m_X12_isWall zl_393 l_X12_121 (Nat.le_of_ble_eq_true rfl) ⟨Nat.le_of_ble_eq_true rfl, Nat.le_of_ble_eq_true rfl⟩ ⟨rfl, rfl⟩ dX12_way_16 (fun r μ1 hp => ?_)
      obtain ⟨rfl, hv⟩ := hp
      replace hv := hv.symm
      subst hv
      refine z_ifne (tgt := 42) dX12_way_19 (by decide) (fun h_19 => ?_) (fun h_19 => ?_)
      · replace h_19 := zb_n.mp h_19
        refine z_aload_0 dX12_way_42 ?_
        refine z_callV0 (k_X12_bad hm) m_X12_bad zl_393 l_X12_117 (Nat.le_of_ble_eq_true rfl) ⟨Nat.le_of_ble_eq_true rfl, Nat.le_of_ble_eq_true rfl⟩ ⟨rfl, rfl⟩ dX12_way_43 (fun r μ1 hp => ?_)
        obtain ⟨rfl, hv⟩ := hp
        replace hv := hv.symm
        subst hv
        exact z_iret dX12_way_46 (Or.inl ⟨by first | exact fun q => h_4 q.1.1 | exact fun q => h_11 q.2.1.1 | exact (fun q => absurd (h_19.symm.trans q.1.2) (by decide)) | exact (fun q => absurd (h_27.symm.trans q.2.1.2) (by decide)) | exact fun q => h_39 q.2.2, rfl, rfl⟩)
      · replace h_19 := zb_0.mp h_19
        refine z_aload_0 dX12_way_22 ?_
        refine z_iload_2 dX12_way_23 ?_
        refine z_callV1 (k_X12_isWall (by omega) (by omega)) m_X12_isWall zl_393 l_X12_121 (Nat.le_of_ble_eq_true rfl) ⟨Nat.le_of_ble_eq_true rfl, Nat.le_of_ble_eq_true rfl⟩ ⟨rfl, rfl⟩ dX12_way_24 (fun r μ1 hp => ?_)
        obtain ⟨rfl, hv⟩ := hp
        replace hv := hv.symm
        subst hv
        refine z_ifne (tgt := 42) dX12_way_27 (by decide) (fun h_27 => ?_) (fun h_27 => ?_)
        · replace h_27 := zb_n.mp h_27
          refine z_aload_0 dX12_way_42 ?_
          refine z_callV0 (k_X12_bad hm) m_X12_bad zl_393 l_X12_117 (Nat.le_of_ble_eq_true rfl) ⟨Nat.le_of_ble_eq_true rfl, Nat.le_of_ble_eq_true rfl⟩ ⟨rfl, rfl⟩ dX12_way_43 (fun r μ1 hp => ?_)
          obtain ⟨rfl, hv⟩ := hp
          replace hv := hv.symm
          subst hv
          exact z_iret dX12_way_46 (Or.inl ⟨by first | exact fun q => h_4 q.1.1 | exact fun q => h_11 q.2.1.1 | exact (fun q => absurd (h_19.symm.trans q.1.2) (by decide)) | exact (fun q => absurd (h_27.symm.trans q.2.1.2) (by decide)) | exact fun q => h_39 q.2.2, rfl, rfl⟩)
        · replace h_27 := zb_0.mp h_27
          refine z_iload_3 dX12_way_30 ?_
          refine z_i2l dX12_way_31 ?_
          refine z_lconst0 dX12_way_32 ?_
          refine z_ldc2 (n := 2) k_X12_308 dX12_way_33 (by decide +kernel) ?_
          refine z_callS3 (k_X12_in) m_X12_in l_X12_106 (Nat.le_of_ble_eq_true rfl) ⟨Nat.le_of_ble_eq_true rfl, Nat.le_of_ble_eq_true rfl⟩ ⟨rfl, rfl⟩ dX12_way_36 (fun r μ1 hp => ?_)
          obtain ⟨rfl, hv⟩ := hp
          replace hv := hv.symm
          subst hv
          refine z_ifne (tgt := 47) dX12_way_39 (by decide) (fun h_39 => ?_) (fun h_39 => ?_)
          · replace h_39 := zb_n.mp h_39
            have hBB : (((0 ≤ a ∧ a < 36) ∧ (zBV (μ 394)) 0 a = 0) ∧ ((0 ≤ b ∧ b < 36) ∧ (zBV (μ 394)) 0 b = 0) ∧ 0 ≤ w ∧ w ≤ 2) := ⟨⟨h_4, by have := (hm.1.1.1 a h_4.1 h_4.2).1; omega⟩, ⟨h_11, by have := (hm.1.1.1 b h_11.1 h_11.2).1; omega⟩, h_39⟩
            have a0 := h_4.1
            have a1 := h_4.2
            have b0 := h_11.1
            have b1 := h_11.2
            refine z_aload_0 dX12_way_47 ?_
            refine z_callV0 (k_X12_looks) m_X12_looks zl_393 l_X12_255 (Nat.le_of_ble_eq_true rfl) ⟨Nat.le_of_ble_eq_true rfl, Nat.le_of_ble_eq_true rfl⟩ ⟨rfl, rfl⟩ dX12_way_48 (fun r μ1 hp => ?_)
            obtain ⟨rfl, far, hL⟩ := hp
            obtain ⟨ζ0, hζ9⟩ : ∃ z, z = μ1 := ⟨_, rfl⟩
            subst hζ9
            have fe := zFar_e far a0 a1 b0 b1
            rw [zFar_s far a0 a1 b0 b1] at fe
            refine z_aload_0 dX12_way_51 ?_
            refine z_getF 402 9 rfl f_X12_35 zl_393 rfl rfl dX12_way_52 ?_
            refine z_bipush dX12_way_55 (by decide) ?_
            refine z_iload_1 dX12_way_57 ?_
            refine z_imul dX12_way_58 (by omega) ?_
            refine z_iload_2 dX12_way_59 ?_
            refine z_iadd dX12_way_60 (by omega) ?_
            refine z_iald zl_402 (by omega) (by omega) dX12_way_61 ?_
            refine z_sipush dX12_way_62 (by decide) ?_
            refine z_icmpne (tgt := 73) dX12_way_65 (by decide) (fun h_65 => ?_) (fun h_65 => ?_)
            · exact J hBB ζ0 hL far (by omega)
            · refine z_aload_0 dX12_way_68 ?_
              refine z_callV0 (k_X12_no (zMf_pre hm (zMf_l hL))) m_X12_no zl_393 l_X12_124 (Nat.le_of_ble_eq_true rfl) ⟨Nat.le_of_ble_eq_true rfl, Nat.le_of_ble_eq_true rfl⟩ ⟨rfl, rfl⟩ dX12_way_69 (fun r μ1 hp => ?_)
              obtain ⟨rfl, hv⟩ := hp
              replace hv := hv.symm
              subst hv
              exact z_iret dX12_way_72 (Or.inr (Or.inl ⟨hBB, by omega, rfl, ζ0, zMf_l hL, rfl⟩))
          · replace h_39 := zb_0.mp h_39
            refine z_aload_0 dX12_way_42 ?_
            refine z_callV0 (k_X12_bad hm) m_X12_bad zl_393 l_X12_117 (Nat.le_of_ble_eq_true rfl) ⟨Nat.le_of_ble_eq_true rfl, Nat.le_of_ble_eq_true rfl⟩ ⟨rfl, rfl⟩ dX12_way_43 (fun r μ1 hp => ?_)
            obtain ⟨rfl, hv⟩ := hp
            replace hv := hv.symm
            subst hv
            exact z_iret dX12_way_46 (Or.inl ⟨by first | exact fun q => h_4 q.1.1 | exact fun q => h_11 q.2.1.1 | exact (fun q => absurd (h_19.symm.trans q.1.2) (by decide)) | exact (fun q => absurd (h_27.symm.trans q.2.1.2) (by decide)) | exact fun q => h_39 q.2.2, rfl, rfl⟩)
set_option maxRecDepth 100000 in
set_option maxHeartbeats 4000000 in
theorem k_X11_way {l : Launch} {E : zE} {μ : zM} (hm : zXpre μ) {a b w : Int} (hd9 : ∀ x, 0 ≤ x → x < 36 → zDM (zOp (zHV μ 1)) x (zWk (zHV μ 1) x)) : Ct l E yX11_way cX11_way 4 (some .int) ({ frames := 5, cells := 0, slots := 0, locals := 122 }) [zR 0, zI a, zI b, zI w] μ (fun r ν => (¬ (((0 ≤ a ∧ a < 36) ∧ (zHV μ 1) 0 a = 0) ∧ ((0 ≤ b ∧ b < 36) ∧ (zHV μ 1) 0 b = 0) ∧ 0 ≤ w ∧ w ≤ 2) ∧ r = some (zI (-2)) ∧ ν = zCt μ (-2)) ∨ ((((0 ≤ a ∧ a < 36) ∧ (zHV μ 1) 0 a = 0) ∧ ((0 ≤ b ∧ b < 36) ∧ (zHV μ 1) 0 b = 0) ∧ 0 ≤ w ∧ w ≤ 2) ∧ zWk (zHV μ 1) b a = -1 ∧ r = some (zI (-3)) ∧ ∃ ζ, zXf μ ζ ∧ ν = zCt ζ (-3)) ∨ ((((0 ≤ a ∧ a < 36) ∧ (zHV μ 1) 0 a = 0) ∧ ((0 ≤ b ∧ b < 36) ∧ (zHV μ 1) 0 b = 0) ∧ 0 ≤ w ∧ w ≤ 2) ∧ zWk (zHV μ 1) b a ≠ -1 ∧ (∃ z, r = some (zI z) ∧ zWa9 (zHV μ 1) a b w z) ∧ zXf μ ν)) := by
  refine Ct.of RX11 [zR 0, zI a, zI b, zI w] (by decide +kernel) rfl ⟨rfl, rfl⟩ rfl (Nat.le_of_ble_eq_true rfl) (fun X hX hc0 ha0 => ?_)
  subst hX
  refine z_aload_0 dX11_way_0 ?_
  refine z_iload_1 dX11_way_1 ?_
  refine z_callV1 (k_X11_isOpen hm) m_X11_isOpen zl_0 l_X11_221 (Nat.le_of_ble_eq_true rfl) ⟨Nat.le_of_ble_eq_true rfl, Nat.le_of_ble_eq_true rfl⟩ ⟨rfl, rfl⟩ dX11_way_2 (fun r μ1 hp => ?_)
  obtain ⟨rfl, hv⟩ := hp
  replace hv := hv.symm
  subst hv
  refine z_ifeq (tgt := 25) dX11_way_5 (by decide) (fun h_5 => ?_) (fun h_5 => ?_)
  · replace h_5 := zb_0.mp h_5
    refine z_aload_0 dX11_way_25 ?_
    refine z_bipush dX11_way_26 (by decide) ?_
    refine z_callV1 (k_X11_counted hm.2) m_X11_counted zl_0 l_X11_86 (Nat.le_of_ble_eq_true rfl) ⟨Nat.le_of_ble_eq_true rfl, Nat.le_of_ble_eq_true rfl⟩ ⟨rfl, rfl⟩ dX11_way_28 (fun r μ1 hp => ?_)
    obtain ⟨rfl, hv⟩ := hp
    replace hv := hv.symm
    subst hv
    exact z_iret dX11_way_31 (Or.inl ⟨by first | exact fun q => h_5 q.1 | exact fun q => h_13 q.2.1 | exact fun q => h_22 q.2.2, rfl, rfl⟩)
  · replace h_5 := zb_n.mp h_5
    refine z_aload_0 dX11_way_8 ?_
    refine z_iload_2 dX11_way_9 ?_
    refine z_callV1 (k_X11_isOpen hm) m_X11_isOpen zl_0 l_X11_221 (Nat.le_of_ble_eq_true rfl) ⟨Nat.le_of_ble_eq_true rfl, Nat.le_of_ble_eq_true rfl⟩ ⟨rfl, rfl⟩ dX11_way_10 (fun r μ1 hp => ?_)
    obtain ⟨rfl, hv⟩ := hp
    replace hv := hv.symm
    subst hv
    refine z_ifeq (tgt := 25) dX11_way_13 (by decide) (fun h_13 => ?_) (fun h_13 => ?_)
    · replace h_13 := zb_0.mp h_13
      refine z_aload_0 dX11_way_25 ?_
      refine z_bipush dX11_way_26 (by decide) ?_
      refine z_callV1 (k_X11_counted hm.2) m_X11_counted zl_0 l_X11_86 (Nat.le_of_ble_eq_true rfl) ⟨Nat.le_of_ble_eq_true rfl, Nat.le_of_ble_eq_true rfl⟩ ⟨rfl, rfl⟩ dX11_way_28 (fun r μ1 hp => ?_)
      obtain ⟨rfl, hv⟩ := hp
      replace hv := hv.symm
      subst hv
      exact z_iret dX11_way_31 (Or.inl ⟨by first | exact fun q => h_5 q.1 | exact fun q => h_13 q.2.1 | exact fun q => h_22 q.2.2, rfl, rfl⟩)
    · replace h_13 := zb_n.mp h_13
      refine z_iload_3 dX11_way_16 ?_
      refine z_iconst dX11_way_17 (by decide) ?_
      refine z_iconst dX11_way_18 (by decide) ?_
      refine z_callS3 (k_X11_isIn) m_X11_isIn l_X11_174 (Nat.le_of_ble_eq_true rfl) ⟨Nat.le_of_ble_eq_true rfl, Nat.le_of_ble_eq_true rfl⟩ ⟨rfl, rfl⟩ dX11_way_19 (fun r μ1 hp => ?_)
      obtain ⟨rfl, hv⟩ := hp
      replace hv := hv.symm
      subst hv
      refine z_ifne (tgt := 32) dX11_way_22 (by decide) (fun h_22 => ?_) (fun h_22 => ?_)
      · replace h_22 := zb_n.mp h_22
        refine z_aload_0 dX11_way_32 ?_
        refine z_getF 292 292 rfl f_X11_51 zl_0 rfl rfl dX11_way_33 ?_
        refine z_aload_0 dX11_way_36 ?_
        refine z_getF 1 1 rfl f_X11_10 zl_0 rfl rfl dX11_way_37 ?_
        refine z_iload_1 dX11_way_40 ?_
        refine z_iload_2 dX11_way_41 ?_
        refine z_callV3 (k_X3_find hm.1 hd9 h_5.1.1 h_5.1.2 h_13.1.1 h_13.1.2) m_X3_find zl_292 l_X11_224 (Nat.le_of_ble_eq_true rfl) ⟨Nat.le_of_ble_eq_true rfl, Nat.le_of_ble_eq_true rfl⟩ ⟨rfl, rfl⟩ dX11_way_42 (fun r μ1 hp => ?_)
        obtain ⟨⟨rfl, hy, hn⟩, hr⟩ := hp
        obtain ⟨ζ, hζ9⟩ : ∃ z, z = μ1 := ⟨_, rfl⟩
        subst hζ9
        have hxf : zXf μ ζ := fun x hx => hr x (by omega)
        refine z_ifne (tgt := 55) dX11_way_45 (by decide) (fun h_45 => ?_) (fun h_45 => ?_)
        · replace h_45 := zb_n.mp h_45
          obtain ⟨m, hwq, q0, q1, q2⟩ := h_45
          refine z_iload_3 dX11_way_55 ?_
          refine z_ifne (tgt := 67) dX11_way_56 (by decide) (fun h_56 => ?_) (fun h_56 => ?_)
          · refine z_iload_3 dX11_way_67 ?_
            refine z_iconst dX11_way_68 (by decide) ?_
            refine z_icmpne (tgt := 82) dX11_way_69 (by decide) (fun h_69 => ?_) (fun h_69 => ?_)
            · refine z_aload_0 dX11_way_82 ?_
              refine z_getF 292 292 rfl f_X11_51 zl_0 rfl rfl dX11_way_83 ?_
              refine z_getI 2 rfl f_X11_234 zl_292 rfl dX11_way_86 ?_
              first | rw [q1] | rw [q2]
              exact z_iret dX11_way_89 (Or.inr (Or.inr ⟨⟨h_5, h_13, h_22⟩, hy ⟨m, hwq, q0, q1, q2⟩, ⟨_, rfl, m, hwq, by first | rw [if_pos h_56] | rw [if_neg h_56, if_pos h_69] | rw [if_neg h_56, if_neg h_69]⟩, hxf⟩))
            · refine z_aload_0 dX11_way_72 ?_
              refine z_getF 292 292 rfl f_X11_51 zl_0 rfl rfl dX11_way_73 ?_
              refine z_getI 1 rfl f_X11_231 zl_292 rfl dX11_way_76 ?_
              refine z_goto (tgt := 89) dX11_way_79 (by decide) ?_
              first | rw [q1] | rw [q2]
              exact z_iret dX11_way_89 (Or.inr (Or.inr ⟨⟨h_5, h_13, h_22⟩, hy ⟨m, hwq, q0, q1, q2⟩, ⟨_, rfl, m, hwq, by first | rw [if_pos h_56] | rw [if_neg h_56, if_pos h_69] | rw [if_neg h_56, if_neg h_69]⟩, hxf⟩))
          · refine z_aload_0 dX11_way_59 ?_
            refine z_getF 292 292 rfl f_X11_51 zl_0 rfl rfl dX11_way_60 ?_
            refine z_getI 0 rfl f_X11_228 zl_292 rfl dX11_way_63 ?_
            rw [q0]
            exact z_iret dX11_way_66 (Or.inr (Or.inr ⟨⟨h_5, h_13, h_22⟩, hy ⟨m, hwq, q0, q1, q2⟩, ⟨_, rfl, m, hwq, by first | rw [if_pos h_56] | rw [if_neg h_56, if_pos h_69] | rw [if_neg h_56, if_neg h_69]⟩, hxf⟩))
        · replace h_45 := zb_0.mp h_45
          refine z_aload_0 dX11_way_48 ?_
          refine z_bipush dX11_way_49 (by decide) ?_
          refine z_callV1 (k_X11_counted (by rw [hr 348 (by decide)]; exact hm.2)) m_X11_counted zl_0 l_X11_86 (Nat.le_of_ble_eq_true rfl) ⟨Nat.le_of_ble_eq_true rfl, Nat.le_of_ble_eq_true rfl⟩ ⟨rfl, rfl⟩ dX11_way_51 (fun r μ1 hp => ?_)
          obtain ⟨rfl, hv⟩ := hp
          replace hv := hv.symm
          subst hv
          exact z_iret dX11_way_54 (Or.inr (Or.inl ⟨⟨h_5, h_13, h_22⟩, hn h_45, rfl, ζ, hxf, rfl⟩))
      · replace h_22 := zb_0.mp h_22
        refine z_aload_0 dX11_way_25 ?_
        refine z_bipush dX11_way_26 (by decide) ?_
        refine z_callV1 (k_X11_counted hm.2) m_X11_counted zl_0 l_X11_86 (Nat.le_of_ble_eq_true rfl) ⟨Nat.le_of_ble_eq_true rfl, Nat.le_of_ble_eq_true rfl⟩ ⟨rfl, rfl⟩ dX11_way_28 (fun r μ1 hp => ?_)
        obtain ⟨rfl, hv⟩ := hp
        replace hv := hv.symm
        subst hv
        exact z_iret dX11_way_31 (Or.inl ⟨by first | exact fun q => h_5 q.1 | exact fun q => h_13 q.2.1 | exact fun q => h_22 q.2.2, rfl, rfl⟩)
