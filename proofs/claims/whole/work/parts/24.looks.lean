/-! DISTANCES: the reference's layers; distance, heard -/
/-- a cell without wall -/
def zOp (V : zM) : Int → Prop := fun c => V 0 c ≠ 1
/-- a row of steps from s: 1000 for a cell that isn't reached -/
def zRw (op : Int → Prop) (s : Int) (G : Int → Int) : Prop := zDM op s (zFA G) ∧ ∀ b, 0 ≤ b → b < 36 → G b = 1000 ∨ (0 ≤ G b ∧ G b ≤ 40)
theorem zRw_cg {op : Int → Prop} {s : Int} {F G : Int → Int} (s0 : 0 ≤ s) (s1 : s < 36) (h : zRw op s F) (q : ∀ c, 0 ≤ c → c < 36 → G c = F c) : zRw op s G := ⟨zDM_cg h.1 (fun _ _ _ => Iff.rfl) s0 s1 (fun c a b => by unfold zFA; rw [q c a b]), fun b a c => by rw [q b a c]; exact h.2 b a c⟩
def zRws (op : Int → Prop) (a : Int) (f : Int → Int) : Prop := ∀ x, 0 ≤ x → x < a → x < 36 → zRw op x (fun b => f (36 * x + b))
theorem zRws_u {op : Int → Prop} {a x v : Int} {f : Int → Int} (h : zRws op a f) (h0 : 0 ≤ x) (h1 : x < 36) : zRws op a (zfu f (36 * a + x) v) := fun y a0 a1 a2 => zRw_cg a0 a2 (h y a0 a1 a2) (fun c c0 c1 => zfu_n (by omega))
theorem zrow_u {a x v : Int} {f : Int → Int} : (fun b => zfu f (36 * a + x) v (36 * a + b)) = zfu (fun b => f (36 * a + b)) x v := by
  funext b
  by_cases q : b = x
  · rw [zfu_p (by omega), zfu_p q]
  · rw [zfu_n (by omega), zfu_n q]
theorem zLq_w {op : Int → Prop} {s : Int} {G : Int → Int} {d : Int} (h : zLq op s G (d - 1) 0 36 0) : zRw op s G := by
  have d36 := zLq_b h
  refine ⟨zLq_e h, fun b a c => ?_⟩
  rcases h.2.1 b a c with r | r
  · exact Or.inl r
  · exact Or.inr ⟨r.1, by omega⟩
set_option maxRecDepth 100000 in
set_option maxHeartbeats 4000000 in
theorem k_X12_looks {l : Launch} {E : zE} {μ : zM} : Ct l E yX12_looks cX12_looks 7 none ({ frames := 2, cells := 0, slots := 0, locals := 49 }) [zR 393] μ (fun r ν => r = none ∧ zRws (zOp (zBV (μ 394))) 36 (ν 402) ∧ ∀ x, x ≠ 402 → ν x = μ x) := by
  refine Ct.of RX12 [zR 393, zU, zU, zU, zU, zU, zU] (by decide +kernel) rfl ⟨rfl, rfl⟩ rfl (Nat.le_of_ble_eq_true rfl) (fun X hX hc0 ha0 => ?_)
  subst hX
  have L1 : ∀ (k : Nat) (ξ : zM) (a : Int), 0 ≤ a → a ≤ 36 → zRws (zOp (zBV (μ 394))) a (ξ 402) → (∀ x, x ≠ 402 → ξ x = μ x) → 36 - a < k → MW X E cX12_looks RX12 ({ frames := 2, cells := 0, slots := 0, locals := 49 }) none (fun r ν => r = none ∧ zRws (zOp (zBV (μ 394))) 36 (ν 402) ∧ ∀ x, x ≠ 402 → ν x = μ x) 2 [zR 393, zI a, zU, zU, zU, zU, zU] [] ξ := by
    intro k
    induction k with
    | zero => intro ξ a ha0' ha1 hdn hfr h4; omega
    | succ k ih =>
      intro ξ a ha0' ha1 hdn hfr h4
      have aa : a < 36 → True := fun _ => trivial
      rcases (by omega : a = 36 ∨ a < 36) with e36 | a36
      · subst e36
        refine z_iload_1 dX12_looks_2 ?_
        refine z_bipush dX12_looks_3 (by decide) ?_
        refine z_icmpge (tgt := 194) dX12_looks_5 (by decide) (fun h_5 => ?_) (fun h_5 => ?_)
        · exact z_vret dX12_looks_194 (⟨rfl, hdn, hfr⟩)
        · exact absurd h_5 (by decide)
      have L2 : ∀  (k : Nat) (ξ : zM) (d m : Int), 0 ≤ d → d ≤ 37 → zLq (zOp (zBV (μ 394))) a (fun b => ξ 402 (36 * a + b)) (d - 1) m 36 0 → zRws (zOp (zBV (μ 394))) a (ξ 402) → (∀ x, x ≠ 402 → ξ x = μ x) → 40 - d < k → MW X E cX12_looks RX12 ({ frames := 2, cells := 0, slots := 0, locals := 49 }) none (fun r ν => r = none ∧ zRws (zOp (zBV (μ 394))) 36 (ν 402) ∧ ∀ x, x ≠ 402 → ν x = μ x) 69 [zR 393, zI a, zI m, zI d, zU, zU, zU] [] ξ := by
        intro  k
        induction k with
        | zero => intro ξ d m hd0 hd1 hB hdn hfr h4; omega
        | succ k ih2 =>
          intro ξ d m hd0 hd1 hB hdn hfr h4
          have dB := zLq_b hB
          have L3 : ∀  (k : Nat) (ξ : zM) (m c : Int), 0 ≤ c → c ≤ 36 → zLq (zOp (zBV (μ 394))) a (fun b => ξ 402 (36 * a + b)) d m c 0 → zRws (zOp (zBV (μ 394))) a (ξ 402) → (∀ x, x ≠ 402 → ξ x = μ x) → 36 - c < k → MW X E cX12_looks RX12 ({ frames := 2, cells := 0, slots := 0, locals := 49 }) none (fun r ν => r = none ∧ zRws (zOp (zBV (μ 394))) 36 (ν 402) ∧ ∀ x, x ≠ 402 → ν x = μ x) 78 [zR 393, zI a, zI m, zI d, zI c, zU, zU] [] ξ := by
            intro  k
            induction k with
            | zero => intro ξ m c hc0' hc1 hB hdn hfr h4; omega
            | succ k ih3 =>
              intro ξ m c hc0' hc1 hB hdn hfr h4
              have L4 : ∀  (k : Nat) (ξ : zM) (m t : Int), 0 ≤ t → t ≤ 4 → c < 36 → zLq (zOp (zBV (μ 394))) a (fun b => ξ 402 (36 * a + b)) d m c t → zRws (zOp (zBV (μ 394))) a (ξ 402) → (∀ x, x ≠ 402 → ξ x = μ x) → 4 - t < k → MW X E cX12_looks RX12 ({ frames := 2, cells := 0, slots := 0, locals := 49 }) none (fun r ν => r = none ∧ zRws (zOp (zBV (μ 394))) 36 (ν 402) ∧ ∀ x, x ≠ 402 → ν x = μ x) 88 [zR 393, zI a, zI m, zI d, zI c, zI t, zU] [] ξ := by
                intro  k
                induction k with
                | zero => intro ξ m t ht0 ht1 hc36 hB hdn hfr h4; omega
                | succ k ih4 =>
                  intro ξ m t ht0 ht1 hc36 hB hdn hfr h4
                  have h394 : ξ 394 = μ 394 := hfr 394 (by decide)
                  have db := zLq_b hB
                  have gb := hB.2.1
                  refine z_iload_5 dX12_looks_88 ?_
                  refine z_iconst dX12_looks_90 (by decide) ?_
                  refine z_icmpge (tgt := 176) dX12_looks_91 (by decide) (fun h_91 => ?_) (fun h_91 => ?_)
                  · refine z_iinc_4 rfl dX12_looks_176 (by omega) ?_
                    refine z_goto (tgt := 78) dX12_looks_179 (by decide) ?_
                    exact z_weak (ls' := [zR 393, zI a, zI m, zI d, zI (c + 1), zU, zU]) ⟨Or.inl rfl, Or.inl rfl, Or.inl rfl, Or.inl rfl, Or.inl rfl, Or.inr rfl, Or.inr rfl, trivial⟩ (ih3 ξ m (c + 1) (by omega) (by omega) (zLq_next hB (by first | exact Or.inr (by omega) | exact Or.inl h_107)) hdn hfr (by omega))
                  · refine z_aload_0 dX12_looks_94 ?_
                    refine z_getF 402 9 rfl f_X12_35 zl_393 rfl rfl dX12_looks_95 ?_
                    refine z_bipush dX12_looks_98 (by decide) ?_
                    refine z_iload_1 dX12_looks_100 ?_
                    refine z_imul dX12_looks_101 (by omega) ?_
                    refine z_iload_4 dX12_looks_102 ?_
                    refine z_iadd dX12_looks_104 (by omega) ?_
                    refine z_iald zl_402 (by omega) (by omega) dX12_looks_105 ?_
                    refine z_iload_3 dX12_looks_106 ?_
                    refine z_icmpne (tgt := 176) dX12_looks_107 (by decide) (fun h_107 => ?_) (fun h_107 => ?_)
                    · refine z_iinc_4 rfl dX12_looks_176 (by omega) ?_
                      refine z_goto (tgt := 78) dX12_looks_179 (by decide) ?_
                      exact z_weak (ls' := [zR 393, zI a, zI m, zI d, zI (c + 1), zU, zU]) ⟨Or.inl rfl, Or.inl rfl, Or.inl rfl, Or.inl rfl, Or.inl rfl, Or.inr rfl, Or.inr rfl, trivial⟩ (ih3 ξ m (c + 1) (by omega) (by omega) (zLq_next hB (by first | exact Or.inr (by omega) | exact Or.inl h_107)) hdn hfr (by omega))
                    · have hdc : ξ 402 (36 * a + c) = d := h_107
                      refine z_aload_0 dX12_looks_110 ?_
                      refine z_iload_4 dX12_looks_111 ?_
                      refine z_iload_5 dX12_looks_113 ?_
                      refine z_callV2 (k_X12_beside (by omega) (by omega)) m_X12_beside zl_393 l_X12_249 (Nat.le_of_ble_eq_true rfl) ⟨Nat.le_of_ble_eq_true rfl, Nat.le_of_ble_eq_true rfl⟩ ⟨rfl, rfl⟩ dX12_looks_115 (fun r μ1 hp => ?_)
                      obtain ⟨rfl, hv⟩ := hp
                      replace hv := hv.symm
                      subst hv
                      have nr := fun h => zNw_r (V := zBV (ξ 394)) (c := c) (w := t) (by omega) (by omega) h
                      refine z_istore_6 rfl dX12_looks_118 ?_
                      refine z_iload_6 dX12_looks_120 ?_
                      refine z_iconst dX12_looks_122 (by decide) ?_
                      refine z_icmpeq (tgt := 170) dX12_looks_123 (by decide) (fun h_123 => ?_) (fun h_123 => ?_)
                      · refine z_iinc_5 rfl dX12_looks_170 (by omega) ?_
                        refine z_goto (tgt := 88) dX12_looks_173 (by decide) ?_
                        exact z_weak (ls' := [zR 393, zI a, zI m, zI d, zI c, zI (t + 1), zU]) ⟨Or.inl rfl, Or.inl rfl, Or.inl rfl, Or.inl rfl, Or.inl rfl, Or.inl rfl, Or.inr rfl, trivial⟩ (ih4 ξ m (t + 1) (by omega) (by omega) hc36 (zLq_skip hB (by have h := h_123; unfold zNw at h; split at h; exact Or.inr (Or.inl (fun o => o (by rename_i q; rw [← h394]; exact q.2))); exact Or.inl h) hdc (by omega) (by omega)) hdn hfr (by omega))
                      · have nb := nr h_123
                        refine z_aload_0 dX12_looks_126 ?_
                        refine z_getF 402 9 rfl f_X12_35 zl_393 rfl rfl dX12_looks_127 ?_
                        refine z_bipush dX12_looks_130 (by decide) ?_
                        refine z_iload_1 dX12_looks_132 ?_
                        refine z_imul dX12_looks_133 (by omega) ?_
                        refine z_iload_6 dX12_looks_134 ?_
                        refine z_ifge (tgt := 143) dX12_looks_136 (by decide) (fun h_136 => ?_) (fun h_136 => ?_)
                        · refine z_iload_6 dX12_looks_143 ?_
                          refine z_iadd dX12_looks_145 (by omega) ?_
                          refine z_iald zl_402 (by omega) (by omega) dX12_looks_146 ?_
                          refine z_sipush dX12_looks_147 (by decide) ?_
                          refine z_icmpne (tgt := 170) dX12_looks_150 (by decide) (fun h_150 => ?_) (fun h_150 => ?_)
                          · refine z_iinc_5 rfl dX12_looks_170 (by omega) ?_
                            refine z_goto (tgt := 88) dX12_looks_173 (by decide) ?_
                            exact z_weak (ls' := [zR 393, zI a, zI m, zI d, zI c, zI (t + 1), zU]) ⟨Or.inl rfl, Or.inl rfl, Or.inl rfl, Or.inl rfl, Or.inl rfl, Or.inl rfl, Or.inr rfl, trivial⟩ (ih4 ξ m (t + 1) (by omega) (by omega) hc36 (zLq_skip hB (Or.inr (Or.inr (by rw [← nb.2.1]; exact h_150))) hdc (by omega) (by omega)) hdn hfr (by omega))
                          · refine z_aload_0 dX12_looks_153 ?_
                            refine z_getF 402 9 rfl f_X12_35 zl_393 rfl rfl dX12_looks_154 ?_
                            refine z_bipush dX12_looks_157 (by decide) ?_
                            refine z_iload_1 dX12_looks_159 ?_
                            refine z_imul dX12_looks_160 (by omega) ?_
                            refine z_iload_6 dX12_looks_161 ?_
                            refine z_iadd dX12_looks_163 (by omega) ?_
                            refine z_iload_3 dX12_looks_164 ?_
                            refine z_iconst dX12_looks_165 (by decide) ?_
                            refine z_iadd dX12_looks_166 (by omega) ?_
                            refine z_iast zl_402 (by omega) (by omega) dX12_looks_167 ?_
                            refine z_iconst dX12_looks_168 (by decide) ?_
                            refine z_istore_2 rfl dX12_looks_169 ?_
                            refine z_iinc_5 rfl dX12_looks_170 (by omega) ?_
                            refine z_goto (tgt := 88) dX12_looks_173 (by decide) ?_
                            have nb := nr h_123
                            exact z_weak (ls' := [zR 393, zI a, zI 1, zI d, zI c, zI (t + 1), zU]) ⟨Or.inl rfl, Or.inl rfl, Or.inl rfl, Or.inl rfl, Or.inl rfl, Or.inl rfl, Or.inr rfl, trivial⟩ (ih4 (zup ξ 402 (36 * a + zNw (zBV (ξ 394)) c t) (d + 1)) 1 (t + 1) (by omega) (by omega) hc36 (by rw [zup_fu, zrow_u]; exact zLq_set hB (by omega) (by omega) nb.2.1.symm h_123 (by show zBV (μ 394) 0 _ ≠ 1; rw [← h394, nb.2.1]; exact nb.2.2.1) (by exact h_150) hdc (by omega) (by omega)) (by rw [zup_fu]; exact zRws_u hdn nb.1.1 nb.1.2) (fun x hx => by rw [zup_row hx]; exact hfr x hx) (by omega))
                        · exact absurd h_136 (by omega)
              refine z_iload_4 dX12_looks_78 ?_
              refine z_bipush dX12_looks_80 (by decide) ?_
              refine z_icmpge (tgt := 182) dX12_looks_82 (by decide) (fun h_82 => ?_) (fun h_82 => ?_)
              · refine z_iinc_3 rfl dX12_looks_182 (by omega) ?_
                refine z_goto (tgt := 69) dX12_looks_185 (by decide) ?_
                exact z_weak (ls' := [zR 393, zI a, zI m, zI (d + 1), zU, zU, zU]) ⟨Or.inl rfl, Or.inl rfl, Or.inl rfl, Or.inl rfl, Or.inr rfl, Or.inr rfl, Or.inr rfl, trivial⟩ (ih2 ξ (d + 1) m (by omega) (by have := zLq_b hB; omega) (by rw [show d + 1 - 1 = d by omega]; rw [show c = 36 by omega] at hB; exact hB) hdn hfr (by have := zLq_b hB; omega))
              · refine z_iconst dX12_looks_85 (by decide) ?_
                refine z_istore_5 rfl dX12_looks_86 ?_
                exact L4 5 ξ m 0 (by omega) (by omega) (by omega) hB hdn hfr (by omega)
          refine z_iload_2 dX12_looks_69 ?_
          refine z_ifeq (tgt := 188) dX12_looks_70 (by decide) (fun h_70 => ?_) (fun h_70 => ?_)
          · refine z_iinc_1 rfl dX12_looks_188 (by omega) ?_
            refine z_goto (tgt := 2) dX12_looks_191 (by decide) ?_
            exact z_weak (ls' := [zR 393, zI (a + 1), zU, zU, zU, zU, zU]) ⟨Or.inl rfl, Or.inl rfl, Or.inr rfl, Or.inr rfl, Or.inr rfl, Or.inr rfl, Or.inr rfl, trivial⟩ (ih ξ (a + 1) (by omega) (by omega) (fun x x0 x1 x2 => by by_cases e : x = a; (subst e; exact zLq_w (by rw [h_70] at hB; exact hB)); exact hdn x x0 (by omega) x2) hfr (by omega))
          · refine z_iconst dX12_looks_73 (by decide) ?_
            refine z_istore_2 rfl dX12_looks_74 ?_
            refine z_iconst dX12_looks_75 (by decide) ?_
            refine z_istore_4 rfl dX12_looks_76 ?_
            exact L3 37 ξ 0 0 (by omega) (by omega) (zLq_in (by have m1 : m = 1 := (by have := hB.1.2.1; omega); rw [m1] at hB; exact hB)) hdn hfr (by omega)
      have L5 : ∀  (k : Nat) (ξ : zM) (c : Int), 0 ≤ c → c ≤ 36 → (∀ b, 0 ≤ b → b < c → (b ≠ a → ξ 402 (36 * a + b) = 1000) ∧ (b = a → (zOp (zBV (μ 394)) a → ξ 402 (36 * a + b) = 0) ∧ (¬ zOp (zBV (μ 394)) a → ξ 402 (36 * a + b) = 1000))) → zRws (zOp (zBV (μ 394))) a (ξ 402) → (∀ x, x ≠ 402 → ξ x = μ x) → 36 - c < k → MW X E cX12_looks RX12 ({ frames := 2, cells := 0, slots := 0, locals := 49 }) none (fun r ν => r = none ∧ zRws (zOp (zBV (μ 394))) 36 (ν 402) ∧ ∀ x, x ≠ 402 → ν x = μ x) 10 [zR 393, zI a, zI c, zU, zU, zU, zU] [] ξ := by
        intro  k
        induction k with
        | zero => intro ξ c hc0' hc1 hI hdn hfr h4; omega
        | succ k ih5 =>
          intro ξ c hc0' hc1 hI hdn hfr h4
          have h394 : ξ 394 = μ 394 := hfr 394 (by decide)
          refine z_iload_2 dX12_looks_10 ?_
          refine z_bipush dX12_looks_11 (by decide) ?_
          refine z_icmpge (tgt := 53) dX12_looks_13 (by decide) (fun h_13 => ?_) (fun h_13 => ?_)
          · refine z_aload_0 dX12_looks_53 ?_
            refine z_iload_1 dX12_looks_54 ?_
            refine z_callV1 (k_X12_isWall (by omega) (by omega)) m_X12_isWall zl_393 l_X12_121 (Nat.le_of_ble_eq_true rfl) ⟨Nat.le_of_ble_eq_true rfl, Nat.le_of_ble_eq_true rfl⟩ ⟨rfl, rfl⟩ dX12_looks_55 (fun r μ1 hp => ?_)
            obtain ⟨rfl, hv⟩ := hp
            replace hv := hv.symm
            subst hv
            refine z_ifne (tgt := 65) dX12_looks_58 (by decide) (fun h_58 => ?_) (fun h_58 => ?_)
            · replace h_58 := zb_n.mp h_58
              refine z_iconst dX12_looks_65 (by decide) ?_
              refine z_istore_2 rfl dX12_looks_66 ?_
              refine z_iconst dX12_looks_67 (by decide) ?_
              refine z_istore_3 rfl dX12_looks_68 ?_
              exact L2 41 ξ 0 0 (by omega) (by omega) (zLq_0 (by decide) (fun b b0 b1 e => (hI b b0 (by omega)).1 e) (fun o => ((hI a (by omega) (by omega)).2 rfl).1 o) (fun o => ((hI a (by omega) (by omega)).2 rfl).2 o) (fun _ o => o (by rw [← h394]; exact h_58)) (by omega) (by omega)) hdn hfr (by omega)
            · replace h_58 := zb_0.mp h_58
              refine z_iconst dX12_looks_61 (by decide) ?_
              refine z_goto (tgt := 66) dX12_looks_62 (by decide) ?_
              refine z_istore_2 rfl dX12_looks_66 ?_
              refine z_iconst dX12_looks_67 (by decide) ?_
              refine z_istore_3 rfl dX12_looks_68 ?_
              exact L2 41 ξ 0 1 (by omega) (by omega) (zLq_0 (by decide) (fun b b0 b1 e => (hI b b0 (by omega)).1 e) (fun o => ((hI a (by omega) (by omega)).2 rfl).1 o) (fun o => ((hI a (by omega) (by omega)).2 rfl).2 o) (fun q => absurd q (by decide)) (by omega) (by omega)) hdn hfr (by omega)
          · refine z_aload_0 dX12_looks_16 ?_
            refine z_getF 402 9 rfl f_X12_35 zl_393 rfl rfl dX12_looks_17 ?_
            refine z_bipush dX12_looks_20 (by decide) ?_
            refine z_iload_1 dX12_looks_22 ?_
            refine z_imul dX12_looks_23 (by omega) ?_
            refine z_iload_2 dX12_looks_24 ?_
            refine z_iadd dX12_looks_25 (by omega) ?_
            refine z_iload_1 dX12_looks_26 ?_
            refine z_iload_2 dX12_looks_27 ?_
            refine z_icmpne (tgt := 43) dX12_looks_28 (by decide) (fun h_28 => ?_) (fun h_28 => ?_)
            · refine z_sipush dX12_looks_43 (by decide) ?_
              refine z_iast zl_402 (by omega) (by omega) dX12_looks_46 ?_
              refine z_iinc_2 rfl dX12_looks_47 (by omega) ?_
              refine z_goto (tgt := 10) dX12_looks_50 (by decide) ?_
              exact ih5 (zup ξ 402 (36 * a + c) 1000) (c + 1) (by omega) (by omega) (fun b b0 b1 => by rw [zup_fu]; by_cases e : b = c; (subst e; rw [zfu_e]; exact ⟨fun _ => rfl, fun e => absurd e.symm h_28⟩); (rw [zfu_n (by omega)]; exact hI b b0 (by omega))) (by rw [zup_fu]; exact zRws_u hdn (by omega) (by omega)) (fun x hx => by rw [zup_row hx]; exact hfr x hx) (by omega)
            · refine z_aload_0 dX12_looks_31 ?_
              refine z_iload_1 dX12_looks_32 ?_
              refine z_callV1 (k_X12_isWall (by omega) (by omega)) m_X12_isWall zl_393 l_X12_121 (Nat.le_of_ble_eq_true rfl) ⟨Nat.le_of_ble_eq_true rfl, Nat.le_of_ble_eq_true rfl⟩ ⟨rfl, rfl⟩ dX12_looks_33 (fun r μ1 hp => ?_)
              obtain ⟨rfl, hv⟩ := hp
              replace hv := hv.symm
              subst hv
              refine z_ifne (tgt := 43) dX12_looks_36 (by decide) (fun h_36 => ?_) (fun h_36 => ?_)
              · replace h_36 := zb_n.mp h_36
                refine z_sipush dX12_looks_43 (by decide) ?_
                refine z_iast zl_402 (by omega) (by omega) dX12_looks_46 ?_
                refine z_iinc_2 rfl dX12_looks_47 (by omega) ?_
                refine z_goto (tgt := 10) dX12_looks_50 (by decide) ?_
                exact ih5 (zup ξ 402 (36 * a + c) 1000) (c + 1) (by omega) (by omega) (fun b b0 b1 => by rw [zup_fu]; by_cases e : b = c; (subst e; rw [zfu_e]; exact ⟨fun e => absurd h_28.symm e, fun _ => ⟨fun o => absurd (by rw [h394] at h_36; exact h_36) o, fun _ => rfl⟩⟩); (rw [zfu_n (by omega)]; exact hI b b0 (by omega))) (by rw [zup_fu]; exact zRws_u hdn (by omega) (by omega)) (fun x hx => by rw [zup_row hx]; exact hfr x hx) (by omega)
              · replace h_36 := zb_0.mp h_36
                refine z_iconst dX12_looks_39 (by decide) ?_
                refine z_goto (tgt := 46) dX12_looks_40 (by decide) ?_
                refine z_iast zl_402 (by omega) (by omega) dX12_looks_46 ?_
                refine z_iinc_2 rfl dX12_looks_47 (by omega) ?_
                refine z_goto (tgt := 10) dX12_looks_50 (by decide) ?_
                exact ih5 (zup ξ 402 (36 * a + c) 0) (c + 1) (by omega) (by omega) (fun b b0 b1 => by rw [zup_fu]; by_cases e : b = c; (subst e; rw [zfu_e]; exact ⟨fun e => absurd h_28.symm e, fun _ => ⟨fun _ => rfl, fun o => absurd (fun q => h_36 (by rw [h394]; exact q)) o⟩⟩); (rw [zfu_n (by omega)]; exact hI b b0 (by omega))) (by rw [zup_fu]; exact zRws_u hdn (by omega) (by omega)) (fun x hx => by rw [zup_row hx]; exact hfr x hx) (by omega)
      refine z_iload_1 dX12_looks_2 ?_
      refine z_bipush dX12_looks_3 (by decide) ?_
      refine z_icmpge (tgt := 194) dX12_looks_5 (by decide) (fun h_5 => ?_) (fun h_5 => ?_)
      · exact absurd h_5 (by omega)
      · refine z_iconst dX12_looks_8 (by decide) ?_
        refine z_istore_2 rfl dX12_looks_9 ?_
        exact L5 37 ξ 0 (by omega) (by omega) (fun b b0 b1 => by omega) hdn hfr (by omega)
  refine z_iconst dX12_looks_0 (by decide) ?_
  refine z_istore_1 rfl dX12_looks_1 ?_
  exact L1 37 μ 0 (by omega) (by omega) (fun x x0 x1 => by omega) (fun _ _ => rfl) (by omega)
