/-! DISTANCES: the class's queue, the reference's layers -/
set_option maxRecDepth 100000 in
set_option maxHeartbeats 4000000 in
theorem k_X6_spread {l : Launch} {E : zE} {q w f : Nat} {μ : zM} {s : Int} (hq : zAt zp6 q) (hw : zl w = (21, 36)) (hf : zl f = (20, 36)) (fq : f ≠ q + 1) (hs : 0 ≤ s ∧ s < 36) : Ct l E yX6_spread cX6_spread 9 none ({ frames := 1, cells := 0, slots := 0, locals := 23 }) [zR q, zR w, zI s, zR f] μ (fun r ν => r = none ∧ zDM (fun c => μ w c = 0) s (ν f) ∧ ∀ a, a ≠ f → a ≠ q + 1 → ν a = μ a) := by
  refine Ct.of RX6 [zR q, zR w, zI s, zR f, zU, zU, zU, zU, zU] (by decide +kernel) rfl ⟨rfl, rfl⟩ rfl (Nat.le_of_ble_eq_true rfl) (fun X hX hc0 ha0 => ?_)
  subst hX
  have wf : w ≠ f := fun e => by rw [e, hf] at hw; exact absurd hw (by decide)
  have wr : w ≠ q + 1 := fun e => by rw [e, hq.at 1 rfl] at hw; exact absurd hw (by decide)
  have L3 : ∀ (k : Nat) (ξ : zM) (e i : Int), 0 ≤ i → i ≤ 36 → zBq (fun c => μ w c = 0) s (ξ f) (ξ (q + 1)) i e 0 → (∀ a, a ≠ f → a ≠ q + 1 → ξ a = μ a) → 36 - i < k → MW X E cX6_spread RX6 ({ frames := 1, cells := 0, slots := 0, locals := 23 }) none (fun r ν => r = none ∧ zDM (fun c => μ w c = 0) s (ν f) ∧ ∀ a, a ≠ f → a ≠ q + 1 → ν a = μ a) 29 [zR q, zR w, zI s, zR f, zI e, zI i, zU, zU, zU] [] ξ := by
    intro k
    induction k with
    | zero => intro ξ e i h1 hi36 hB hfr h3; omega
    | succ k ih =>
      intro ξ e i h1 hi36 hB hfr h3
      have bb := hB.1
      have LI : ∀ (cell : Int) (k : Nat) (ξ : zM) (e t : Int), 0 ≤ t → t ≤ 4 → i < e → zBq (fun c => μ w c = 0) s (ξ f) (ξ (q + 1)) i e t → ξ (q + 1) i = cell → (∀ a, a ≠ f → a ≠ q + 1 → ξ a = μ a) → 4 - t < k → MW X E cX6_spread RX6 ({ frames := 1, cells := 0, slots := 0, locals := 23 }) none (fun r ν => r = none ∧ zDM (fun c => μ w c = 0) s (ν f) ∧ ∀ a, a ≠ f → a ≠ q + 1 → ν a = μ a) 55 [zR q, zR w, zI s, zR f, zI e, zI i, zI cell, zI t, zU] [] ξ := by
        intro cell k
        induction k with
        | zero => intro ξ e t h1 h2 hi hB hc hfr h3; omega
        | succ k ih2 =>
          intro ξ e t h1 h2 hi hB hc hfr h3
          have bb := hB.1
          have hw2 : ξ w = μ w := hfr w wf wr
          have hcr := hB.2.1 i bb.1 hi
          rw [hc] at hcr
          have hc3 := (hB.2.2.1 cell hcr.1 hcr.2.1 hcr.2.2.1).1
          refine z_iload_7 dX6_spread_55 ?_
          refine z_iconst dX6_spread_57 (by decide) ?_
          refine z_icmpge (tgt := 126) dX6_spread_58 (by decide) (fun h_58 => ?_) (fun h_58 => ?_)
          · refine z_iinc_5 rfl dX6_spread_126 (by omega) ?_
            refine z_goto (tgt := 29) dX6_spread_129 (by decide) ?_
            exact z_weak (ls' := [zR q, zR w, zI s, zR f, zI e, zI (i + 1), zU, zU, zU]) ⟨Or.inl rfl, Or.inl rfl, Or.inl rfl, Or.inl rfl, Or.inl rfl, Or.inl rfl, Or.inr rfl, Or.inr rfl, Or.inr rfl, trivial⟩ (ih ξ e (i + 1) (by omega) (by omega) (zBq_n hB hi (by omega)) hfr (by omega))
          · refine z_iload_6 dX6_spread_61 ?_
            refine z_iload_7 dX6_spread_63 ?_
            refine z_callS2 (k_X6_beside ⟨hcr.1, hcr.2.1⟩) m_X6_beside l_X6_21 (Nat.le_of_ble_eq_true rfl) ⟨Nat.le_of_ble_eq_true rfl, Nat.le_of_ble_eq_true rfl⟩ ⟨rfl, rfl⟩ dX6_spread_65 (fun r μ1 hp => ?_)
            obtain ⟨rfl, hv⟩ := hp
            replace hv := hv.symm
            subst hv
            have nbr := fun h => zNb_r (w := t) hcr.1 hcr.2.1 h
            have nbb := zNb_b (w := t) hcr.1 hcr.2.1
            refine z_istore_8 rfl dX6_spread_68 ?_
            refine z_iload_8 dX6_spread_70 ?_
            refine z_iconst dX6_spread_72 (by decide) ?_
            refine z_icmpeq (tgt := 120) dX6_spread_73 (by decide) (fun h_73 => ?_) (fun h_73 => ?_)
            · refine z_iinc_7 rfl dX6_spread_120 (by omega) ?_
              refine z_goto (tgt := 55) dX6_spread_123 (by decide) ?_
              exact z_weak (ls' := [zR q, zR w, zI s, zR f, zI e, zI i, zI cell, zI (t + 1), zU]) ⟨Or.inl rfl, Or.inl rfl, Or.inl rfl, Or.inl rfl, Or.inl rfl, Or.inl rfl, Or.inl rfl, Or.inl rfl, Or.inr rfl, trivial⟩ (ih2 ξ e (t + 1) (by omega) (by omega) hi (zBq_s hB hi (by rw [hc]; exact Or.inl h_73)) hc hfr (by omega))
            · refine z_aload_1 dX6_spread_76 ?_
              refine z_iload_8 dX6_spread_77 ?_
              have nb := nbr h_73
              refine z_zald hw (by omega) (by omega) dX6_spread_79 ?_
              refine z_ifne (tgt := 120) dX6_spread_80 (by decide) (fun h_80 => ?_) (fun h_80 => ?_)
              · refine z_iinc_7 rfl dX6_spread_120 (by omega) ?_
                refine z_goto (tgt := 55) dX6_spread_123 (by decide) ?_
                exact z_weak (ls' := [zR q, zR w, zI s, zR f, zI e, zI i, zI cell, zI (t + 1), zU]) ⟨Or.inl rfl, Or.inl rfl, Or.inl rfl, Or.inl rfl, Or.inl rfl, Or.inl rfl, Or.inl rfl, Or.inl rfl, Or.inr rfl, trivial⟩ (ih2 ξ e (t + 1) (by omega) (by omega) hi (zBq_s hB hi (by rw [hc]; exact Or.inr (Or.inl (fun r => h_80 (by rw [hw2]; exact r))))) hc hfr (by omega))
              · refine z_aload_3 dX6_spread_83 ?_
                refine z_iload_8 dX6_spread_84 ?_
                refine z_iald hf (by omega) (by omega) dX6_spread_86 ?_
                refine z_iconst dX6_spread_87 (by decide) ?_
                refine z_icmpne (tgt := 120) dX6_spread_88 (by decide) (fun h_88 => ?_) (fun h_88 => ?_)
                · refine z_iinc_7 rfl dX6_spread_120 (by omega) ?_
                  refine z_goto (tgt := 55) dX6_spread_123 (by decide) ?_
                  exact z_weak (ls' := [zR q, zR w, zI s, zR f, zI e, zI i, zI cell, zI (t + 1), zU]) ⟨Or.inl rfl, Or.inl rfl, Or.inl rfl, Or.inl rfl, Or.inl rfl, Or.inl rfl, Or.inl rfl, Or.inl rfl, Or.inr rfl, trivial⟩ (ih2 ξ e (t + 1) (by omega) (by omega) hi (zBq_s hB hi (by rw [hc]; exact Or.inr (Or.inr h_88))) hc hfr (by omega))
                · refine z_iload_4 dX6_spread_91 ?_
                  refine z_bipush dX6_spread_93 (by decide) ?_
                  refine z_icmpge (tgt := 120) dX6_spread_95 (by decide) (fun h_95 => ?_) (fun h_95 => ?_)
                  · exact absurd (zBq_l hB nb.1 nb.2 h_88) (by omega)
                  · refine z_aload_3 dX6_spread_98 ?_
                    refine z_iload_8 dX6_spread_99 ?_
                    refine z_aload_3 dX6_spread_101 ?_
                    refine z_iload_6 dX6_spread_102 ?_
                    refine z_iald hf (by omega) (by omega) dX6_spread_104 ?_
                    refine z_iconst dX6_spread_105 (by decide) ?_
                    refine z_iadd dX6_spread_106 (by omega) ?_
                    refine z_iast hf (by omega) (by omega) dX6_spread_107 ?_
                    refine z_aload_0 dX6_spread_108 ?_
                    refine z_getF (q + 1) 1 rfl f_X6_9 (hq.at 0 rfl) rfl rfl dX6_spread_109 ?_
                    refine z_iload_4 dX6_spread_112 ?_
                    refine z_iinc_4 rfl dX6_spread_114 (by omega) ?_
                    refine z_iload_8 dX6_spread_117 ?_
                    refine z_iast (hq.at 1 rfl) (by omega) (by omega) dX6_spread_119 ?_
                    refine z_iinc_7 rfl dX6_spread_120 (by omega) ?_
                    refine z_goto (tgt := 55) dX6_spread_123 (by decide) ?_
                    have hi2 : 0 ≤ i ∧ i < 36 := by omega
                    exact z_weak (ls' := [zR q, zR w, zI s, zR f, zI (e + 1), zI i, zI cell, zI (t + 1), zU]) ⟨Or.inl rfl, Or.inl rfl, Or.inl rfl, Or.inl rfl, Or.inl rfl, Or.inl rfl, Or.inl rfl, Or.inl rfl, Or.inr rfl, trivial⟩ (ih2 (zup (zup ξ f (zNb cell t) (ξ f cell + 1)) (q + 1) e (zNb cell t)) (e + 1) (t + 1) (by omega) (by omega) (by omega) (by rw [zup_fu, zup_row fq, zup_fu, zup_row (Ne.symm fq)]; have := zBq_p hB hi (by omega) (by omega) (by rw [hc]) h_73 (by show μ w _ = 0; rw [← hw2]; exact h_80) h_88; rwa [hc] at this) (by rw [zup_fu, zfu_n (by omega), zup_row (Ne.symm fq)]; exact hc) (fun a h1 h2 => by rw [zup_row h2, zup_row h1]; exact hfr a h1 h2) (by omega))
      refine z_iload_5 dX6_spread_29 ?_
      refine z_bipush dX6_spread_31 (by decide) ?_
      refine z_icmpge (tgt := 132) dX6_spread_33 (by decide) (fun h_33 => ?_) (fun h_33 => ?_)
      · exact z_vret dX6_spread_132 (⟨rfl, zBq_e hB (by omega), hfr⟩)
      · refine z_iload_5 dX6_spread_36 ?_
        refine z_iload_4 dX6_spread_38 ?_
        refine z_icmpge (tgt := 132) dX6_spread_40 (by decide) (fun h_40 => ?_) (fun h_40 => ?_)
        · exact z_vret dX6_spread_132 (⟨rfl, zBq_e hB (by omega), hfr⟩)
        · refine z_aload_0 dX6_spread_43 ?_
          refine z_getF (q + 1) 1 rfl f_X6_9 (hq.at 0 rfl) rfl rfl dX6_spread_44 ?_
          refine z_iload_5 dX6_spread_47 ?_
          refine z_iald (hq.at 1 rfl) (by omega) (by omega) dX6_spread_49 ?_
          refine z_istore_6 rfl dX6_spread_50 ?_
          refine z_iconst dX6_spread_52 (by decide) ?_
          refine z_istore_7 rfl dX6_spread_53 ?_
          exact LI (ξ (q + 1) i) 5 ξ e 0 (by omega) (by omega) (by omega) hB rfl hfr (by omega)
  refine z_aload_3 dX6_spread_0 ?_
  refine z_iconst dX6_spread_1 (by decide) ?_
  refine z_callS2 (k_J7_fill_53178 hf (by decide)) m_J7_fill_53178 l_X6_15 (Nat.le_of_ble_eq_true rfl) ⟨Nat.le_of_ble_eq_true rfl, Nat.le_of_ble_eq_true rfl⟩ ⟨rfl, rfl⟩ dX6_spread_2 (fun r μ1 hp => ?_)
  obtain ⟨rfl, hv⟩ := hp
  subst hv
  refine z_aload_1 dX6_spread_5 ?_
  refine z_iload_2 dX6_spread_6 ?_
  refine z_zald hw (by omega) (by omega) dX6_spread_7 ?_
  rw [zfl_ne wf]
  refine z_ifeq (tgt := 12) dX6_spread_8 (by decide) (fun h_8 => ?_) (fun h_8 => ?_)
  · refine z_aload_3 dX6_spread_12 ?_
    refine z_iload_2 dX6_spread_13 ?_
    refine z_iconst dX6_spread_14 (by decide) ?_
    refine z_iast hf (by omega) (by omega) dX6_spread_15 ?_
    refine z_aload_0 dX6_spread_16 ?_
    refine z_getF (q + 1) 1 rfl f_X6_9 (hq.at 0 rfl) rfl rfl dX6_spread_17 ?_
    refine z_iconst dX6_spread_20 (by decide) ?_
    refine z_iload_2 dX6_spread_21 ?_
    refine z_iast (hq.at 1 rfl) (by omega) (by omega) dX6_spread_22 ?_
    refine z_iconst dX6_spread_23 (by decide) ?_
    refine z_istore_4 rfl dX6_spread_24 ?_
    refine z_iconst dX6_spread_26 (by decide) ?_
    refine z_istore_5 rfl dX6_spread_27 ?_
    exact L3 37 _ 1 0 (by omega) (by omega) (by rw [zup_fu, zup_row fq, zup_fu, zup_row (Ne.symm fq)]; exact zBq_0 hs.1 hs.2 h_8 (fun c a b => zfl_at a b) zfu_e) (fun a h1 h2 => by rw [zup_row h2, zup_row h1, zfl_ne h1]) (by omega)
  · exact z_vret dX6_spread_11 (⟨rfl, zDM_no h_8 (fun c a b => zfl_at a b), fun a h1 h2 => zfl_ne h1⟩)
theorem zNx_0 {F : Int → Int} {c : Int} (h : F c ≤ 0) : zNx F c = -1 := if_pos h
theorem zNx_w {F : Int → Int} {c w : Int} (h : 0 < F c) (w0 : 0 ≤ w) (w4 : w < 4) (hn : ∀ v, 0 ≤ v → v < w → ¬ (zNb c v ≠ -1 ∧ F (zNb c v) = F c - 1)) (hw : zNb c w ≠ -1 ∧ F (zNb c w) = F c - 1) : zNx F c = zNb c w := by
  unfold zNx
  rw [if_neg (by omega)]
  rcases (by omega : w = 0 ∨ w = 1 ∨ w = 2 ∨ w = 3) with rfl | rfl | rfl | rfl
  · rw [if_pos hw]
  · rw [if_neg (hn 0 (by decide) (by decide)), if_pos hw]
  · rw [if_neg (hn 0 (by decide) (by decide)), if_neg (hn 1 (by decide) (by decide)), if_pos hw]
  · rw [if_neg (hn 0 (by decide) (by decide)), if_neg (hn 1 (by decide) (by decide)), if_neg (hn 2 (by decide) (by decide)), if_pos hw]
theorem zNx_no {F : Int → Int} {c : Int} (hn : ∀ v, 0 ≤ v → v < 4 → ¬ (zNb c v ≠ -1 ∧ F (zNb c v) = F c - 1)) : zNx F c = -1 := by
  unfold zNx
  split
  · rfl
  · rw [if_neg (hn 0 (by decide) (by decide)), if_neg (hn 1 (by decide) (by decide)), if_neg (hn 2 (by decide) (by decide)), if_neg (hn 3 (by decide) (by decide))]
set_option maxRecDepth 100000 in
set_option maxHeartbeats 4000000 in
theorem k_X6_onward {l : Launch} {E : zE} {f : Nat} {μ : zM} {c : Int} (hf : zl f = (20, 36)) (hc : 0 ≤ c ∧ c < 36) : Ct l E yX6_onward cX6_onward 4 (some .int) ({ frames := 1, cells := 0, slots := 0, locals := 22 }) [zI c, zR f] μ (fun r ν => r = some (zI (zNx (μ f) c)) ∧ ν = μ) := by
  refine Ct.of RX6 [zI c, zR f, zU, zU] (by decide +kernel) rfl ⟨rfl, rfl⟩ rfl (Nat.le_of_ble_eq_true rfl) (fun X hX hc0 ha0 => ?_)
  subst hX
  have L4 : 0 < μ f c → MW X E cX6_onward RX6 ({ frames := 1, cells := 0, slots := 0, locals := 22 }) (some .int) (fun r ν => r = some (zI (zNx (μ f) c)) ∧ ν = μ) 10 [zI c, zR f, zI 0, zU] [] μ := fun hp => by
    have L3 : ∀ (k : Nat) (w : Int), 0 ≤ w → w ≤ 4 → (∀ v, 0 ≤ v → v < w → ¬ (zNb c v ≠ -1 ∧ μ f (zNb c v) = μ f c - 1)) → 4 - w < k → MW X E cX6_onward RX6 ({ frames := 1, cells := 0, slots := 0, locals := 22 }) (some .int) (fun r ν => r = some (zI (zNx (μ f) c)) ∧ ν = μ) 10 [zI c, zR f, zI w, zU] [] μ := by
      intro k
      induction k with
      | zero => intro w h1 h2 hno h3; omega
      | succ k ih =>
        intro w h1 h2 hno h3
        refine z_iload_2 dX6_onward_10 ?_
        refine z_iconst dX6_onward_11 (by decide) ?_
        refine z_icmpge (tgt := 45) dX6_onward_12 (by decide) (fun h_12 => ?_) (fun h_12 => ?_)
        · refine z_iconst dX6_onward_45 (by decide) ?_
          exact z_iret dX6_onward_46 (by rw [zNx_no (fun v a b => hno v a (by omega))]; exact ⟨rfl, rfl⟩)
        · refine z_iload_0 dX6_onward_15 ?_
          refine z_iload_2 dX6_onward_16 ?_
          refine z_callS2 (k_X6_beside hc) m_X6_beside l_X6_21 (Nat.le_of_ble_eq_true rfl) ⟨Nat.le_of_ble_eq_true rfl, Nat.le_of_ble_eq_true rfl⟩ ⟨rfl, rfl⟩ dX6_onward_17 (fun r μ1 hp => ?_)
          obtain ⟨rfl, hv⟩ := hp
          replace hv := hv.symm
          subst hv
          have nbr := fun h => zNb_r (w := w) hc.1 hc.2 h
          have nbb := zNb_b (w := w) hc.1 hc.2
          refine z_istore_3 rfl dX6_onward_20 ?_
          refine z_iload_3 dX6_onward_21 ?_
          refine z_iconst dX6_onward_22 (by decide) ?_
          refine z_icmpeq (tgt := 39) dX6_onward_23 (by decide) (fun h_23 => ?_) (fun h_23 => ?_)
          · refine z_iinc_2 rfl dX6_onward_39 (by omega) ?_
            refine z_goto (tgt := 10) dX6_onward_42 (by decide) ?_
            exact z_weak (ls' := [zI c, zR f, zI (w + 1), zU]) ⟨Or.inl rfl, Or.inl rfl, Or.inl rfl, Or.inr rfl, trivial⟩ (ih (w + 1) (by omega) (by omega) (fun v a b => by by_cases e : v = w; (subst e; exact fun r => r.1 h_23); exact hno v a (by omega)) (by omega))
          · have nb := nbr h_23
            have zz : μ f c ≤ 2147483647 := (hc0.1 f c).2
            refine z_aload_1 dX6_onward_26 ?_
            refine z_iload_3 dX6_onward_27 ?_
            refine z_iald hf (by omega) (by omega) dX6_onward_28 ?_
            refine z_aload_1 dX6_onward_29 ?_
            refine z_iload_0 dX6_onward_30 ?_
            refine z_iald hf (by omega) (by omega) dX6_onward_31 ?_
            refine z_iconst dX6_onward_32 (by decide) ?_
            refine z_isub dX6_onward_33 (by omega) ?_
            refine z_icmpne (tgt := 39) dX6_onward_34 (by decide) (fun h_34 => ?_) (fun h_34 => ?_)
            · refine z_iinc_2 rfl dX6_onward_39 (by omega) ?_
              refine z_goto (tgt := 10) dX6_onward_42 (by decide) ?_
              exact z_weak (ls' := [zI c, zR f, zI (w + 1), zU]) ⟨Or.inl rfl, Or.inl rfl, Or.inl rfl, Or.inr rfl, trivial⟩ (ih (w + 1) (by omega) (by omega) (fun v a b => by by_cases e : v = w; (subst e; exact fun r => h_34 r.2); exact hno v a (by omega)) (by omega))
            · refine z_iload_3 dX6_onward_37 ?_
              exact z_iret dX6_onward_38 (by rw [zNx_w hp h1 h_12 hno ⟨h_23, h_34⟩]; exact ⟨rfl, rfl⟩)
    exact L3 5 0 (by omega) (by omega) (fun v a b => by omega) (by omega)
  refine z_aload_1 dX6_onward_0 ?_
  refine z_iload_0 dX6_onward_1 ?_
  refine z_iald hf (by omega) (by omega) dX6_onward_2 ?_
  refine z_ifgt (tgt := 8) dX6_onward_3 (by decide) (fun h_3 => ?_) (fun h_3 => ?_)
  · refine z_iconst dX6_onward_8 (by decide) ?_
    refine z_istore_2 rfl dX6_onward_9 ?_
    exact L4 h_3
  · refine z_iconst dX6_onward_6 (by decide) ?_
    exact z_iret dX6_onward_7 (by rw [zNx_0 (by omega)]; exact ⟨rfl, rfl⟩)
/-- the cell beside one that has no wall; none -/
def zNw (V : zM) (c w : Int) : Int := if zNb c w ≠ -1 ∧ V 0 (zNb c w) = 1 then -1 else zNb c w
theorem zNw_g {V : zM} {c w r k : Int} (hc : 0 ≤ c ∧ c < 36) (hw : 0 ≤ w ∧ w < 4) (hr : r = c / 6 + (if w = 0 then -1 else if w = 2 then 1 else 0)) (hk : k = c % 6 + (if w = 1 then 1 else if w = 3 then -1 else 0)) : zNb c w = if (0 ≤ r ∧ r ≤ 5) ∧ (0 ≤ k ∧ k ≤ 5) then 6 * r + k else -1 := by
  rcases (by omega : w = 0 ∨ w = 1 ∨ w = 2 ∨ w = 3) with rfl | rfl | rfl | rfl
  · rw [if_pos rfl] at hr
    rw [if_neg (by decide), if_neg (by decide)] at hk
    rw [zNb0]; split <;> split <;> omega
  · rw [if_neg (by decide), if_neg (by decide)] at hr
    rw [if_pos rfl] at hk
    rw [zNb1]; split <;> split <;> omega
  · rw [if_neg (by decide), if_pos rfl] at hr
    rw [if_neg (by decide), if_neg (by decide)] at hk
    rw [zNb2]; split <;> split <;> omega
  · rw [if_neg (by decide), if_neg (by decide)] at hr
    rw [if_neg (by decide), if_pos rfl] at hk
    rw [zNb3]; split <;> split <;> omega
theorem zNw_x {V : zM} {c w r k : Int} (hc : 0 ≤ c ∧ c < 36) (hw : 0 ≤ w ∧ w < 4) (hr : r = c / 6 + (if w = 0 then -1 else if w = 2 then 1 else 0)) (hk : k = c % 6 + (if w = 1 then 1 else if w = 3 then -1 else 0)) (q : ¬ (0 ≤ r ∧ r ≤ 5) ∨ ¬ (0 ≤ k ∧ k ≤ 5) ∨ V 0 (6 * r + k) = 1) : zNw V c w = -1 := by
  have g := zNw_g (V := V) hc hw hr hk
  unfold zNw
  by_cases e : (0 ≤ r ∧ r ≤ 5) ∧ (0 ≤ k ∧ k ≤ 5)
  · rw [if_pos e] at g
    rcases q with q | q | q
    · exact absurd e.1 q
    · exact absurd e.2 q
    · rw [if_pos ⟨by omega, by rw [g]; exact q⟩]
  · rw [if_neg e] at g
    rw [if_neg (fun x => x.1 g)]
    exact g
theorem zNw_y {V : zM} {c w r k : Int} (hc : 0 ≤ c ∧ c < 36) (hw : 0 ≤ w ∧ w < 4) (hr : r = c / 6 + (if w = 0 then -1 else if w = 2 then 1 else 0)) (hk : k = c % 6 + (if w = 1 then 1 else if w = 3 then -1 else 0)) (q1 : 0 ≤ r ∧ r ≤ 5) (q2 : 0 ≤ k ∧ k ≤ 5) (q : ¬ V 0 (6 * r + k) = 1) : zNw V c w = 6 * r + k := by
  have g := zNw_g (V := V) hc hw hr hk
  rw [if_pos ⟨q1, q2⟩] at g
  unfold zNw
  rw [if_neg (fun x => q (by rw [← g]; exact x.2))]
  exact g
theorem zNw_r {V : zM} {c w : Int} (h0 : 0 ≤ c) (h1 : c < 36) (hn : zNw V c w ≠ -1) : (0 ≤ zNw V c w ∧ zNw V c w < 36) ∧ zNw V c w = zNb c w ∧ V 0 (zNb c w) ≠ 1 ∧ zNb c w ≠ -1 := by
  unfold zNw at *
  split at hn
  · exact absurd rfl hn
  · next q =>
    rw [if_neg q]
    exact ⟨zNb_r h0 h1 hn, rfl, fun e => q ⟨hn, e⟩, hn⟩
set_option maxRecDepth 100000 in
set_option maxHeartbeats 4000000 in
theorem k_X12_beside {l : Launch} {E : zE} {μ : zM} {c w : Int} (hc : 0 ≤ c ∧ c < 36) (hw : 0 ≤ w ∧ w < 4) : Ct l E yX12_beside cX12_beside 5 (some .int) ({ frames := 1, cells := 0, slots := 0, locals := 25 }) [zR 393, zI c, zI w] μ (fun r ν => r = some (zI (zNw (zBV (μ 394)) c w)) ∧ ν = μ) := by
  refine Ct.of RX12 [zR 393, zI c, zI w, zU, zU] (by decide +kernel) rfl ⟨rfl, rfl⟩ rfl (Nat.le_of_ble_eq_true rfl) (fun X hX hc0 ha0 => ?_)
  subst hX
  refine z_iload_1 dX12_beside_0 ?_
  refine z_bipush dX12_beside_1 (by decide) ?_
  refine z_idiv dX12_beside_3 (by omega) (by omega) ?_
  refine z_iload_2 dX12_beside_4 ?_
  refine z_ifne (tgt := 12) dX12_beside_5 (by decide) (fun h_5 => ?_) (fun h_5 => ?_)
  · refine z_iload_2 dX12_beside_12 ?_
    refine z_iconst dX12_beside_13 (by decide) ?_
    refine z_icmpne (tgt := 21) dX12_beside_14 (by decide) (fun h_14 => ?_) (fun h_14 => ?_)
    · refine z_iconst dX12_beside_21 (by decide) ?_
      refine z_iadd dX12_beside_22 (by omega) ?_
      refine z_istore_3 rfl dX12_beside_23 ?_
      refine z_iload_1 dX12_beside_24 ?_
      refine z_bipush dX12_beside_25 (by decide) ?_
      refine z_irem dX12_beside_27 (by omega) (by omega) ?_
      refine z_iload_2 dX12_beside_28 ?_
      refine z_iconst dX12_beside_29 (by decide) ?_
      refine z_icmpne (tgt := 37) dX12_beside_30 (by decide) (fun h_30 => ?_) (fun h_30 => ?_)
      · refine z_iload_2 dX12_beside_37 ?_
        refine z_iconst dX12_beside_38 (by decide) ?_
        refine z_icmpne (tgt := 46) dX12_beside_39 (by decide) (fun h_39 => ?_) (fun h_39 => ?_)
        · refine z_iconst dX12_beside_46 (by decide) ?_
          refine z_iadd dX12_beside_47 (by omega) ?_
          refine z_istore_4 rfl dX12_beside_48 ?_
          refine z_iload_3 dX12_beside_50 ?_
          refine z_i2l dX12_beside_51 ?_
          refine z_lconst0 dX12_beside_52 ?_
          refine z_ldc2 (n := 5) k_X12_247 dX12_beside_53 (by decide +kernel) ?_
          refine z_callS3 (k_X12_in) m_X12_in l_X12_106 (Nat.le_of_ble_eq_true rfl) ⟨Nat.le_of_ble_eq_true rfl, Nat.le_of_ble_eq_true rfl⟩ ⟨rfl, rfl⟩ dX12_beside_56 (fun r μ1 hp => ?_)
          obtain ⟨rfl, hv⟩ := hp
          replace hv := hv.symm
          subst hv
          refine z_ifeq (tgt := 89) dX12_beside_59 (by decide) (fun h_59 => ?_) (fun h_59 => ?_)
          · replace h_59 := zb_0.mp h_59
            refine z_iconst dX12_beside_89 (by decide) ?_
            exact z_iret dX12_beside_90 (by first | (rw [zNw_x hc hw (by first | (rw [if_pos (by assumption)]) | (rw [if_neg (by assumption), if_pos (by assumption)]) | (rw [if_neg (by assumption), if_neg (by assumption)])) (by first | (rw [if_pos (by assumption)]) | (rw [if_neg (by assumption), if_pos (by assumption)]) | (rw [if_neg (by assumption), if_neg (by assumption)])) (by first | exact Or.inl h_59 | exact Or.inr (Or.inl h_72) | exact Or.inr (Or.inr h_86))]; exact ⟨rfl, rfl⟩) | (rw [zNw_y hc hw (by first | (rw [if_pos (by assumption)]) | (rw [if_neg (by assumption), if_pos (by assumption)]) | (rw [if_neg (by assumption), if_neg (by assumption)])) (by first | (rw [if_pos (by assumption)]) | (rw [if_neg (by assumption), if_pos (by assumption)]) | (rw [if_neg (by assumption), if_neg (by assumption)])) h_59 h_72 h_86]; exact ⟨rfl, rfl⟩))
          · replace h_59 := zb_n.mp h_59
            refine z_iload_4 dX12_beside_62 ?_
            refine z_i2l dX12_beside_64 ?_
            refine z_lconst0 dX12_beside_65 ?_
            refine z_ldc2 (n := 5) k_X12_247 dX12_beside_66 (by decide +kernel) ?_
            refine z_callS3 (k_X12_in) m_X12_in l_X12_106 (Nat.le_of_ble_eq_true rfl) ⟨Nat.le_of_ble_eq_true rfl, Nat.le_of_ble_eq_true rfl⟩ ⟨rfl, rfl⟩ dX12_beside_69 (fun r μ1 hp => ?_)
            obtain ⟨rfl, hv⟩ := hp
            replace hv := hv.symm
            subst hv
            refine z_ifeq (tgt := 89) dX12_beside_72 (by decide) (fun h_72 => ?_) (fun h_72 => ?_)
            · replace h_72 := zb_0.mp h_72
              refine z_iconst dX12_beside_89 (by decide) ?_
              exact z_iret dX12_beside_90 (by first | (rw [zNw_x hc hw (by first | (rw [if_pos (by assumption)]) | (rw [if_neg (by assumption), if_pos (by assumption)]) | (rw [if_neg (by assumption), if_neg (by assumption)])) (by first | (rw [if_pos (by assumption)]) | (rw [if_neg (by assumption), if_pos (by assumption)]) | (rw [if_neg (by assumption), if_neg (by assumption)])) (by first | exact Or.inl h_59 | exact Or.inr (Or.inl h_72) | exact Or.inr (Or.inr h_86))]; exact ⟨rfl, rfl⟩) | (rw [zNw_y hc hw (by first | (rw [if_pos (by assumption)]) | (rw [if_neg (by assumption), if_pos (by assumption)]) | (rw [if_neg (by assumption), if_neg (by assumption)])) (by first | (rw [if_pos (by assumption)]) | (rw [if_neg (by assumption), if_pos (by assumption)]) | (rw [if_neg (by assumption), if_neg (by assumption)])) h_59 h_72 h_86]; exact ⟨rfl, rfl⟩))
            · replace h_72 := zb_n.mp h_72
              refine z_aload_0 dX12_beside_75 ?_
              refine z_bipush dX12_beside_76 (by decide) ?_
              refine z_iload_3 dX12_beside_78 ?_
              refine z_imul dX12_beside_79 (by omega) ?_
              refine z_iload_4 dX12_beside_80 ?_
              refine z_iadd dX12_beside_82 (by omega) ?_
              refine z_callV1 (k_X12_isWall (by omega) (by omega)) m_X12_isWall zl_393 l_X12_121 (Nat.le_of_ble_eq_true rfl) ⟨Nat.le_of_ble_eq_true rfl, Nat.le_of_ble_eq_true rfl⟩ ⟨rfl, rfl⟩ dX12_beside_83 (fun r μ1 hp => ?_)
              obtain ⟨rfl, hv⟩ := hp
              replace hv := hv.symm
              subst hv
              refine z_ifeq (tgt := 91) dX12_beside_86 (by decide) (fun h_86 => ?_) (fun h_86 => ?_)
              · replace h_86 := zb_0.mp h_86
                refine z_bipush dX12_beside_91 (by decide) ?_
                refine z_iload_3 dX12_beside_93 ?_
                refine z_imul dX12_beside_94 (by omega) ?_
                refine z_iload_4 dX12_beside_95 ?_
                refine z_iadd dX12_beside_97 (by omega) ?_
                exact z_iret dX12_beside_98 (by first | (rw [zNw_x hc hw (by first | (rw [if_pos (by assumption)]) | (rw [if_neg (by assumption), if_pos (by assumption)]) | (rw [if_neg (by assumption), if_neg (by assumption)])) (by first | (rw [if_pos (by assumption)]) | (rw [if_neg (by assumption), if_pos (by assumption)]) | (rw [if_neg (by assumption), if_neg (by assumption)])) (by first | exact Or.inl h_59 | exact Or.inr (Or.inl h_72) | exact Or.inr (Or.inr h_86))]; exact ⟨rfl, rfl⟩) | (rw [zNw_y hc hw (by first | (rw [if_pos (by assumption)]) | (rw [if_neg (by assumption), if_pos (by assumption)]) | (rw [if_neg (by assumption), if_neg (by assumption)])) (by first | (rw [if_pos (by assumption)]) | (rw [if_neg (by assumption), if_pos (by assumption)]) | (rw [if_neg (by assumption), if_neg (by assumption)])) h_59 h_72 h_86]; exact ⟨rfl, rfl⟩))
              · replace h_86 := zb_n.mp h_86
                refine z_iconst dX12_beside_89 (by decide) ?_
                exact z_iret dX12_beside_90 (by first | (rw [zNw_x hc hw (by first | (rw [if_pos (by assumption)]) | (rw [if_neg (by assumption), if_pos (by assumption)]) | (rw [if_neg (by assumption), if_neg (by assumption)])) (by first | (rw [if_pos (by assumption)]) | (rw [if_neg (by assumption), if_pos (by assumption)]) | (rw [if_neg (by assumption), if_neg (by assumption)])) (by first | exact Or.inl h_59 | exact Or.inr (Or.inl h_72) | exact Or.inr (Or.inr h_86))]; exact ⟨rfl, rfl⟩) | (rw [zNw_y hc hw (by first | (rw [if_pos (by assumption)]) | (rw [if_neg (by assumption), if_pos (by assumption)]) | (rw [if_neg (by assumption), if_neg (by assumption)])) (by first | (rw [if_pos (by assumption)]) | (rw [if_neg (by assumption), if_pos (by assumption)]) | (rw [if_neg (by assumption), if_neg (by assumption)])) h_59 h_72 h_86]; exact ⟨rfl, rfl⟩))
        · refine z_iconst dX12_beside_42 (by decide) ?_
          refine z_goto (tgt := 47) dX12_beside_43 (by decide) ?_
          refine z_iadd dX12_beside_47 (by omega) ?_
          refine z_istore_4 rfl dX12_beside_48 ?_
          refine z_iload_3 dX12_beside_50 ?_
          refine z_i2l dX12_beside_51 ?_
          refine z_lconst0 dX12_beside_52 ?_
          refine z_ldc2 (n := 5) k_X12_247 dX12_beside_53 (by decide +kernel) ?_
          refine z_callS3 (k_X12_in) m_X12_in l_X12_106 (Nat.le_of_ble_eq_true rfl) ⟨Nat.le_of_ble_eq_true rfl, Nat.le_of_ble_eq_true rfl⟩ ⟨rfl, rfl⟩ dX12_beside_56 (fun r μ1 hp => ?_)
          obtain ⟨rfl, hv⟩ := hp
          replace hv := hv.symm
          subst hv
          refine z_ifeq (tgt := 89) dX12_beside_59 (by decide) (fun h_59 => ?_) (fun h_59 => ?_)
          · replace h_59 := zb_0.mp h_59
            refine z_iconst dX12_beside_89 (by decide) ?_
            exact z_iret dX12_beside_90 (by first | (rw [zNw_x hc hw (by first | (rw [if_pos (by assumption)]) | (rw [if_neg (by assumption), if_pos (by assumption)]) | (rw [if_neg (by assumption), if_neg (by assumption)])) (by first | (rw [if_pos (by assumption)]) | (rw [if_neg (by assumption), if_pos (by assumption)]) | (rw [if_neg (by assumption), if_neg (by assumption)])) (by first | exact Or.inl h_59 | exact Or.inr (Or.inl h_72) | exact Or.inr (Or.inr h_86))]; exact ⟨rfl, rfl⟩) | (rw [zNw_y hc hw (by first | (rw [if_pos (by assumption)]) | (rw [if_neg (by assumption), if_pos (by assumption)]) | (rw [if_neg (by assumption), if_neg (by assumption)])) (by first | (rw [if_pos (by assumption)]) | (rw [if_neg (by assumption), if_pos (by assumption)]) | (rw [if_neg (by assumption), if_neg (by assumption)])) h_59 h_72 h_86]; exact ⟨rfl, rfl⟩))
          · replace h_59 := zb_n.mp h_59
            refine z_iload_4 dX12_beside_62 ?_
            refine z_i2l dX12_beside_64 ?_
            refine z_lconst0 dX12_beside_65 ?_
            refine z_ldc2 (n := 5) k_X12_247 dX12_beside_66 (by decide +kernel) ?_
            refine z_callS3 (k_X12_in) m_X12_in l_X12_106 (Nat.le_of_ble_eq_true rfl) ⟨Nat.le_of_ble_eq_true rfl, Nat.le_of_ble_eq_true rfl⟩ ⟨rfl, rfl⟩ dX12_beside_69 (fun r μ1 hp => ?_)
            obtain ⟨rfl, hv⟩ := hp
            replace hv := hv.symm
            subst hv
            refine z_ifeq (tgt := 89) dX12_beside_72 (by decide) (fun h_72 => ?_) (fun h_72 => ?_)
            · replace h_72 := zb_0.mp h_72
              refine z_iconst dX12_beside_89 (by decide) ?_
              exact z_iret dX12_beside_90 (by first | (rw [zNw_x hc hw (by first | (rw [if_pos (by assumption)]) | (rw [if_neg (by assumption), if_pos (by assumption)]) | (rw [if_neg (by assumption), if_neg (by assumption)])) (by first | (rw [if_pos (by assumption)]) | (rw [if_neg (by assumption), if_pos (by assumption)]) | (rw [if_neg (by assumption), if_neg (by assumption)])) (by first | exact Or.inl h_59 | exact Or.inr (Or.inl h_72) | exact Or.inr (Or.inr h_86))]; exact ⟨rfl, rfl⟩) | (rw [zNw_y hc hw (by first | (rw [if_pos (by assumption)]) | (rw [if_neg (by assumption), if_pos (by assumption)]) | (rw [if_neg (by assumption), if_neg (by assumption)])) (by first | (rw [if_pos (by assumption)]) | (rw [if_neg (by assumption), if_pos (by assumption)]) | (rw [if_neg (by assumption), if_neg (by assumption)])) h_59 h_72 h_86]; exact ⟨rfl, rfl⟩))
            · replace h_72 := zb_n.mp h_72
              refine z_aload_0 dX12_beside_75 ?_
              refine z_bipush dX12_beside_76 (by decide) ?_
              refine z_iload_3 dX12_beside_78 ?_
              refine z_imul dX12_beside_79 (by omega) ?_
              refine z_iload_4 dX12_beside_80 ?_
              refine z_iadd dX12_beside_82 (by omega) ?_
              refine z_callV1 (k_X12_isWall (by omega) (by omega)) m_X12_isWall zl_393 l_X12_121 (Nat.le_of_ble_eq_true rfl) ⟨Nat.le_of_ble_eq_true rfl, Nat.le_of_ble_eq_true rfl⟩ ⟨rfl, rfl⟩ dX12_beside_83 (fun r μ1 hp => ?_)
              obtain ⟨rfl, hv⟩ := hp
              replace hv := hv.symm
              subst hv
              refine z_ifeq (tgt := 91) dX12_beside_86 (by decide) (fun h_86 => ?_) (fun h_86 => ?_)
              · replace h_86 := zb_0.mp h_86
                refine z_bipush dX12_beside_91 (by decide) ?_
                refine z_iload_3 dX12_beside_93 ?_
                refine z_imul dX12_beside_94 (by omega) ?_
                refine z_iload_4 dX12_beside_95 ?_
                refine z_iadd dX12_beside_97 (by omega) ?_
                exact z_iret dX12_beside_98 (by first | (rw [zNw_x hc hw (by first | (rw [if_pos (by assumption)]) | (rw [if_neg (by assumption), if_pos (by assumption)]) | (rw [if_neg (by assumption), if_neg (by assumption)])) (by first | (rw [if_pos (by assumption)]) | (rw [if_neg (by assumption), if_pos (by assumption)]) | (rw [if_neg (by assumption), if_neg (by assumption)])) (by first | exact Or.inl h_59 | exact Or.inr (Or.inl h_72) | exact Or.inr (Or.inr h_86))]; exact ⟨rfl, rfl⟩) | (rw [zNw_y hc hw (by first | (rw [if_pos (by assumption)]) | (rw [if_neg (by assumption), if_pos (by assumption)]) | (rw [if_neg (by assumption), if_neg (by assumption)])) (by first | (rw [if_pos (by assumption)]) | (rw [if_neg (by assumption), if_pos (by assumption)]) | (rw [if_neg (by assumption), if_neg (by assumption)])) h_59 h_72 h_86]; exact ⟨rfl, rfl⟩))
              · replace h_86 := zb_n.mp h_86
                refine z_iconst dX12_beside_89 (by decide) ?_
                exact z_iret dX12_beside_90 (by first | (rw [zNw_x hc hw (by first | (rw [if_pos (by assumption)]) | (rw [if_neg (by assumption), if_pos (by assumption)]) | (rw [if_neg (by assumption), if_neg (by assumption)])) (by first | (rw [if_pos (by assumption)]) | (rw [if_neg (by assumption), if_pos (by assumption)]) | (rw [if_neg (by assumption), if_neg (by assumption)])) (by first | exact Or.inl h_59 | exact Or.inr (Or.inl h_72) | exact Or.inr (Or.inr h_86))]; exact ⟨rfl, rfl⟩) | (rw [zNw_y hc hw (by first | (rw [if_pos (by assumption)]) | (rw [if_neg (by assumption), if_pos (by assumption)]) | (rw [if_neg (by assumption), if_neg (by assumption)])) (by first | (rw [if_pos (by assumption)]) | (rw [if_neg (by assumption), if_pos (by assumption)]) | (rw [if_neg (by assumption), if_neg (by assumption)])) h_59 h_72 h_86]; exact ⟨rfl, rfl⟩))
      · refine z_iconst dX12_beside_33 (by decide) ?_
        refine z_goto (tgt := 47) dX12_beside_34 (by decide) ?_
        refine z_iadd dX12_beside_47 (by omega) ?_
        refine z_istore_4 rfl dX12_beside_48 ?_
        refine z_iload_3 dX12_beside_50 ?_
        refine z_i2l dX12_beside_51 ?_
        refine z_lconst0 dX12_beside_52 ?_
        refine z_ldc2 (n := 5) k_X12_247 dX12_beside_53 (by decide +kernel) ?_
        refine z_callS3 (k_X12_in) m_X12_in l_X12_106 (Nat.le_of_ble_eq_true rfl) ⟨Nat.le_of_ble_eq_true rfl, Nat.le_of_ble_eq_true rfl⟩ ⟨rfl, rfl⟩ dX12_beside_56 (fun r μ1 hp => ?_)
        obtain ⟨rfl, hv⟩ := hp
        replace hv := hv.symm
        subst hv
        refine z_ifeq (tgt := 89) dX12_beside_59 (by decide) (fun h_59 => ?_) (fun h_59 => ?_)
        · replace h_59 := zb_0.mp h_59
          refine z_iconst dX12_beside_89 (by decide) ?_
          exact z_iret dX12_beside_90 (by first | (rw [zNw_x hc hw (by first | (rw [if_pos (by assumption)]) | (rw [if_neg (by assumption), if_pos (by assumption)]) | (rw [if_neg (by assumption), if_neg (by assumption)])) (by first | (rw [if_pos (by assumption)]) | (rw [if_neg (by assumption), if_pos (by assumption)]) | (rw [if_neg (by assumption), if_neg (by assumption)])) (by first | exact Or.inl h_59 | exact Or.inr (Or.inl h_72) | exact Or.inr (Or.inr h_86))]; exact ⟨rfl, rfl⟩) | (rw [zNw_y hc hw (by first | (rw [if_pos (by assumption)]) | (rw [if_neg (by assumption), if_pos (by assumption)]) | (rw [if_neg (by assumption), if_neg (by assumption)])) (by first | (rw [if_pos (by assumption)]) | (rw [if_neg (by assumption), if_pos (by assumption)]) | (rw [if_neg (by assumption), if_neg (by assumption)])) h_59 h_72 h_86]; exact ⟨rfl, rfl⟩))
        · replace h_59 := zb_n.mp h_59
          refine z_iload_4 dX12_beside_62 ?_
          refine z_i2l dX12_beside_64 ?_
          refine z_lconst0 dX12_beside_65 ?_
          refine z_ldc2 (n := 5) k_X12_247 dX12_beside_66 (by decide +kernel) ?_
          refine z_callS3 (k_X12_in) m_X12_in l_X12_106 (Nat.le_of_ble_eq_true rfl) ⟨Nat.le_of_ble_eq_true rfl, Nat.le_of_ble_eq_true rfl⟩ ⟨rfl, rfl⟩ dX12_beside_69 (fun r μ1 hp => ?_)
          obtain ⟨rfl, hv⟩ := hp
          replace hv := hv.symm
          subst hv
          refine z_ifeq (tgt := 89) dX12_beside_72 (by decide) (fun h_72 => ?_) (fun h_72 => ?_)
          · replace h_72 := zb_0.mp h_72
            refine z_iconst dX12_beside_89 (by decide) ?_
            exact z_iret dX12_beside_90 (by first | (rw [zNw_x hc hw (by first | (rw [if_pos (by assumption)]) | (rw [if_neg (by assumption), if_pos (by assumption)]) | (rw [if_neg (by assumption), if_neg (by assumption)])) (by first | (rw [if_pos (by assumption)]) | (rw [if_neg (by assumption), if_pos (by assumption)]) | (rw [if_neg (by assumption), if_neg (by assumption)])) (by first | exact Or.inl h_59 | exact Or.inr (Or.inl h_72) | exact Or.inr (Or.inr h_86))]; exact ⟨rfl, rfl⟩) | (rw [zNw_y hc hw (by first | (rw [if_pos (by assumption)]) | (rw [if_neg (by assumption), if_pos (by assumption)]) | (rw [if_neg (by assumption), if_neg (by assumption)])) (by first | (rw [if_pos (by assumption)]) | (rw [if_neg (by assumption), if_pos (by assumption)]) | (rw [if_neg (by assumption), if_neg (by assumption)])) h_59 h_72 h_86]; exact ⟨rfl, rfl⟩))
          · replace h_72 := zb_n.mp h_72
            refine z_aload_0 dX12_beside_75 ?_
            refine z_bipush dX12_beside_76 (by decide) ?_
            refine z_iload_3 dX12_beside_78 ?_
            refine z_imul dX12_beside_79 (by omega) ?_
            refine z_iload_4 dX12_beside_80 ?_
            refine z_iadd dX12_beside_82 (by omega) ?_
            refine z_callV1 (k_X12_isWall (by omega) (by omega)) m_X12_isWall zl_393 l_X12_121 (Nat.le_of_ble_eq_true rfl) ⟨Nat.le_of_ble_eq_true rfl, Nat.le_of_ble_eq_true rfl⟩ ⟨rfl, rfl⟩ dX12_beside_83 (fun r μ1 hp => ?_)
            obtain ⟨rfl, hv⟩ := hp
            replace hv := hv.symm
            subst hv
            refine z_ifeq (tgt := 91) dX12_beside_86 (by decide) (fun h_86 => ?_) (fun h_86 => ?_)
            · replace h_86 := zb_0.mp h_86
              refine z_bipush dX12_beside_91 (by decide) ?_
              refine z_iload_3 dX12_beside_93 ?_
              refine z_imul dX12_beside_94 (by omega) ?_
              refine z_iload_4 dX12_beside_95 ?_
              refine z_iadd dX12_beside_97 (by omega) ?_
              exact z_iret dX12_beside_98 (by first | (rw [zNw_x hc hw (by first | (rw [if_pos (by assumption)]) | (rw [if_neg (by assumption), if_pos (by assumption)]) | (rw [if_neg (by assumption), if_neg (by assumption)])) (by first | (rw [if_pos (by assumption)]) | (rw [if_neg (by assumption), if_pos (by assumption)]) | (rw [if_neg (by assumption), if_neg (by assumption)])) (by first | exact Or.inl h_59 | exact Or.inr (Or.inl h_72) | exact Or.inr (Or.inr h_86))]; exact ⟨rfl, rfl⟩) | (rw [zNw_y hc hw (by first | (rw [if_pos (by assumption)]) | (rw [if_neg (by assumption), if_pos (by assumption)]) | (rw [if_neg (by assumption), if_neg (by assumption)])) (by first | (rw [if_pos (by assumption)]) | (rw [if_neg (by assumption), if_pos (by assumption)]) | (rw [if_neg (by assumption), if_neg (by assumption)])) h_59 h_72 h_86]; exact ⟨rfl, rfl⟩))
            · replace h_86 := zb_n.mp h_86
              refine z_iconst dX12_beside_89 (by decide) ?_
              exact z_iret dX12_beside_90 (by first | (rw [zNw_x hc hw (by first | (rw [if_pos (by assumption)]) | (rw [if_neg (by assumption), if_pos (by assumption)]) | (rw [if_neg (by assumption), if_neg (by assumption)])) (by first | (rw [if_pos (by assumption)]) | (rw [if_neg (by assumption), if_pos (by assumption)]) | (rw [if_neg (by assumption), if_neg (by assumption)])) (by first | exact Or.inl h_59 | exact Or.inr (Or.inl h_72) | exact Or.inr (Or.inr h_86))]; exact ⟨rfl, rfl⟩) | (rw [zNw_y hc hw (by first | (rw [if_pos (by assumption)]) | (rw [if_neg (by assumption), if_pos (by assumption)]) | (rw [if_neg (by assumption), if_neg (by assumption)])) (by first | (rw [if_pos (by assumption)]) | (rw [if_neg (by assumption), if_pos (by assumption)]) | (rw [if_neg (by assumption), if_neg (by assumption)])) h_59 h_72 h_86]; exact ⟨rfl, rfl⟩))
    · refine z_iconst dX12_beside_17 (by decide) ?_
      refine z_goto (tgt := 22) dX12_beside_18 (by decide) ?_
      refine z_iadd dX12_beside_22 (by omega) ?_
      refine z_istore_3 rfl dX12_beside_23 ?_
      refine z_iload_1 dX12_beside_24 ?_
      refine z_bipush dX12_beside_25 (by decide) ?_
      refine z_irem dX12_beside_27 (by omega) (by omega) ?_
      refine z_iload_2 dX12_beside_28 ?_
      refine z_iconst dX12_beside_29 (by decide) ?_
      refine z_icmpne (tgt := 37) dX12_beside_30 (by decide) (fun h_30 => ?_) (fun h_30 => ?_)
      · refine z_iload_2 dX12_beside_37 ?_
        refine z_iconst dX12_beside_38 (by decide) ?_
        refine z_icmpne (tgt := 46) dX12_beside_39 (by decide) (fun h_39 => ?_) (fun h_39 => ?_)
        · refine z_iconst dX12_beside_46 (by decide) ?_
          refine z_iadd dX12_beside_47 (by omega) ?_
          refine z_istore_4 rfl dX12_beside_48 ?_
          refine z_iload_3 dX12_beside_50 ?_
          refine z_i2l dX12_beside_51 ?_
          refine z_lconst0 dX12_beside_52 ?_
          refine z_ldc2 (n := 5) k_X12_247 dX12_beside_53 (by decide +kernel) ?_
          refine z_callS3 (k_X12_in) m_X12_in l_X12_106 (Nat.le_of_ble_eq_true rfl) ⟨Nat.le_of_ble_eq_true rfl, Nat.le_of_ble_eq_true rfl⟩ ⟨rfl, rfl⟩ dX12_beside_56 (fun r μ1 hp => ?_)
          obtain ⟨rfl, hv⟩ := hp
          replace hv := hv.symm
          subst hv
          refine z_ifeq (tgt := 89) dX12_beside_59 (by decide) (fun h_59 => ?_) (fun h_59 => ?_)
          · replace h_59 := zb_0.mp h_59
            refine z_iconst dX12_beside_89 (by decide) ?_
            exact z_iret dX12_beside_90 (by first | (rw [zNw_x hc hw (by first | (rw [if_pos (by assumption)]) | (rw [if_neg (by assumption), if_pos (by assumption)]) | (rw [if_neg (by assumption), if_neg (by assumption)])) (by first | (rw [if_pos (by assumption)]) | (rw [if_neg (by assumption), if_pos (by assumption)]) | (rw [if_neg (by assumption), if_neg (by assumption)])) (by first | exact Or.inl h_59 | exact Or.inr (Or.inl h_72) | exact Or.inr (Or.inr h_86))]; exact ⟨rfl, rfl⟩) | (rw [zNw_y hc hw (by first | (rw [if_pos (by assumption)]) | (rw [if_neg (by assumption), if_pos (by assumption)]) | (rw [if_neg (by assumption), if_neg (by assumption)])) (by first | (rw [if_pos (by assumption)]) | (rw [if_neg (by assumption), if_pos (by assumption)]) | (rw [if_neg (by assumption), if_neg (by assumption)])) h_59 h_72 h_86]; exact ⟨rfl, rfl⟩))
          · replace h_59 := zb_n.mp h_59
            refine z_iload_4 dX12_beside_62 ?_
            refine z_i2l dX12_beside_64 ?_
            refine z_lconst0 dX12_beside_65 ?_
            refine z_ldc2 (n := 5) k_X12_247 dX12_beside_66 (by decide +kernel) ?_
            refine z_callS3 (k_X12_in) m_X12_in l_X12_106 (Nat.le_of_ble_eq_true rfl) ⟨Nat.le_of_ble_eq_true rfl, Nat.le_of_ble_eq_true rfl⟩ ⟨rfl, rfl⟩ dX12_beside_69 (fun r μ1 hp => ?_)
            obtain ⟨rfl, hv⟩ := hp
            replace hv := hv.symm
            subst hv
            refine z_ifeq (tgt := 89) dX12_beside_72 (by decide) (fun h_72 => ?_) (fun h_72 => ?_)
            · replace h_72 := zb_0.mp h_72
              refine z_iconst dX12_beside_89 (by decide) ?_
              exact z_iret dX12_beside_90 (by first | (rw [zNw_x hc hw (by first | (rw [if_pos (by assumption)]) | (rw [if_neg (by assumption), if_pos (by assumption)]) | (rw [if_neg (by assumption), if_neg (by assumption)])) (by first | (rw [if_pos (by assumption)]) | (rw [if_neg (by assumption), if_pos (by assumption)]) | (rw [if_neg (by assumption), if_neg (by assumption)])) (by first | exact Or.inl h_59 | exact Or.inr (Or.inl h_72) | exact Or.inr (Or.inr h_86))]; exact ⟨rfl, rfl⟩) | (rw [zNw_y hc hw (by first | (rw [if_pos (by assumption)]) | (rw [if_neg (by assumption), if_pos (by assumption)]) | (rw [if_neg (by assumption), if_neg (by assumption)])) (by first | (rw [if_pos (by assumption)]) | (rw [if_neg (by assumption), if_pos (by assumption)]) | (rw [if_neg (by assumption), if_neg (by assumption)])) h_59 h_72 h_86]; exact ⟨rfl, rfl⟩))
            · replace h_72 := zb_n.mp h_72
              refine z_aload_0 dX12_beside_75 ?_
              refine z_bipush dX12_beside_76 (by decide) ?_
              refine z_iload_3 dX12_beside_78 ?_
              refine z_imul dX12_beside_79 (by omega) ?_
              refine z_iload_4 dX12_beside_80 ?_
              refine z_iadd dX12_beside_82 (by omega) ?_
              refine z_callV1 (k_X12_isWall (by omega) (by omega)) m_X12_isWall zl_393 l_X12_121 (Nat.le_of_ble_eq_true rfl) ⟨Nat.le_of_ble_eq_true rfl, Nat.le_of_ble_eq_true rfl⟩ ⟨rfl, rfl⟩ dX12_beside_83 (fun r μ1 hp => ?_)
              obtain ⟨rfl, hv⟩ := hp
              replace hv := hv.symm
              subst hv
              refine z_ifeq (tgt := 91) dX12_beside_86 (by decide) (fun h_86 => ?_) (fun h_86 => ?_)
              · replace h_86 := zb_0.mp h_86
                refine z_bipush dX12_beside_91 (by decide) ?_
                refine z_iload_3 dX12_beside_93 ?_
                refine z_imul dX12_beside_94 (by omega) ?_
                refine z_iload_4 dX12_beside_95 ?_
                refine z_iadd dX12_beside_97 (by omega) ?_
                exact z_iret dX12_beside_98 (by first | (rw [zNw_x hc hw (by first | (rw [if_pos (by assumption)]) | (rw [if_neg (by assumption), if_pos (by assumption)]) | (rw [if_neg (by assumption), if_neg (by assumption)])) (by first | (rw [if_pos (by assumption)]) | (rw [if_neg (by assumption), if_pos (by assumption)]) | (rw [if_neg (by assumption), if_neg (by assumption)])) (by first | exact Or.inl h_59 | exact Or.inr (Or.inl h_72) | exact Or.inr (Or.inr h_86))]; exact ⟨rfl, rfl⟩) | (rw [zNw_y hc hw (by first | (rw [if_pos (by assumption)]) | (rw [if_neg (by assumption), if_pos (by assumption)]) | (rw [if_neg (by assumption), if_neg (by assumption)])) (by first | (rw [if_pos (by assumption)]) | (rw [if_neg (by assumption), if_pos (by assumption)]) | (rw [if_neg (by assumption), if_neg (by assumption)])) h_59 h_72 h_86]; exact ⟨rfl, rfl⟩))
              · replace h_86 := zb_n.mp h_86
                refine z_iconst dX12_beside_89 (by decide) ?_
                exact z_iret dX12_beside_90 (by first | (rw [zNw_x hc hw (by first | (rw [if_pos (by assumption)]) | (rw [if_neg (by assumption), if_pos (by assumption)]) | (rw [if_neg (by assumption), if_neg (by assumption)])) (by first | (rw [if_pos (by assumption)]) | (rw [if_neg (by assumption), if_pos (by assumption)]) | (rw [if_neg (by assumption), if_neg (by assumption)])) (by first | exact Or.inl h_59 | exact Or.inr (Or.inl h_72) | exact Or.inr (Or.inr h_86))]; exact ⟨rfl, rfl⟩) | (rw [zNw_y hc hw (by first | (rw [if_pos (by assumption)]) | (rw [if_neg (by assumption), if_pos (by assumption)]) | (rw [if_neg (by assumption), if_neg (by assumption)])) (by first | (rw [if_pos (by assumption)]) | (rw [if_neg (by assumption), if_pos (by assumption)]) | (rw [if_neg (by assumption), if_neg (by assumption)])) h_59 h_72 h_86]; exact ⟨rfl, rfl⟩))
        · refine z_iconst dX12_beside_42 (by decide) ?_
          refine z_goto (tgt := 47) dX12_beside_43 (by decide) ?_
          refine z_iadd dX12_beside_47 (by omega) ?_
          refine z_istore_4 rfl dX12_beside_48 ?_
          refine z_iload_3 dX12_beside_50 ?_
          refine z_i2l dX12_beside_51 ?_
          refine z_lconst0 dX12_beside_52 ?_
          refine z_ldc2 (n := 5) k_X12_247 dX12_beside_53 (by decide +kernel) ?_
          refine z_callS3 (k_X12_in) m_X12_in l_X12_106 (Nat.le_of_ble_eq_true rfl) ⟨Nat.le_of_ble_eq_true rfl, Nat.le_of_ble_eq_true rfl⟩ ⟨rfl, rfl⟩ dX12_beside_56 (fun r μ1 hp => ?_)
          obtain ⟨rfl, hv⟩ := hp
          replace hv := hv.symm
          subst hv
          refine z_ifeq (tgt := 89) dX12_beside_59 (by decide) (fun h_59 => ?_) (fun h_59 => ?_)
          · replace h_59 := zb_0.mp h_59
            refine z_iconst dX12_beside_89 (by decide) ?_
            exact z_iret dX12_beside_90 (by first | (rw [zNw_x hc hw (by first | (rw [if_pos (by assumption)]) | (rw [if_neg (by assumption), if_pos (by assumption)]) | (rw [if_neg (by assumption), if_neg (by assumption)])) (by first | (rw [if_pos (by assumption)]) | (rw [if_neg (by assumption), if_pos (by assumption)]) | (rw [if_neg (by assumption), if_neg (by assumption)])) (by first | exact Or.inl h_59 | exact Or.inr (Or.inl h_72) | exact Or.inr (Or.inr h_86))]; exact ⟨rfl, rfl⟩) | (rw [zNw_y hc hw (by first | (rw [if_pos (by assumption)]) | (rw [if_neg (by assumption), if_pos (by assumption)]) | (rw [if_neg (by assumption), if_neg (by assumption)])) (by first | (rw [if_pos (by assumption)]) | (rw [if_neg (by assumption), if_pos (by assumption)]) | (rw [if_neg (by assumption), if_neg (by assumption)])) h_59 h_72 h_86]; exact ⟨rfl, rfl⟩))
          · replace h_59 := zb_n.mp h_59
            refine z_iload_4 dX12_beside_62 ?_
            refine z_i2l dX12_beside_64 ?_
            refine z_lconst0 dX12_beside_65 ?_
            refine z_ldc2 (n := 5) k_X12_247 dX12_beside_66 (by decide +kernel) ?_
            refine z_callS3 (k_X12_in) m_X12_in l_X12_106 (Nat.le_of_ble_eq_true rfl) ⟨Nat.le_of_ble_eq_true rfl, Nat.le_of_ble_eq_true rfl⟩ ⟨rfl, rfl⟩ dX12_beside_69 (fun r μ1 hp => ?_)
            obtain ⟨rfl, hv⟩ := hp
            replace hv := hv.symm
            subst hv
            refine z_ifeq (tgt := 89) dX12_beside_72 (by decide) (fun h_72 => ?_) (fun h_72 => ?_)
            · replace h_72 := zb_0.mp h_72
              refine z_iconst dX12_beside_89 (by decide) ?_
              exact z_iret dX12_beside_90 (by first | (rw [zNw_x hc hw (by first | (rw [if_pos (by assumption)]) | (rw [if_neg (by assumption), if_pos (by assumption)]) | (rw [if_neg (by assumption), if_neg (by assumption)])) (by first | (rw [if_pos (by assumption)]) | (rw [if_neg (by assumption), if_pos (by assumption)]) | (rw [if_neg (by assumption), if_neg (by assumption)])) (by first | exact Or.inl h_59 | exact Or.inr (Or.inl h_72) | exact Or.inr (Or.inr h_86))]; exact ⟨rfl, rfl⟩) | (rw [zNw_y hc hw (by first | (rw [if_pos (by assumption)]) | (rw [if_neg (by assumption), if_pos (by assumption)]) | (rw [if_neg (by assumption), if_neg (by assumption)])) (by first | (rw [if_pos (by assumption)]) | (rw [if_neg (by assumption), if_pos (by assumption)]) | (rw [if_neg (by assumption), if_neg (by assumption)])) h_59 h_72 h_86]; exact ⟨rfl, rfl⟩))
            · replace h_72 := zb_n.mp h_72
              refine z_aload_0 dX12_beside_75 ?_
              refine z_bipush dX12_beside_76 (by decide) ?_
              refine z_iload_3 dX12_beside_78 ?_
              refine z_imul dX12_beside_79 (by omega) ?_
              refine z_iload_4 dX12_beside_80 ?_
              refine z_iadd dX12_beside_82 (by omega) ?_
              refine z_callV1 (k_X12_isWall (by omega) (by omega)) m_X12_isWall zl_393 l_X12_121 (Nat.le_of_ble_eq_true rfl) ⟨Nat.le_of_ble_eq_true rfl, Nat.le_of_ble_eq_true rfl⟩ ⟨rfl, rfl⟩ dX12_beside_83 (fun r μ1 hp => ?_)
              obtain ⟨rfl, hv⟩ := hp
              replace hv := hv.symm
              subst hv
              refine z_ifeq (tgt := 91) dX12_beside_86 (by decide) (fun h_86 => ?_) (fun h_86 => ?_)
              · replace h_86 := zb_0.mp h_86
                refine z_bipush dX12_beside_91 (by decide) ?_
                refine z_iload_3 dX12_beside_93 ?_
                refine z_imul dX12_beside_94 (by omega) ?_
                refine z_iload_4 dX12_beside_95 ?_
                refine z_iadd dX12_beside_97 (by omega) ?_
                exact z_iret dX12_beside_98 (by first | (rw [zNw_x hc hw (by first | (rw [if_pos (by assumption)]) | (rw [if_neg (by assumption), if_pos (by assumption)]) | (rw [if_neg (by assumption), if_neg (by assumption)])) (by first | (rw [if_pos (by assumption)]) | (rw [if_neg (by assumption), if_pos (by assumption)]) | (rw [if_neg (by assumption), if_neg (by assumption)])) (by first | exact Or.inl h_59 | exact Or.inr (Or.inl h_72) | exact Or.inr (Or.inr h_86))]; exact ⟨rfl, rfl⟩) | (rw [zNw_y hc hw (by first | (rw [if_pos (by assumption)]) | (rw [if_neg (by assumption), if_pos (by assumption)]) | (rw [if_neg (by assumption), if_neg (by assumption)])) (by first | (rw [if_pos (by assumption)]) | (rw [if_neg (by assumption), if_pos (by assumption)]) | (rw [if_neg (by assumption), if_neg (by assumption)])) h_59 h_72 h_86]; exact ⟨rfl, rfl⟩))
              · replace h_86 := zb_n.mp h_86
                refine z_iconst dX12_beside_89 (by decide) ?_
                exact z_iret dX12_beside_90 (by first | (rw [zNw_x hc hw (by first | (rw [if_pos (by assumption)]) | (rw [if_neg (by assumption), if_pos (by assumption)]) | (rw [if_neg (by assumption), if_neg (by assumption)])) (by first | (rw [if_pos (by assumption)]) | (rw [if_neg (by assumption), if_pos (by assumption)]) | (rw [if_neg (by assumption), if_neg (by assumption)])) (by first | exact Or.inl h_59 | exact Or.inr (Or.inl h_72) | exact Or.inr (Or.inr h_86))]; exact ⟨rfl, rfl⟩) | (rw [zNw_y hc hw (by first | (rw [if_pos (by assumption)]) | (rw [if_neg (by assumption), if_pos (by assumption)]) | (rw [if_neg (by assumption), if_neg (by assumption)])) (by first | (rw [if_pos (by assumption)]) | (rw [if_neg (by assumption), if_pos (by assumption)]) | (rw [if_neg (by assumption), if_neg (by assumption)])) h_59 h_72 h_86]; exact ⟨rfl, rfl⟩))
      · refine z_iconst dX12_beside_33 (by decide) ?_
        refine z_goto (tgt := 47) dX12_beside_34 (by decide) ?_
        refine z_iadd dX12_beside_47 (by omega) ?_
        refine z_istore_4 rfl dX12_beside_48 ?_
        refine z_iload_3 dX12_beside_50 ?_
        refine z_i2l dX12_beside_51 ?_
        refine z_lconst0 dX12_beside_52 ?_
        refine z_ldc2 (n := 5) k_X12_247 dX12_beside_53 (by decide +kernel) ?_
        refine z_callS3 (k_X12_in) m_X12_in l_X12_106 (Nat.le_of_ble_eq_true rfl) ⟨Nat.le_of_ble_eq_true rfl, Nat.le_of_ble_eq_true rfl⟩ ⟨rfl, rfl⟩ dX12_beside_56 (fun r μ1 hp => ?_)
        obtain ⟨rfl, hv⟩ := hp
        replace hv := hv.symm
        subst hv
        refine z_ifeq (tgt := 89) dX12_beside_59 (by decide) (fun h_59 => ?_) (fun h_59 => ?_)
        · replace h_59 := zb_0.mp h_59
          refine z_iconst dX12_beside_89 (by decide) ?_
          exact z_iret dX12_beside_90 (by first | (rw [zNw_x hc hw (by first | (rw [if_pos (by assumption)]) | (rw [if_neg (by assumption), if_pos (by assumption)]) | (rw [if_neg (by assumption), if_neg (by assumption)])) (by first | (rw [if_pos (by assumption)]) | (rw [if_neg (by assumption), if_pos (by assumption)]) | (rw [if_neg (by assumption), if_neg (by assumption)])) (by first | exact Or.inl h_59 | exact Or.inr (Or.inl h_72) | exact Or.inr (Or.inr h_86))]; exact ⟨rfl, rfl⟩) | (rw [zNw_y hc hw (by first | (rw [if_pos (by assumption)]) | (rw [if_neg (by assumption), if_pos (by assumption)]) | (rw [if_neg (by assumption), if_neg (by assumption)])) (by first | (rw [if_pos (by assumption)]) | (rw [if_neg (by assumption), if_pos (by assumption)]) | (rw [if_neg (by assumption), if_neg (by assumption)])) h_59 h_72 h_86]; exact ⟨rfl, rfl⟩))
        · replace h_59 := zb_n.mp h_59
          refine z_iload_4 dX12_beside_62 ?_
          refine z_i2l dX12_beside_64 ?_
          refine z_lconst0 dX12_beside_65 ?_
          refine z_ldc2 (n := 5) k_X12_247 dX12_beside_66 (by decide +kernel) ?_
          refine z_callS3 (k_X12_in) m_X12_in l_X12_106 (Nat.le_of_ble_eq_true rfl) ⟨Nat.le_of_ble_eq_true rfl, Nat.le_of_ble_eq_true rfl⟩ ⟨rfl, rfl⟩ dX12_beside_69 (fun r μ1 hp => ?_)
          obtain ⟨rfl, hv⟩ := hp
          replace hv := hv.symm
          subst hv
          refine z_ifeq (tgt := 89) dX12_beside_72 (by decide) (fun h_72 => ?_) (fun h_72 => ?_)
          · replace h_72 := zb_0.mp h_72
            refine z_iconst dX12_beside_89 (by decide) ?_
            exact z_iret dX12_beside_90 (by first | (rw [zNw_x hc hw (by first | (rw [if_pos (by assumption)]) | (rw [if_neg (by assumption), if_pos (by assumption)]) | (rw [if_neg (by assumption), if_neg (by assumption)])) (by first | (rw [if_pos (by assumption)]) | (rw [if_neg (by assumption), if_pos (by assumption)]) | (rw [if_neg (by assumption), if_neg (by assumption)])) (by first | exact Or.inl h_59 | exact Or.inr (Or.inl h_72) | exact Or.inr (Or.inr h_86))]; exact ⟨rfl, rfl⟩) | (rw [zNw_y hc hw (by first | (rw [if_pos (by assumption)]) | (rw [if_neg (by assumption), if_pos (by assumption)]) | (rw [if_neg (by assumption), if_neg (by assumption)])) (by first | (rw [if_pos (by assumption)]) | (rw [if_neg (by assumption), if_pos (by assumption)]) | (rw [if_neg (by assumption), if_neg (by assumption)])) h_59 h_72 h_86]; exact ⟨rfl, rfl⟩))
          · replace h_72 := zb_n.mp h_72
            refine z_aload_0 dX12_beside_75 ?_
            refine z_bipush dX12_beside_76 (by decide) ?_
            refine z_iload_3 dX12_beside_78 ?_
            refine z_imul dX12_beside_79 (by omega) ?_
            refine z_iload_4 dX12_beside_80 ?_
            refine z_iadd dX12_beside_82 (by omega) ?_
            refine z_callV1 (k_X12_isWall (by omega) (by omega)) m_X12_isWall zl_393 l_X12_121 (Nat.le_of_ble_eq_true rfl) ⟨Nat.le_of_ble_eq_true rfl, Nat.le_of_ble_eq_true rfl⟩ ⟨rfl, rfl⟩ dX12_beside_83 (fun r μ1 hp => ?_)
            obtain ⟨rfl, hv⟩ := hp
            replace hv := hv.symm
            subst hv
            refine z_ifeq (tgt := 91) dX12_beside_86 (by decide) (fun h_86 => ?_) (fun h_86 => ?_)
            · replace h_86 := zb_0.mp h_86
              refine z_bipush dX12_beside_91 (by decide) ?_
              refine z_iload_3 dX12_beside_93 ?_
              refine z_imul dX12_beside_94 (by omega) ?_
              refine z_iload_4 dX12_beside_95 ?_
              refine z_iadd dX12_beside_97 (by omega) ?_
              exact z_iret dX12_beside_98 (by first | (rw [zNw_x hc hw (by first | (rw [if_pos (by assumption)]) | (rw [if_neg (by assumption), if_pos (by assumption)]) | (rw [if_neg (by assumption), if_neg (by assumption)])) (by first | (rw [if_pos (by assumption)]) | (rw [if_neg (by assumption), if_pos (by assumption)]) | (rw [if_neg (by assumption), if_neg (by assumption)])) (by first | exact Or.inl h_59 | exact Or.inr (Or.inl h_72) | exact Or.inr (Or.inr h_86))]; exact ⟨rfl, rfl⟩) | (rw [zNw_y hc hw (by first | (rw [if_pos (by assumption)]) | (rw [if_neg (by assumption), if_pos (by assumption)]) | (rw [if_neg (by assumption), if_neg (by assumption)])) (by first | (rw [if_pos (by assumption)]) | (rw [if_neg (by assumption), if_pos (by assumption)]) | (rw [if_neg (by assumption), if_neg (by assumption)])) h_59 h_72 h_86]; exact ⟨rfl, rfl⟩))
            · replace h_86 := zb_n.mp h_86
              refine z_iconst dX12_beside_89 (by decide) ?_
              exact z_iret dX12_beside_90 (by first | (rw [zNw_x hc hw (by first | (rw [if_pos (by assumption)]) | (rw [if_neg (by assumption), if_pos (by assumption)]) | (rw [if_neg (by assumption), if_neg (by assumption)])) (by first | (rw [if_pos (by assumption)]) | (rw [if_neg (by assumption), if_pos (by assumption)]) | (rw [if_neg (by assumption), if_neg (by assumption)])) (by first | exact Or.inl h_59 | exact Or.inr (Or.inl h_72) | exact Or.inr (Or.inr h_86))]; exact ⟨rfl, rfl⟩) | (rw [zNw_y hc hw (by first | (rw [if_pos (by assumption)]) | (rw [if_neg (by assumption), if_pos (by assumption)]) | (rw [if_neg (by assumption), if_neg (by assumption)])) (by first | (rw [if_pos (by assumption)]) | (rw [if_neg (by assumption), if_pos (by assumption)]) | (rw [if_neg (by assumption), if_neg (by assumption)])) h_59 h_72 h_86]; exact ⟨rfl, rfl⟩))
  · refine z_iconst dX12_beside_8 (by decide) ?_
    refine z_goto (tgt := 22) dX12_beside_9 (by decide) ?_
    refine z_iadd dX12_beside_22 (by omega) ?_
    refine z_istore_3 rfl dX12_beside_23 ?_
    refine z_iload_1 dX12_beside_24 ?_
    refine z_bipush dX12_beside_25 (by decide) ?_
    refine z_irem dX12_beside_27 (by omega) (by omega) ?_
    refine z_iload_2 dX12_beside_28 ?_
    refine z_iconst dX12_beside_29 (by decide) ?_
    refine z_icmpne (tgt := 37) dX12_beside_30 (by decide) (fun h_30 => ?_) (fun h_30 => ?_)
    · refine z_iload_2 dX12_beside_37 ?_
      refine z_iconst dX12_beside_38 (by decide) ?_
      refine z_icmpne (tgt := 46) dX12_beside_39 (by decide) (fun h_39 => ?_) (fun h_39 => ?_)
      · refine z_iconst dX12_beside_46 (by decide) ?_
        refine z_iadd dX12_beside_47 (by omega) ?_
        refine z_istore_4 rfl dX12_beside_48 ?_
        refine z_iload_3 dX12_beside_50 ?_
        refine z_i2l dX12_beside_51 ?_
        refine z_lconst0 dX12_beside_52 ?_
        refine z_ldc2 (n := 5) k_X12_247 dX12_beside_53 (by decide +kernel) ?_
        refine z_callS3 (k_X12_in) m_X12_in l_X12_106 (Nat.le_of_ble_eq_true rfl) ⟨Nat.le_of_ble_eq_true rfl, Nat.le_of_ble_eq_true rfl⟩ ⟨rfl, rfl⟩ dX12_beside_56 (fun r μ1 hp => ?_)
        obtain ⟨rfl, hv⟩ := hp
        replace hv := hv.symm
        subst hv
        refine z_ifeq (tgt := 89) dX12_beside_59 (by decide) (fun h_59 => ?_) (fun h_59 => ?_)
        · replace h_59 := zb_0.mp h_59
          refine z_iconst dX12_beside_89 (by decide) ?_
          exact z_iret dX12_beside_90 (by first | (rw [zNw_x hc hw (by first | (rw [if_pos (by assumption)]) | (rw [if_neg (by assumption), if_pos (by assumption)]) | (rw [if_neg (by assumption), if_neg (by assumption)])) (by first | (rw [if_pos (by assumption)]) | (rw [if_neg (by assumption), if_pos (by assumption)]) | (rw [if_neg (by assumption), if_neg (by assumption)])) (by first | exact Or.inl h_59 | exact Or.inr (Or.inl h_72) | exact Or.inr (Or.inr h_86))]; exact ⟨rfl, rfl⟩) | (rw [zNw_y hc hw (by first | (rw [if_pos (by assumption)]) | (rw [if_neg (by assumption), if_pos (by assumption)]) | (rw [if_neg (by assumption), if_neg (by assumption)])) (by first | (rw [if_pos (by assumption)]) | (rw [if_neg (by assumption), if_pos (by assumption)]) | (rw [if_neg (by assumption), if_neg (by assumption)])) h_59 h_72 h_86]; exact ⟨rfl, rfl⟩))
        · replace h_59 := zb_n.mp h_59
          refine z_iload_4 dX12_beside_62 ?_
          refine z_i2l dX12_beside_64 ?_
          refine z_lconst0 dX12_beside_65 ?_
          refine z_ldc2 (n := 5) k_X12_247 dX12_beside_66 (by decide +kernel) ?_
          refine z_callS3 (k_X12_in) m_X12_in l_X12_106 (Nat.le_of_ble_eq_true rfl) ⟨Nat.le_of_ble_eq_true rfl, Nat.le_of_ble_eq_true rfl⟩ ⟨rfl, rfl⟩ dX12_beside_69 (fun r μ1 hp => ?_)
          obtain ⟨rfl, hv⟩ := hp
          replace hv := hv.symm
          subst hv
          refine z_ifeq (tgt := 89) dX12_beside_72 (by decide) (fun h_72 => ?_) (fun h_72 => ?_)
          · replace h_72 := zb_0.mp h_72
            refine z_iconst dX12_beside_89 (by decide) ?_
            exact z_iret dX12_beside_90 (by first | (rw [zNw_x hc hw (by first | (rw [if_pos (by assumption)]) | (rw [if_neg (by assumption), if_pos (by assumption)]) | (rw [if_neg (by assumption), if_neg (by assumption)])) (by first | (rw [if_pos (by assumption)]) | (rw [if_neg (by assumption), if_pos (by assumption)]) | (rw [if_neg (by assumption), if_neg (by assumption)])) (by first | exact Or.inl h_59 | exact Or.inr (Or.inl h_72) | exact Or.inr (Or.inr h_86))]; exact ⟨rfl, rfl⟩) | (rw [zNw_y hc hw (by first | (rw [if_pos (by assumption)]) | (rw [if_neg (by assumption), if_pos (by assumption)]) | (rw [if_neg (by assumption), if_neg (by assumption)])) (by first | (rw [if_pos (by assumption)]) | (rw [if_neg (by assumption), if_pos (by assumption)]) | (rw [if_neg (by assumption), if_neg (by assumption)])) h_59 h_72 h_86]; exact ⟨rfl, rfl⟩))
          · replace h_72 := zb_n.mp h_72
            refine z_aload_0 dX12_beside_75 ?_
            refine z_bipush dX12_beside_76 (by decide) ?_
            refine z_iload_3 dX12_beside_78 ?_
            refine z_imul dX12_beside_79 (by omega) ?_
            refine z_iload_4 dX12_beside_80 ?_
            refine z_iadd dX12_beside_82 (by omega) ?_
            refine z_callV1 (k_X12_isWall (by omega) (by omega)) m_X12_isWall zl_393 l_X12_121 (Nat.le_of_ble_eq_true rfl) ⟨Nat.le_of_ble_eq_true rfl, Nat.le_of_ble_eq_true rfl⟩ ⟨rfl, rfl⟩ dX12_beside_83 (fun r μ1 hp => ?_)
            obtain ⟨rfl, hv⟩ := hp
            replace hv := hv.symm
            subst hv
            refine z_ifeq (tgt := 91) dX12_beside_86 (by decide) (fun h_86 => ?_) (fun h_86 => ?_)
            · replace h_86 := zb_0.mp h_86
              refine z_bipush dX12_beside_91 (by decide) ?_
              refine z_iload_3 dX12_beside_93 ?_
              refine z_imul dX12_beside_94 (by omega) ?_
              refine z_iload_4 dX12_beside_95 ?_
              refine z_iadd dX12_beside_97 (by omega) ?_
              exact z_iret dX12_beside_98 (by first | (rw [zNw_x hc hw (by first | (rw [if_pos (by assumption)]) | (rw [if_neg (by assumption), if_pos (by assumption)]) | (rw [if_neg (by assumption), if_neg (by assumption)])) (by first | (rw [if_pos (by assumption)]) | (rw [if_neg (by assumption), if_pos (by assumption)]) | (rw [if_neg (by assumption), if_neg (by assumption)])) (by first | exact Or.inl h_59 | exact Or.inr (Or.inl h_72) | exact Or.inr (Or.inr h_86))]; exact ⟨rfl, rfl⟩) | (rw [zNw_y hc hw (by first | (rw [if_pos (by assumption)]) | (rw [if_neg (by assumption), if_pos (by assumption)]) | (rw [if_neg (by assumption), if_neg (by assumption)])) (by first | (rw [if_pos (by assumption)]) | (rw [if_neg (by assumption), if_pos (by assumption)]) | (rw [if_neg (by assumption), if_neg (by assumption)])) h_59 h_72 h_86]; exact ⟨rfl, rfl⟩))
            · replace h_86 := zb_n.mp h_86
              refine z_iconst dX12_beside_89 (by decide) ?_
              exact z_iret dX12_beside_90 (by first | (rw [zNw_x hc hw (by first | (rw [if_pos (by assumption)]) | (rw [if_neg (by assumption), if_pos (by assumption)]) | (rw [if_neg (by assumption), if_neg (by assumption)])) (by first | (rw [if_pos (by assumption)]) | (rw [if_neg (by assumption), if_pos (by assumption)]) | (rw [if_neg (by assumption), if_neg (by assumption)])) (by first | exact Or.inl h_59 | exact Or.inr (Or.inl h_72) | exact Or.inr (Or.inr h_86))]; exact ⟨rfl, rfl⟩) | (rw [zNw_y hc hw (by first | (rw [if_pos (by assumption)]) | (rw [if_neg (by assumption), if_pos (by assumption)]) | (rw [if_neg (by assumption), if_neg (by assumption)])) (by first | (rw [if_pos (by assumption)]) | (rw [if_neg (by assumption), if_pos (by assumption)]) | (rw [if_neg (by assumption), if_neg (by assumption)])) h_59 h_72 h_86]; exact ⟨rfl, rfl⟩))
      · refine z_iconst dX12_beside_42 (by decide) ?_
        refine z_goto (tgt := 47) dX12_beside_43 (by decide) ?_
        refine z_iadd dX12_beside_47 (by omega) ?_
        refine z_istore_4 rfl dX12_beside_48 ?_
        refine z_iload_3 dX12_beside_50 ?_
        refine z_i2l dX12_beside_51 ?_
        refine z_lconst0 dX12_beside_52 ?_
        refine z_ldc2 (n := 5) k_X12_247 dX12_beside_53 (by decide +kernel) ?_
        refine z_callS3 (k_X12_in) m_X12_in l_X12_106 (Nat.le_of_ble_eq_true rfl) ⟨Nat.le_of_ble_eq_true rfl, Nat.le_of_ble_eq_true rfl⟩ ⟨rfl, rfl⟩ dX12_beside_56 (fun r μ1 hp => ?_)
        obtain ⟨rfl, hv⟩ := hp
        replace hv := hv.symm
        subst hv
        refine z_ifeq (tgt := 89) dX12_beside_59 (by decide) (fun h_59 => ?_) (fun h_59 => ?_)
        · replace h_59 := zb_0.mp h_59
          refine z_iconst dX12_beside_89 (by decide) ?_
          exact z_iret dX12_beside_90 (by first | (rw [zNw_x hc hw (by first | (rw [if_pos (by assumption)]) | (rw [if_neg (by assumption), if_pos (by assumption)]) | (rw [if_neg (by assumption), if_neg (by assumption)])) (by first | (rw [if_pos (by assumption)]) | (rw [if_neg (by assumption), if_pos (by assumption)]) | (rw [if_neg (by assumption), if_neg (by assumption)])) (by first | exact Or.inl h_59 | exact Or.inr (Or.inl h_72) | exact Or.inr (Or.inr h_86))]; exact ⟨rfl, rfl⟩) | (rw [zNw_y hc hw (by first | (rw [if_pos (by assumption)]) | (rw [if_neg (by assumption), if_pos (by assumption)]) | (rw [if_neg (by assumption), if_neg (by assumption)])) (by first | (rw [if_pos (by assumption)]) | (rw [if_neg (by assumption), if_pos (by assumption)]) | (rw [if_neg (by assumption), if_neg (by assumption)])) h_59 h_72 h_86]; exact ⟨rfl, rfl⟩))
        · replace h_59 := zb_n.mp h_59
          refine z_iload_4 dX12_beside_62 ?_
          refine z_i2l dX12_beside_64 ?_
          refine z_lconst0 dX12_beside_65 ?_
          refine z_ldc2 (n := 5) k_X12_247 dX12_beside_66 (by decide +kernel) ?_
          refine z_callS3 (k_X12_in) m_X12_in l_X12_106 (Nat.le_of_ble_eq_true rfl) ⟨Nat.le_of_ble_eq_true rfl, Nat.le_of_ble_eq_true rfl⟩ ⟨rfl, rfl⟩ dX12_beside_69 (fun r μ1 hp => ?_)
          obtain ⟨rfl, hv⟩ := hp
          replace hv := hv.symm
          subst hv
          refine z_ifeq (tgt := 89) dX12_beside_72 (by decide) (fun h_72 => ?_) (fun h_72 => ?_)
          · replace h_72 := zb_0.mp h_72
            refine z_iconst dX12_beside_89 (by decide) ?_
            exact z_iret dX12_beside_90 (by first | (rw [zNw_x hc hw (by first | (rw [if_pos (by assumption)]) | (rw [if_neg (by assumption), if_pos (by assumption)]) | (rw [if_neg (by assumption), if_neg (by assumption)])) (by first | (rw [if_pos (by assumption)]) | (rw [if_neg (by assumption), if_pos (by assumption)]) | (rw [if_neg (by assumption), if_neg (by assumption)])) (by first | exact Or.inl h_59 | exact Or.inr (Or.inl h_72) | exact Or.inr (Or.inr h_86))]; exact ⟨rfl, rfl⟩) | (rw [zNw_y hc hw (by first | (rw [if_pos (by assumption)]) | (rw [if_neg (by assumption), if_pos (by assumption)]) | (rw [if_neg (by assumption), if_neg (by assumption)])) (by first | (rw [if_pos (by assumption)]) | (rw [if_neg (by assumption), if_pos (by assumption)]) | (rw [if_neg (by assumption), if_neg (by assumption)])) h_59 h_72 h_86]; exact ⟨rfl, rfl⟩))
          · replace h_72 := zb_n.mp h_72
            refine z_aload_0 dX12_beside_75 ?_
            refine z_bipush dX12_beside_76 (by decide) ?_
            refine z_iload_3 dX12_beside_78 ?_
            refine z_imul dX12_beside_79 (by omega) ?_
            refine z_iload_4 dX12_beside_80 ?_
            refine z_iadd dX12_beside_82 (by omega) ?_
            refine z_callV1 (k_X12_isWall (by omega) (by omega)) m_X12_isWall zl_393 l_X12_121 (Nat.le_of_ble_eq_true rfl) ⟨Nat.le_of_ble_eq_true rfl, Nat.le_of_ble_eq_true rfl⟩ ⟨rfl, rfl⟩ dX12_beside_83 (fun r μ1 hp => ?_)
            obtain ⟨rfl, hv⟩ := hp
            replace hv := hv.symm
            subst hv
            refine z_ifeq (tgt := 91) dX12_beside_86 (by decide) (fun h_86 => ?_) (fun h_86 => ?_)
            · replace h_86 := zb_0.mp h_86
              refine z_bipush dX12_beside_91 (by decide) ?_
              refine z_iload_3 dX12_beside_93 ?_
              refine z_imul dX12_beside_94 (by omega) ?_
              refine z_iload_4 dX12_beside_95 ?_
              refine z_iadd dX12_beside_97 (by omega) ?_
              exact z_iret dX12_beside_98 (by first | (rw [zNw_x hc hw (by first | (rw [if_pos (by assumption)]) | (rw [if_neg (by assumption), if_pos (by assumption)]) | (rw [if_neg (by assumption), if_neg (by assumption)])) (by first | (rw [if_pos (by assumption)]) | (rw [if_neg (by assumption), if_pos (by assumption)]) | (rw [if_neg (by assumption), if_neg (by assumption)])) (by first | exact Or.inl h_59 | exact Or.inr (Or.inl h_72) | exact Or.inr (Or.inr h_86))]; exact ⟨rfl, rfl⟩) | (rw [zNw_y hc hw (by first | (rw [if_pos (by assumption)]) | (rw [if_neg (by assumption), if_pos (by assumption)]) | (rw [if_neg (by assumption), if_neg (by assumption)])) (by first | (rw [if_pos (by assumption)]) | (rw [if_neg (by assumption), if_pos (by assumption)]) | (rw [if_neg (by assumption), if_neg (by assumption)])) h_59 h_72 h_86]; exact ⟨rfl, rfl⟩))
            · replace h_86 := zb_n.mp h_86
              refine z_iconst dX12_beside_89 (by decide) ?_
              exact z_iret dX12_beside_90 (by first | (rw [zNw_x hc hw (by first | (rw [if_pos (by assumption)]) | (rw [if_neg (by assumption), if_pos (by assumption)]) | (rw [if_neg (by assumption), if_neg (by assumption)])) (by first | (rw [if_pos (by assumption)]) | (rw [if_neg (by assumption), if_pos (by assumption)]) | (rw [if_neg (by assumption), if_neg (by assumption)])) (by first | exact Or.inl h_59 | exact Or.inr (Or.inl h_72) | exact Or.inr (Or.inr h_86))]; exact ⟨rfl, rfl⟩) | (rw [zNw_y hc hw (by first | (rw [if_pos (by assumption)]) | (rw [if_neg (by assumption), if_pos (by assumption)]) | (rw [if_neg (by assumption), if_neg (by assumption)])) (by first | (rw [if_pos (by assumption)]) | (rw [if_neg (by assumption), if_pos (by assumption)]) | (rw [if_neg (by assumption), if_neg (by assumption)])) h_59 h_72 h_86]; exact ⟨rfl, rfl⟩))
    · refine z_iconst dX12_beside_33 (by decide) ?_
      refine z_goto (tgt := 47) dX12_beside_34 (by decide) ?_
      refine z_iadd dX12_beside_47 (by omega) ?_
      refine z_istore_4 rfl dX12_beside_48 ?_
      refine z_iload_3 dX12_beside_50 ?_
      refine z_i2l dX12_beside_51 ?_
      refine z_lconst0 dX12_beside_52 ?_
      refine z_ldc2 (n := 5) k_X12_247 dX12_beside_53 (by decide +kernel) ?_
      refine z_callS3 (k_X12_in) m_X12_in l_X12_106 (Nat.le_of_ble_eq_true rfl) ⟨Nat.le_of_ble_eq_true rfl, Nat.le_of_ble_eq_true rfl⟩ ⟨rfl, rfl⟩ dX12_beside_56 (fun r μ1 hp => ?_)
      obtain ⟨rfl, hv⟩ := hp
      replace hv := hv.symm
      subst hv
      refine z_ifeq (tgt := 89) dX12_beside_59 (by decide) (fun h_59 => ?_) (fun h_59 => ?_)
      · replace h_59 := zb_0.mp h_59
        refine z_iconst dX12_beside_89 (by decide) ?_
        exact z_iret dX12_beside_90 (by first | (rw [zNw_x hc hw (by first | (rw [if_pos (by assumption)]) | (rw [if_neg (by assumption), if_pos (by assumption)]) | (rw [if_neg (by assumption), if_neg (by assumption)])) (by first | (rw [if_pos (by assumption)]) | (rw [if_neg (by assumption), if_pos (by assumption)]) | (rw [if_neg (by assumption), if_neg (by assumption)])) (by first | exact Or.inl h_59 | exact Or.inr (Or.inl h_72) | exact Or.inr (Or.inr h_86))]; exact ⟨rfl, rfl⟩) | (rw [zNw_y hc hw (by first | (rw [if_pos (by assumption)]) | (rw [if_neg (by assumption), if_pos (by assumption)]) | (rw [if_neg (by assumption), if_neg (by assumption)])) (by first | (rw [if_pos (by assumption)]) | (rw [if_neg (by assumption), if_pos (by assumption)]) | (rw [if_neg (by assumption), if_neg (by assumption)])) h_59 h_72 h_86]; exact ⟨rfl, rfl⟩))
      · replace h_59 := zb_n.mp h_59
        refine z_iload_4 dX12_beside_62 ?_
        refine z_i2l dX12_beside_64 ?_
        refine z_lconst0 dX12_beside_65 ?_
        refine z_ldc2 (n := 5) k_X12_247 dX12_beside_66 (by decide +kernel) ?_
        refine z_callS3 (k_X12_in) m_X12_in l_X12_106 (Nat.le_of_ble_eq_true rfl) ⟨Nat.le_of_ble_eq_true rfl, Nat.le_of_ble_eq_true rfl⟩ ⟨rfl, rfl⟩ dX12_beside_69 (fun r μ1 hp => ?_)
        obtain ⟨rfl, hv⟩ := hp
        replace hv := hv.symm
        subst hv
        refine z_ifeq (tgt := 89) dX12_beside_72 (by decide) (fun h_72 => ?_) (fun h_72 => ?_)
        · replace h_72 := zb_0.mp h_72
          refine z_iconst dX12_beside_89 (by decide) ?_
          exact z_iret dX12_beside_90 (by first | (rw [zNw_x hc hw (by first | (rw [if_pos (by assumption)]) | (rw [if_neg (by assumption), if_pos (by assumption)]) | (rw [if_neg (by assumption), if_neg (by assumption)])) (by first | (rw [if_pos (by assumption)]) | (rw [if_neg (by assumption), if_pos (by assumption)]) | (rw [if_neg (by assumption), if_neg (by assumption)])) (by first | exact Or.inl h_59 | exact Or.inr (Or.inl h_72) | exact Or.inr (Or.inr h_86))]; exact ⟨rfl, rfl⟩) | (rw [zNw_y hc hw (by first | (rw [if_pos (by assumption)]) | (rw [if_neg (by assumption), if_pos (by assumption)]) | (rw [if_neg (by assumption), if_neg (by assumption)])) (by first | (rw [if_pos (by assumption)]) | (rw [if_neg (by assumption), if_pos (by assumption)]) | (rw [if_neg (by assumption), if_neg (by assumption)])) h_59 h_72 h_86]; exact ⟨rfl, rfl⟩))
        · replace h_72 := zb_n.mp h_72
          refine z_aload_0 dX12_beside_75 ?_
          refine z_bipush dX12_beside_76 (by decide) ?_
          refine z_iload_3 dX12_beside_78 ?_
          refine z_imul dX12_beside_79 (by omega) ?_
          refine z_iload_4 dX12_beside_80 ?_
          refine z_iadd dX12_beside_82 (by omega) ?_
          refine z_callV1 (k_X12_isWall (by omega) (by omega)) m_X12_isWall zl_393 l_X12_121 (Nat.le_of_ble_eq_true rfl) ⟨Nat.le_of_ble_eq_true rfl, Nat.le_of_ble_eq_true rfl⟩ ⟨rfl, rfl⟩ dX12_beside_83 (fun r μ1 hp => ?_)
          obtain ⟨rfl, hv⟩ := hp
          replace hv := hv.symm
          subst hv
          refine z_ifeq (tgt := 91) dX12_beside_86 (by decide) (fun h_86 => ?_) (fun h_86 => ?_)
          · replace h_86 := zb_0.mp h_86
            refine z_bipush dX12_beside_91 (by decide) ?_
            refine z_iload_3 dX12_beside_93 ?_
            refine z_imul dX12_beside_94 (by omega) ?_
            refine z_iload_4 dX12_beside_95 ?_
            refine z_iadd dX12_beside_97 (by omega) ?_
            exact z_iret dX12_beside_98 (by first | (rw [zNw_x hc hw (by first | (rw [if_pos (by assumption)]) | (rw [if_neg (by assumption), if_pos (by assumption)]) | (rw [if_neg (by assumption), if_neg (by assumption)])) (by first | (rw [if_pos (by assumption)]) | (rw [if_neg (by assumption), if_pos (by assumption)]) | (rw [if_neg (by assumption), if_neg (by assumption)])) (by first | exact Or.inl h_59 | exact Or.inr (Or.inl h_72) | exact Or.inr (Or.inr h_86))]; exact ⟨rfl, rfl⟩) | (rw [zNw_y hc hw (by first | (rw [if_pos (by assumption)]) | (rw [if_neg (by assumption), if_pos (by assumption)]) | (rw [if_neg (by assumption), if_neg (by assumption)])) (by first | (rw [if_pos (by assumption)]) | (rw [if_neg (by assumption), if_pos (by assumption)]) | (rw [if_neg (by assumption), if_neg (by assumption)])) h_59 h_72 h_86]; exact ⟨rfl, rfl⟩))
          · replace h_86 := zb_n.mp h_86
            refine z_iconst dX12_beside_89 (by decide) ?_
            exact z_iret dX12_beside_90 (by first | (rw [zNw_x hc hw (by first | (rw [if_pos (by assumption)]) | (rw [if_neg (by assumption), if_pos (by assumption)]) | (rw [if_neg (by assumption), if_neg (by assumption)])) (by first | (rw [if_pos (by assumption)]) | (rw [if_neg (by assumption), if_pos (by assumption)]) | (rw [if_neg (by assumption), if_neg (by assumption)])) (by first | exact Or.inl h_59 | exact Or.inr (Or.inl h_72) | exact Or.inr (Or.inr h_86))]; exact ⟨rfl, rfl⟩) | (rw [zNw_y hc hw (by first | (rw [if_pos (by assumption)]) | (rw [if_neg (by assumption), if_pos (by assumption)]) | (rw [if_neg (by assumption), if_neg (by assumption)])) (by first | (rw [if_pos (by assumption)]) | (rw [if_neg (by assumption), if_pos (by assumption)]) | (rw [if_neg (by assumption), if_neg (by assumption)])) h_59 h_72 h_86]; exact ⟨rfl, rfl⟩))
