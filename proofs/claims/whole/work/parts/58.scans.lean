set_option maxRecDepth 100000 in
set_option maxHeartbeats 4000000 in
theorem k_X12_isAt {l : Launch} {E : zE} {μ : zM} {lo hi : Int} (hn : 0 ≤ μ 393 9 ∧ μ 393 9 ≤ 300) (ha : 0 ≤ μ 393 10 ∧ μ 393 10 ≤ 300) (h0 : 0 ≤ lo) : Ct l E yX12_isAt cX12_isAt 3 (some .boolean) ({ frames := 1, cells := 0, slots := 0, locals := 25 }) [zR 393, zI lo, zI hi] μ (fun r ν => r = some (zI (zb (lo ≤ zby (μ 399) (μ 393 9) (μ 393 10) ∧ zby (μ 399) (μ 393 9) (μ 393 10) ≤ hi))) ∧ ν = μ) := by
  refine Ct.of RX12 [zR 393, zI lo, zI hi] (by decide +kernel) rfl ⟨rfl, rfl⟩ rfl (Nat.le_of_ble_eq_true rfl) (fun X hX hc0 ha0 => ?_)
  subst hX
  refine z_aload_0 dX12_isAt_0 ?_
  refine z_getI 10 rfl f_X12_159 zl_393 rfl dX12_isAt_1 ?_
  refine z_aload_0 dX12_isAt_4 ?_
  refine z_getI 9 rfl f_X12_154 zl_393 rfl dX12_isAt_5 ?_
  refine z_icmpge (tgt := 35) dX12_isAt_8 (by decide) (fun h_8 => ?_) (fun h_8 => ?_)
  · have hz : zby (μ 399) (μ 393 9) (μ 393 10) = -1 := if_neg (by omega)
    refine z_iconst dX12_isAt_35 (by decide) ?_
    exact z_zret (by decide) dX12_isAt_36 (by first | exact zb_r0 (by omega) rfl | (exact zb_r (by rw [hz]; exact h_28) rfl) | (exact zb_r0 (by rw [hz]; exact h_28) rfl))
  · have hz : zby (μ 399) (μ 393 9) (μ 393 10) = μ 399 (μ 393 10) := if_pos (by omega)
    refine z_aload_0 dX12_isAt_11 ?_
    refine z_getF 399 6 rfl f_X12_26 zl_393 rfl rfl dX12_isAt_12 ?_
    refine z_aload_0 dX12_isAt_15 ?_
    refine z_getI 10 rfl f_X12_159 zl_393 rfl dX12_isAt_16 ?_
    refine z_iald zl_399 (by omega) (by omega) dX12_isAt_19 ?_
    refine z_i2l dX12_isAt_20 ?_
    refine z_iload_1 dX12_isAt_21 ?_
    refine z_i2l dX12_isAt_22 ?_
    refine z_iload_2 dX12_isAt_23 ?_
    refine z_i2l dX12_isAt_24 ?_
    refine z_callS3 (k_X12_in) m_X12_in l_X12_106 (Nat.le_of_ble_eq_true rfl) ⟨Nat.le_of_ble_eq_true rfl, Nat.le_of_ble_eq_true rfl⟩ ⟨rfl, rfl⟩ dX12_isAt_25 (fun r μ1 hp => ?_)
    obtain ⟨rfl, hv⟩ := hp
    replace hv := hv.symm
    subst hv
    refine z_ifeq (tgt := 35) dX12_isAt_28 (by decide) (fun h_28 => ?_) (fun h_28 => ?_)
    · replace h_28 := zb_0.mp h_28
      refine z_iconst dX12_isAt_35 (by decide) ?_
      exact z_zret (by decide) dX12_isAt_36 (by first | exact zb_r0 (by omega) rfl | (exact zb_r (by rw [hz]; exact h_28) rfl) | (exact zb_r0 (by rw [hz]; exact h_28) rfl))
    · replace h_28 := zb_n.mp h_28
      refine z_iconst dX12_isAt_31 (by decide) ?_
      refine z_goto (tgt := 36) dX12_isAt_32 (by decide) ?_
      exact z_zret (by decide) dX12_isAt_36 (by first | exact zb_r0 (by omega) rfl | (exact zb_r (by rw [hz]; exact h_28) rfl) | (exact zb_r0 (by rw [hz]; exact h_28) rfl))
/-- the token of a word -/
def zTk (w : Int) : Int := if w = -1 then 1 else if w < 7 then 20 + w else w + 3
set_option maxRecDepth 100000 in
set_option maxHeartbeats 4000000 in
theorem k_X12_wordOf {l : Launch} {E : zE} {μ : zM} {v : Int} : Ct l E yX12_wordOf cX12_wordOf 4 (some .int) ({ frames := 0, cells := 0, slots := 0, locals := 0 }) [zL v] μ (fun r ν => r = some (zI (zTk (zwv v))) ∧ ν = μ) := by
  refine Ct.of RX12 [zL v, zU, zU, zU] (by decide +kernel) rfl ⟨rfl, rfl⟩ rfl (Nat.le_of_ble_eq_true rfl) (fun X hX hc0 ha0 => ?_)
  subst hX
  have J66 : ∀ one : Int, ((one = 10 ∧ v = 15181413) ∨ (one = 11 ∧ v = 3744932) ∨ (one = 12 ∧ v = 693713060) ∨ (one = 13 ∧ v = 611783) ∨ (one = 14 ∧ v = 16052) ∨ (one = 1 ∧ v ≠ 15181413 ∧ v ≠ 3744932 ∧ v ≠ 693713060 ∧ v ≠ 611783 ∧ v ≠ 16052)) → MW X E cX12_wordOf RX12 ({ frames := 0, cells := 0, slots := 0, locals := 0 }) (some .int) (fun r ν => r = some (zI (zTk (zwv v))) ∧ ν = μ) 66 [zL v, zU, zU, zU] [zI one] μ := by
    intro one hone
    refine z_istore_2 rfl dX12_wordOf_66 ?_
    refine z_lload_0 dX12_wordOf_67 ?_
    refine z_ldc2 (n := 755084) k_X12_172 dX12_wordOf_68 (by decide +kernel) ?_
    refine z_lcmp dX12_wordOf_71 ?_
    refine z_ifne (tgt := 80) dX12_wordOf_72 (by decide) (fun h_72 => ?_) (fun h_72 => ?_)
    · have e_72 := (not_congr zcmp_eq).mp h_72
      refine z_lload_0 dX12_wordOf_80 ?_
      refine z_ldc2 (n := 2590276) k_X12_174 dX12_wordOf_81 (by decide +kernel) ?_
      refine z_lcmp dX12_wordOf_84 ?_
      refine z_ifne (tgt := 93) dX12_wordOf_85 (by decide) (fun h_85 => ?_) (fun h_85 => ?_)
      · have e_85 := (not_congr zcmp_eq).mp h_85
        refine z_lload_0 dX12_wordOf_93 ?_
        refine z_ldc2 (n := 197765) k_X12_176 dX12_wordOf_94 (by decide +kernel) ?_
        refine z_lcmp dX12_wordOf_97 ?_
        refine z_ifne (tgt := 106) dX12_wordOf_98 (by decide) (fun h_98 => ?_) (fun h_98 => ?_)
        · have e_98 := (not_congr zcmp_eq).mp h_98
          refine z_lload_0 dX12_wordOf_106 ?_
          refine z_ldc2 (n := 146930) k_X12_178 dX12_wordOf_107 (by decide +kernel) ?_
          refine z_lcmp dX12_wordOf_110 ?_
          refine z_ifne (tgt := 119) dX12_wordOf_111 (by decide) (fun h_111 => ?_) (fun h_111 => ?_)
          · have e_111 := (not_congr zcmp_eq).mp h_111
            refine z_lload_0 dX12_wordOf_119 ?_
            refine z_ldc2 (n := 2212) k_X12_180 dX12_wordOf_120 (by decide +kernel) ?_
            refine z_lcmp dX12_wordOf_123 ?_
            refine z_ifne (tgt := 132) dX12_wordOf_124 (by decide) (fun h_124 => ?_) (fun h_124 => ?_)
            · have e_124 := (not_congr zcmp_eq).mp h_124
              refine z_lload_0 dX12_wordOf_132 ?_
              refine z_ldc2 (n := 20809171122) k_X12_182 dX12_wordOf_133 (by decide +kernel) ?_
              refine z_lcmp dX12_wordOf_136 ?_
              refine z_ifne (tgt := 145) dX12_wordOf_137 (by decide) (fun h_137 => ?_) (fun h_137 => ?_)
              · have e_137 := (not_congr zcmp_eq).mp h_137
                refine z_lload_0 dX12_wordOf_145 ?_
                refine z_ldc2 (n := 12581) k_X12_184 dX12_wordOf_146 (by decide +kernel) ?_
                refine z_lcmp dX12_wordOf_149 ?_
                refine z_ifne (tgt := 158) dX12_wordOf_150 (by decide) (fun h_150 => ?_) (fun h_150 => ?_)
                · have e_150 := (not_congr zcmp_eq).mp h_150
                  refine z_iconst dX12_wordOf_158 (by decide) ?_
                  refine z_istore_3 rfl dX12_wordOf_159 ?_
                  refine z_iload_2 dX12_wordOf_160 ?_
                  refine z_iconst dX12_wordOf_161 (by decide) ?_
                  refine z_icmpeq (tgt := 169) dX12_wordOf_162 (by decide) (fun h_162 => ?_) (fun h_162 => ?_)
                  · refine z_iload_3 dX12_wordOf_169 ?_
                    exact z_iret dX12_wordOf_170 (⟨congrArg (fun z => (some (zI z) : Option zAV)) (by
                        rcases hone with ⟨rfl, q⟩ | ⟨rfl, q⟩ | ⟨rfl, q⟩ | ⟨rfl, q⟩ | ⟨rfl, q⟩ | ⟨rfl, q⟩ <;> first | (exfalso; omega) | (unfold zTk zwv; (repeat (first | rw [if_pos (by omega)] | rw [if_neg (by omega)])); try rfl)), rfl⟩)
                  · refine z_iload_2 dX12_wordOf_165 ?_
                    refine z_goto (tgt := 170) dX12_wordOf_166 (by decide) ?_
                    exact z_iret dX12_wordOf_170 (⟨congrArg (fun z => (some (zI z) : Option zAV)) (by
                        rcases hone with ⟨rfl, q⟩ | ⟨rfl, q⟩ | ⟨rfl, q⟩ | ⟨rfl, q⟩ | ⟨rfl, q⟩ | ⟨rfl, q⟩ <;> first | (exfalso; omega) | (unfold zTk zwv; (repeat (first | rw [if_pos (by omega)] | rw [if_neg (by omega)])); try rfl)), rfl⟩)
                · have e_150 := zcmp_eq.mp (show zcmp _ _ = 0 by omega)
                  refine z_bipush dX12_wordOf_153 (by decide) ?_
                  refine z_goto (tgt := 159) dX12_wordOf_155 (by decide) ?_
                  refine z_istore_3 rfl dX12_wordOf_159 ?_
                  refine z_iload_2 dX12_wordOf_160 ?_
                  refine z_iconst dX12_wordOf_161 (by decide) ?_
                  refine z_icmpeq (tgt := 169) dX12_wordOf_162 (by decide) (fun h_162 => ?_) (fun h_162 => ?_)
                  · refine z_iload_3 dX12_wordOf_169 ?_
                    exact z_iret dX12_wordOf_170 (⟨congrArg (fun z => (some (zI z) : Option zAV)) (by
                        rcases hone with ⟨rfl, q⟩ | ⟨rfl, q⟩ | ⟨rfl, q⟩ | ⟨rfl, q⟩ | ⟨rfl, q⟩ | ⟨rfl, q⟩ <;> first | (exfalso; omega) | (unfold zTk zwv; (repeat (first | rw [if_pos (by omega)] | rw [if_neg (by omega)])); try rfl)), rfl⟩)
                  · refine z_iload_2 dX12_wordOf_165 ?_
                    refine z_goto (tgt := 170) dX12_wordOf_166 (by decide) ?_
                    exact z_iret dX12_wordOf_170 (⟨congrArg (fun z => (some (zI z) : Option zAV)) (by
                        rcases hone with ⟨rfl, q⟩ | ⟨rfl, q⟩ | ⟨rfl, q⟩ | ⟨rfl, q⟩ | ⟨rfl, q⟩ | ⟨rfl, q⟩ <;> first | (exfalso; omega) | (unfold zTk zwv; (repeat (first | rw [if_pos (by omega)] | rw [if_neg (by omega)])); try rfl)), rfl⟩)
              · have e_137 := zcmp_eq.mp (show zcmp _ _ = 0 by omega)
                refine z_bipush dX12_wordOf_140 (by decide) ?_
                refine z_goto (tgt := 159) dX12_wordOf_142 (by decide) ?_
                refine z_istore_3 rfl dX12_wordOf_159 ?_
                refine z_iload_2 dX12_wordOf_160 ?_
                refine z_iconst dX12_wordOf_161 (by decide) ?_
                refine z_icmpeq (tgt := 169) dX12_wordOf_162 (by decide) (fun h_162 => ?_) (fun h_162 => ?_)
                · refine z_iload_3 dX12_wordOf_169 ?_
                  exact z_iret dX12_wordOf_170 (⟨congrArg (fun z => (some (zI z) : Option zAV)) (by
                      rcases hone with ⟨rfl, q⟩ | ⟨rfl, q⟩ | ⟨rfl, q⟩ | ⟨rfl, q⟩ | ⟨rfl, q⟩ | ⟨rfl, q⟩ <;> first | (exfalso; omega) | (unfold zTk zwv; (repeat (first | rw [if_pos (by omega)] | rw [if_neg (by omega)])); try rfl)), rfl⟩)
                · refine z_iload_2 dX12_wordOf_165 ?_
                  refine z_goto (tgt := 170) dX12_wordOf_166 (by decide) ?_
                  exact z_iret dX12_wordOf_170 (⟨congrArg (fun z => (some (zI z) : Option zAV)) (by
                      rcases hone with ⟨rfl, q⟩ | ⟨rfl, q⟩ | ⟨rfl, q⟩ | ⟨rfl, q⟩ | ⟨rfl, q⟩ | ⟨rfl, q⟩ <;> first | (exfalso; omega) | (unfold zTk zwv; (repeat (first | rw [if_pos (by omega)] | rw [if_neg (by omega)])); try rfl)), rfl⟩)
            · have e_124 := zcmp_eq.mp (show zcmp _ _ = 0 by omega)
              refine z_bipush dX12_wordOf_127 (by decide) ?_
              refine z_goto (tgt := 159) dX12_wordOf_129 (by decide) ?_
              refine z_istore_3 rfl dX12_wordOf_159 ?_
              refine z_iload_2 dX12_wordOf_160 ?_
              refine z_iconst dX12_wordOf_161 (by decide) ?_
              refine z_icmpeq (tgt := 169) dX12_wordOf_162 (by decide) (fun h_162 => ?_) (fun h_162 => ?_)
              · refine z_iload_3 dX12_wordOf_169 ?_
                exact z_iret dX12_wordOf_170 (⟨congrArg (fun z => (some (zI z) : Option zAV)) (by
                    rcases hone with ⟨rfl, q⟩ | ⟨rfl, q⟩ | ⟨rfl, q⟩ | ⟨rfl, q⟩ | ⟨rfl, q⟩ | ⟨rfl, q⟩ <;> first | (exfalso; omega) | (unfold zTk zwv; (repeat (first | rw [if_pos (by omega)] | rw [if_neg (by omega)])); try rfl)), rfl⟩)
              · refine z_iload_2 dX12_wordOf_165 ?_
                refine z_goto (tgt := 170) dX12_wordOf_166 (by decide) ?_
                exact z_iret dX12_wordOf_170 (⟨congrArg (fun z => (some (zI z) : Option zAV)) (by
                    rcases hone with ⟨rfl, q⟩ | ⟨rfl, q⟩ | ⟨rfl, q⟩ | ⟨rfl, q⟩ | ⟨rfl, q⟩ | ⟨rfl, q⟩ <;> first | (exfalso; omega) | (unfold zTk zwv; (repeat (first | rw [if_pos (by omega)] | rw [if_neg (by omega)])); try rfl)), rfl⟩)
          · have e_111 := zcmp_eq.mp (show zcmp _ _ = 0 by omega)
            refine z_bipush dX12_wordOf_114 (by decide) ?_
            refine z_goto (tgt := 159) dX12_wordOf_116 (by decide) ?_
            refine z_istore_3 rfl dX12_wordOf_159 ?_
            refine z_iload_2 dX12_wordOf_160 ?_
            refine z_iconst dX12_wordOf_161 (by decide) ?_
            refine z_icmpeq (tgt := 169) dX12_wordOf_162 (by decide) (fun h_162 => ?_) (fun h_162 => ?_)
            · refine z_iload_3 dX12_wordOf_169 ?_
              exact z_iret dX12_wordOf_170 (⟨congrArg (fun z => (some (zI z) : Option zAV)) (by
                  rcases hone with ⟨rfl, q⟩ | ⟨rfl, q⟩ | ⟨rfl, q⟩ | ⟨rfl, q⟩ | ⟨rfl, q⟩ | ⟨rfl, q⟩ <;> first | (exfalso; omega) | (unfold zTk zwv; (repeat (first | rw [if_pos (by omega)] | rw [if_neg (by omega)])); try rfl)), rfl⟩)
            · refine z_iload_2 dX12_wordOf_165 ?_
              refine z_goto (tgt := 170) dX12_wordOf_166 (by decide) ?_
              exact z_iret dX12_wordOf_170 (⟨congrArg (fun z => (some (zI z) : Option zAV)) (by
                  rcases hone with ⟨rfl, q⟩ | ⟨rfl, q⟩ | ⟨rfl, q⟩ | ⟨rfl, q⟩ | ⟨rfl, q⟩ | ⟨rfl, q⟩ <;> first | (exfalso; omega) | (unfold zTk zwv; (repeat (first | rw [if_pos (by omega)] | rw [if_neg (by omega)])); try rfl)), rfl⟩)
        · have e_98 := zcmp_eq.mp (show zcmp _ _ = 0 by omega)
          refine z_bipush dX12_wordOf_101 (by decide) ?_
          refine z_goto (tgt := 159) dX12_wordOf_103 (by decide) ?_
          refine z_istore_3 rfl dX12_wordOf_159 ?_
          refine z_iload_2 dX12_wordOf_160 ?_
          refine z_iconst dX12_wordOf_161 (by decide) ?_
          refine z_icmpeq (tgt := 169) dX12_wordOf_162 (by decide) (fun h_162 => ?_) (fun h_162 => ?_)
          · refine z_iload_3 dX12_wordOf_169 ?_
            exact z_iret dX12_wordOf_170 (⟨congrArg (fun z => (some (zI z) : Option zAV)) (by
                rcases hone with ⟨rfl, q⟩ | ⟨rfl, q⟩ | ⟨rfl, q⟩ | ⟨rfl, q⟩ | ⟨rfl, q⟩ | ⟨rfl, q⟩ <;> first | (exfalso; omega) | (unfold zTk zwv; (repeat (first | rw [if_pos (by omega)] | rw [if_neg (by omega)])); try rfl)), rfl⟩)
          · refine z_iload_2 dX12_wordOf_165 ?_
            refine z_goto (tgt := 170) dX12_wordOf_166 (by decide) ?_
            exact z_iret dX12_wordOf_170 (⟨congrArg (fun z => (some (zI z) : Option zAV)) (by
                rcases hone with ⟨rfl, q⟩ | ⟨rfl, q⟩ | ⟨rfl, q⟩ | ⟨rfl, q⟩ | ⟨rfl, q⟩ | ⟨rfl, q⟩ <;> first | (exfalso; omega) | (unfold zTk zwv; (repeat (first | rw [if_pos (by omega)] | rw [if_neg (by omega)])); try rfl)), rfl⟩)
      · have e_85 := zcmp_eq.mp (show zcmp _ _ = 0 by omega)
        refine z_bipush dX12_wordOf_88 (by decide) ?_
        refine z_goto (tgt := 159) dX12_wordOf_90 (by decide) ?_
        refine z_istore_3 rfl dX12_wordOf_159 ?_
        refine z_iload_2 dX12_wordOf_160 ?_
        refine z_iconst dX12_wordOf_161 (by decide) ?_
        refine z_icmpeq (tgt := 169) dX12_wordOf_162 (by decide) (fun h_162 => ?_) (fun h_162 => ?_)
        · refine z_iload_3 dX12_wordOf_169 ?_
          exact z_iret dX12_wordOf_170 (⟨congrArg (fun z => (some (zI z) : Option zAV)) (by
              rcases hone with ⟨rfl, q⟩ | ⟨rfl, q⟩ | ⟨rfl, q⟩ | ⟨rfl, q⟩ | ⟨rfl, q⟩ | ⟨rfl, q⟩ <;> first | (exfalso; omega) | (unfold zTk zwv; (repeat (first | rw [if_pos (by omega)] | rw [if_neg (by omega)])); try rfl)), rfl⟩)
        · refine z_iload_2 dX12_wordOf_165 ?_
          refine z_goto (tgt := 170) dX12_wordOf_166 (by decide) ?_
          exact z_iret dX12_wordOf_170 (⟨congrArg (fun z => (some (zI z) : Option zAV)) (by
              rcases hone with ⟨rfl, q⟩ | ⟨rfl, q⟩ | ⟨rfl, q⟩ | ⟨rfl, q⟩ | ⟨rfl, q⟩ | ⟨rfl, q⟩ <;> first | (exfalso; omega) | (unfold zTk zwv; (repeat (first | rw [if_pos (by omega)] | rw [if_neg (by omega)])); try rfl)), rfl⟩)
    · have e_72 := zcmp_eq.mp (show zcmp _ _ = 0 by omega)
      refine z_bipush dX12_wordOf_75 (by decide) ?_
      refine z_goto (tgt := 159) dX12_wordOf_77 (by decide) ?_
      refine z_istore_3 rfl dX12_wordOf_159 ?_
      refine z_iload_2 dX12_wordOf_160 ?_
      refine z_iconst dX12_wordOf_161 (by decide) ?_
      refine z_icmpeq (tgt := 169) dX12_wordOf_162 (by decide) (fun h_162 => ?_) (fun h_162 => ?_)
      · refine z_iload_3 dX12_wordOf_169 ?_
        exact z_iret dX12_wordOf_170 (⟨congrArg (fun z => (some (zI z) : Option zAV)) (by
            rcases hone with ⟨rfl, q⟩ | ⟨rfl, q⟩ | ⟨rfl, q⟩ | ⟨rfl, q⟩ | ⟨rfl, q⟩ | ⟨rfl, q⟩ <;> first | (exfalso; omega) | (unfold zTk zwv; (repeat (first | rw [if_pos (by omega)] | rw [if_neg (by omega)])); try rfl)), rfl⟩)
      · refine z_iload_2 dX12_wordOf_165 ?_
        refine z_goto (tgt := 170) dX12_wordOf_166 (by decide) ?_
        exact z_iret dX12_wordOf_170 (⟨congrArg (fun z => (some (zI z) : Option zAV)) (by
            rcases hone with ⟨rfl, q⟩ | ⟨rfl, q⟩ | ⟨rfl, q⟩ | ⟨rfl, q⟩ | ⟨rfl, q⟩ | ⟨rfl, q⟩ <;> first | (exfalso; omega) | (unfold zTk zwv; (repeat (first | rw [if_pos (by omega)] | rw [if_neg (by omega)])); try rfl)), rfl⟩)
  refine z_lload_0 dX12_wordOf_0 ?_
  refine z_ldc2 (n := 15181413) k_X12_162 dX12_wordOf_1 (by decide +kernel) ?_
  refine z_lcmp dX12_wordOf_4 ?_
  refine z_ifne (tgt := 13) dX12_wordOf_5 (by decide) (fun h_5 => ?_) (fun h_5 => ?_)
  · have e_5 := (not_congr zcmp_eq).mp h_5
    refine z_lload_0 dX12_wordOf_13 ?_
    refine z_ldc2 (n := 3744932) k_X12_164 dX12_wordOf_14 (by decide +kernel) ?_
    refine z_lcmp dX12_wordOf_17 ?_
    refine z_ifne (tgt := 26) dX12_wordOf_18 (by decide) (fun h_18 => ?_) (fun h_18 => ?_)
    · have e_18 := (not_congr zcmp_eq).mp h_18
      refine z_lload_0 dX12_wordOf_26 ?_
      refine z_ldc2 (n := 693713060) k_X12_166 dX12_wordOf_27 (by decide +kernel) ?_
      refine z_lcmp dX12_wordOf_30 ?_
      refine z_ifne (tgt := 39) dX12_wordOf_31 (by decide) (fun h_31 => ?_) (fun h_31 => ?_)
      · have e_31 := (not_congr zcmp_eq).mp h_31
        refine z_lload_0 dX12_wordOf_39 ?_
        refine z_ldc2 (n := 611783) k_X12_168 dX12_wordOf_40 (by decide +kernel) ?_
        refine z_lcmp dX12_wordOf_43 ?_
        refine z_ifne (tgt := 52) dX12_wordOf_44 (by decide) (fun h_44 => ?_) (fun h_44 => ?_)
        · have e_44 := (not_congr zcmp_eq).mp h_44
          refine z_lload_0 dX12_wordOf_52 ?_
          refine z_ldc2 (n := 16052) k_X12_170 dX12_wordOf_53 (by decide +kernel) ?_
          refine z_lcmp dX12_wordOf_56 ?_
          refine z_ifne (tgt := 65) dX12_wordOf_57 (by decide) (fun h_57 => ?_) (fun h_57 => ?_)
          · have e_57 := (not_congr zcmp_eq).mp h_57
            refine z_iconst dX12_wordOf_65 (by decide) ?_
            exact J66 _ (by omega)
          · have e_57 := zcmp_eq.mp (show zcmp _ _ = 0 by omega)
            refine z_bipush dX12_wordOf_60 (by decide) ?_
            refine z_goto (tgt := 66) dX12_wordOf_62 (by decide) ?_
            exact J66 _ (by omega)
        · have e_44 := zcmp_eq.mp (show zcmp _ _ = 0 by omega)
          refine z_bipush dX12_wordOf_47 (by decide) ?_
          refine z_goto (tgt := 66) dX12_wordOf_49 (by decide) ?_
          exact J66 _ (by omega)
      · have e_31 := zcmp_eq.mp (show zcmp _ _ = 0 by omega)
        refine z_bipush dX12_wordOf_34 (by decide) ?_
        refine z_goto (tgt := 66) dX12_wordOf_36 (by decide) ?_
        exact J66 _ (by omega)
    · have e_18 := zcmp_eq.mp (show zcmp _ _ = 0 by omega)
      refine z_bipush dX12_wordOf_21 (by decide) ?_
      refine z_goto (tgt := 66) dX12_wordOf_23 (by decide) ?_
      exact J66 _ (by omega)
  · have e_5 := zcmp_eq.mp (show zcmp _ _ = 0 by omega)
    refine z_bipush dX12_wordOf_8 (by decide) ?_
    refine z_goto (tgt := 66) dX12_wordOf_10 (by decide) ?_
    exact J66 _ (by omega)
set_option maxRecDepth 100000 in
set_option maxHeartbeats 4000000 in
theorem k_X12_numbers {l : Launch} {E : zE} {μ : zM} {w : Int} (hw : 0 ≤ w ∧ w ≤ 11) : Ct l E yX12_numbers cX12_numbers 1 (some .int) ({ frames := 0, cells := 0, slots := 0, locals := 0 }) [zI (zTk w)] μ (fun r ν => r = some (zI (zcn w)) ∧ ν = μ) := by
  refine Ct.of RX12 [zI (zTk w)] (by decide +kernel) rfl ⟨rfl, rfl⟩ rfl (Nat.le_of_ble_eq_true rfl) (fun X hX hc0 ha0 => ?_)
  subst hX
  have ht : zTk w = if w < 7 then 20 + w else w + 3 := if_neg (by omega)
  have ht2 : 10 ≤ zTk w ∧ zTk w ≤ 26 := by rw [ht]; split <;> omega
  refine z_iload_0 dX12_numbers_0 ?_
  by_cases hs_1_20 : zTk w = 20
  · rw [hs_1_20]
    refine z_tabIn (tgt := 44) dX12_numbers_1 (by decide) (by decide) rfl (by decide) ?_
    refine z_iconst dX12_numbers_44 (by decide) ?_
    exact z_iret dX12_numbers_45 (⟨congrArg (fun z => (some (zI z) : Option zAV)) (by unfold zTk at *; unfold zcn; repeat (first | rw [if_pos (by omega)] | rw [if_neg (by omega)])), rfl⟩)
  by_cases hs_1_21 : zTk w = 21
  · rw [hs_1_21]
    refine z_tabIn (tgt := 46) dX12_numbers_1 (by decide) (by decide) rfl (by decide) ?_
    refine z_iconst dX12_numbers_46 (by decide) ?_
    exact z_iret dX12_numbers_47 (⟨congrArg (fun z => (some (zI z) : Option zAV)) (by unfold zTk at *; unfold zcn; repeat (first | rw [if_pos (by omega)] | rw [if_neg (by omega)])), rfl⟩)
  by_cases hs_1_22 : zTk w = 22
  · rw [hs_1_22]
    refine z_tabIn (tgt := 44) dX12_numbers_1 (by decide) (by decide) rfl (by decide) ?_
    refine z_iconst dX12_numbers_44 (by decide) ?_
    exact z_iret dX12_numbers_45 (⟨congrArg (fun z => (some (zI z) : Option zAV)) (by unfold zTk at *; unfold zcn; repeat (first | rw [if_pos (by omega)] | rw [if_neg (by omega)])), rfl⟩)
  by_cases hs_1_23 : zTk w = 23
  · rw [hs_1_23]
    refine z_tabIn (tgt := 44) dX12_numbers_1 (by decide) (by decide) rfl (by decide) ?_
    refine z_iconst dX12_numbers_44 (by decide) ?_
    exact z_iret dX12_numbers_45 (⟨congrArg (fun z => (some (zI z) : Option zAV)) (by unfold zTk at *; unfold zcn; repeat (first | rw [if_pos (by omega)] | rw [if_neg (by omega)])), rfl⟩)
  by_cases hs_1_24 : zTk w = 24
  · rw [hs_1_24]
    refine z_tabIn (tgt := 44) dX12_numbers_1 (by decide) (by decide) rfl (by decide) ?_
    refine z_iconst dX12_numbers_44 (by decide) ?_
    exact z_iret dX12_numbers_45 (⟨congrArg (fun z => (some (zI z) : Option zAV)) (by unfold zTk at *; unfold zcn; repeat (first | rw [if_pos (by omega)] | rw [if_neg (by omega)])), rfl⟩)
  by_cases hs_1_25 : zTk w = 25
  · rw [hs_1_25]
    refine z_tabIn (tgt := 48) dX12_numbers_1 (by decide) (by decide) rfl (by decide) ?_
    refine z_iconst dX12_numbers_48 (by decide) ?_
    exact z_iret dX12_numbers_49 (⟨congrArg (fun z => (some (zI z) : Option zAV)) (by unfold zTk at *; unfold zcn; repeat (first | rw [if_pos (by omega)] | rw [if_neg (by omega)])), rfl⟩)
  by_cases hs_1_26 : zTk w = 26
  · rw [hs_1_26]
    refine z_tabIn (tgt := 46) dX12_numbers_1 (by decide) (by decide) rfl (by decide) ?_
    refine z_iconst dX12_numbers_46 (by decide) ?_
    exact z_iret dX12_numbers_47 (⟨congrArg (fun z => (some (zI z) : Option zAV)) (by unfold zTk at *; unfold zcn; repeat (first | rw [if_pos (by omega)] | rw [if_neg (by omega)])), rfl⟩)
  refine z_tabOut (tgt := 50) dX12_numbers_1 (by omega) (by decide) ?_
  refine z_iconst dX12_numbers_50 (by decide) ?_
  exact z_iret dX12_numbers_51 (⟨congrArg (fun z => (some (zI z) : Option zAV)) (by unfold zTk at *; unfold zcn; repeat (first | rw [if_pos (by omega)] | rw [if_neg (by omega)])), rfl⟩)
