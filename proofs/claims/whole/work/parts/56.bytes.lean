set_option maxRecDepth 100000 in
set_option maxHeartbeats 4000000 in
theorem k_X10_byteAt {l : Launch} {E : zE} {μ : zM} {i : Int} (hn : 0 ≤ μ 47 0 ∧ μ 47 0 ≤ 300) (i0 : 0 ≤ i) : Ct l E yX10_byteAt cX10_byteAt 2 (some .int) ({ frames := 0, cells := 0, slots := 0, locals := 0 }) [zR 47, zI i] μ (fun r ν => r = some (zI (zby (μ 110) (μ 47 0) i)) ∧ ν = μ) := by
  refine Ct.of RX10 [zR 47, zI i] (by decide +kernel) rfl ⟨rfl, rfl⟩ rfl (Nat.le_of_ble_eq_true rfl) (fun X hX hc0 ha0 => ?_)
  subst hX
  refine z_iload_1 dX10_byteAt_0 ?_
  refine z_aload_0 dX10_byteAt_1 ?_
  refine z_getI 0 rfl f_X10_9 zl_47 rfl dX10_byteAt_2 ?_
  refine z_icmpge (tgt := 17) dX10_byteAt_5 (by decide) (fun h_5 => ?_) (fun h_5 => ?_)
  · refine z_iconst dX10_byteAt_17 (by decide) ?_
    exact z_iret dX10_byteAt_18 (⟨congrArg (fun z => (some (zI z) : Option zAV)) (by unfold zby; first | rw [if_neg (by omega)] | rw [if_pos (by omega)]), rfl⟩)
  · refine z_aload_0 dX10_byteAt_8 ?_
    refine z_getF 110 63 rfl f_X10_27 zl_47 rfl rfl dX10_byteAt_9 ?_
    refine z_iload_1 dX10_byteAt_12 ?_
    refine z_iald zl_110 (by omega) (by omega) dX10_byteAt_13 ?_
    refine z_goto (tgt := 18) dX10_byteAt_14 (by decide) ?_
    exact z_iret dX10_byteAt_18 (⟨congrArg (fun z => (some (zI z) : Option zAV)) (by unfold zby; first | rw [if_neg (by omega)] | rw [if_pos (by omega)]), rfl⟩)
theorem zup_up {μ : zM} {a : Nat} {k v w : Int} : zup (zup μ a k v) a k w = zup μ a k w := by
  funext b j
  by_cases q : b = a ∧ j = k
  · rw [q.1, q.2, zup_eq, zup_eq]
  · have : b ≠ a ∨ j ≠ k := by omega
    rw [zup_ne this, zup_ne this, zup_ne this]
theorem zup_id2 {μ : zM} {a : Nat} {k : Int} : zup μ a k (μ a k) = μ := by
  funext b j
  by_cases q : b = a ∧ j = k
  · rw [q.1, q.2, zup_eq]
  · exact zup_ne (by omega)
set_option maxRecDepth 100000 in
set_option maxHeartbeats 4000000 in
theorem k_X10_skipBlanks {l : Launch} {E : zE} {μ : zM} (hn : 0 ≤ μ 47 0 ∧ μ 47 0 ≤ 300) (ha : 0 ≤ μ 47 5 ∧ μ 47 5 ≤ μ 47 0) : Ct l E yX10_skipBlanks cX10_skipBlanks 2 none ({ frames := 1, cells := 0, slots := 0, locals := 21 }) [zR 47] μ (fun r ν => r = none ∧ ν = zup μ 47 5 (zen zpB (μ 110) (μ 47 0) (μ 47 5))) := by
  refine Ct.of RX10 [zR 47, zU] (by decide +kernel) rfl ⟨rfl, rfl⟩ rfl (Nat.le_of_ble_eq_true rfl) (fun X hX hc0 ha0 => ?_)
  subst hX
  have L : ∀ (k : Nat) (i : Nat), (i : Int) ≤ 300 → (∀ j, μ 47 5 ≤ j → j < μ 47 5 + (i : Int) → zpB (zby (μ 110) (μ 47 0) j)) → 300 - (i : Int) < k → MW X E cX10_skipBlanks RX10 ({ frames := 1, cells := 0, slots := 0, locals := 21 }) none (fun r ν => r = none ∧ ν = zup μ 47 5 (zen zpB (μ 110) (μ 47 0) (μ 47 5))) 2 [zR 47, zI (i : Int)] [] (zup μ 47 5 (μ 47 5 + (i : Int))) := by
    intro k
    induction k with
    | zero => intro i hi hb h3; omega
    | succ k ih =>
      intro i hi hb h3
      have e0 : (zup μ 47 5 (μ 47 5 + (i : Int))) 47 0 = μ 47 0 := zup_ne (Or.inr (by decide))
      have e110 : (zup μ 47 5 (μ 47 5 + (i : Int))) 110 = μ 110 := zup_row (by decide)
      refine z_iload_1 dX10_skipBlanks_2 ?_
      refine z_sipush dX10_skipBlanks_3 (by decide) ?_
      refine z_icmpge (tgt := 38) dX10_skipBlanks_6 (by decide) (fun h_6 => ?_) (fun h_6 => ?_)
      · exact z_vret dX10_skipBlanks_38 (⟨rfl, by rw [← zen_e zpB_n hn.2 ha.1 ⟨by omega, fun j j0 j1 => hb j j0 j1, (by unfold zby; rw [if_neg (by omega)]; exact zpB_n)⟩]⟩)
      · refine z_aload_0 dX10_skipBlanks_9 ?_
        refine z_aload_0 dX10_skipBlanks_10 ?_
        refine z_getI 5 rfl f_X10_36 zl_47 rfl dX10_skipBlanks_11 ?_
        rw [zup_eq]
        refine z_callV1 (k_X10_byteAt (by rw [e0]; exact hn) (by omega)) m_X10_byteAt zl_47 l_X10_55 (Nat.le_of_ble_eq_true rfl) ⟨Nat.le_of_ble_eq_true rfl, Nat.le_of_ble_eq_true rfl⟩ ⟨rfl, rfl⟩ dX10_skipBlanks_14 (fun r μ1 hp => ?_)
        obtain ⟨rfl, hv⟩ := hp
        replace hv := hv.symm
        subst hv
        rw [e0, e110]
        refine z_bipush dX10_skipBlanks_17 (by decide) ?_
        refine z_icmpne (tgt := 38) dX10_skipBlanks_19 (by decide) (fun h_19 => ?_) (fun h_19 => ?_)
        · exact z_vret dX10_skipBlanks_38 (⟨rfl, by rw [← zen_e zpB_n hn.2 ha.1 ⟨by omega, fun j j0 j1 => hb j j0 j1, h_19⟩]⟩)
        · refine z_aload_0 dX10_skipBlanks_22 ?_
          refine z_dup dX10_skipBlanks_23 rfl ?_
          refine z_getI 5 rfl f_X10_36 zl_47 rfl dX10_skipBlanks_24 ?_
          rw [zup_eq]
          refine z_iconst dX10_skipBlanks_27 (by decide) ?_
          refine z_iadd dX10_skipBlanks_28 (by omega) ?_
          refine z_putI 5 rfl f_X10_36 p_10_5 zl_47 rfl rfl dX10_skipBlanks_29 ?_
          refine z_iinc_1 rfl dX10_skipBlanks_32 (by omega) ?_
          refine z_goto (tgt := 2) dX10_skipBlanks_35 (by decide) ?_
          have h_19 : zpB (zby (μ 110) (μ 47 0) (μ 47 5 + (i : Int))) := h_19
          rw [zup_up, show μ 47 5 + (i : Int) + 1 = μ 47 5 + ((i + 1 : Nat) : Int) by omega]
          exact ih (i + 1) (by omega) (fun j j0 j1 => by by_cases q : j = μ 47 5 + (i : Int); rw [q]; exact h_19; exact hb j j0 (by omega)) (by omega)
  refine z_iconst dX10_skipBlanks_0 (by decide) ?_
  refine z_istore_1 rfl dX10_skipBlanks_1 ?_
  have L0 := L 301 0 (by decide) (fun j j0 j1 => by omega) (by decide)
  rw [show μ 47 5 + ((0 : Nat) : Int) = μ 47 5 by omega, zup_id2] at L0
  exact L0
theorem zby_d {t : Int → Int} {n i : Int} (h : zpD (zby t n i)) : i < n ∧ zby t n i = t i ∧ 48 ≤ t i ∧ t i ≤ 57 := by
  unfold zby zpD at *
  by_cases q : i < n
  · rw [if_pos q] at h ⊢; exact ⟨q, rfl, h⟩
  · rw [if_neg q] at h; omega
theorem zby_l {t : Int → Int} {n i : Int} (h : zpL (zby t n i)) : i < n ∧ zby t n i = t i ∧ 97 ≤ t i ∧ t i ≤ 122 := by
  unfold zby zpL at *
  by_cases q : i < n
  · rw [if_pos q] at h ⊢; exact ⟨q, rfl, h⟩
  · rw [if_neg q] at h; omega
set_option maxRecDepth 100000 in
set_option maxHeartbeats 4000000 in
theorem k_X10_readNumber {l : Launch} {E : zE} {μ : zM} (hn : 0 ≤ μ 47 0 ∧ μ 47 0 ≤ 300) (ha : 0 ≤ μ 47 5 ∧ μ 47 5 ≤ μ 47 0) : Ct l E yX10_readNumber cX10_readNumber 4 (some .int) ({ frames := 1, cells := 0, slots := 0, locals := 21 }) [zR 47] μ (fun r ν => r = some (zI (if (zen zpD (μ 110) (μ 47 0) (μ 47 5)) - μ 47 5 = 1 ∨ (zen zpD (μ 110) (μ 47 0) (μ 47 5)) - μ 47 5 = 2 then znv (μ 110) (μ 47 5) (zen zpD (μ 110) (μ 47 0) (μ 47 5)) else -1)) ∧ ν = zup μ 47 5 (zen zpD (μ 110) (μ 47 0) (μ 47 5))) := by
  refine Ct.of RX10 [zR 47, zU, zU, zU] (by decide +kernel) rfl ⟨rfl, rfl⟩ rfl (Nat.le_of_ble_eq_true rfl) (fun X hX hc0 ha0 => ?_)
  subst hX
  have L : ∀ (k : Nat) (i : Nat) (v : Int), (i : Int) ≤ 300 → v = (if i = 0 then 0 else if i = 1 then μ 110 (μ 47 5) - 48 else 10 * (μ 110 (μ 47 5) - 48) + (μ 110 (μ 47 5 + 1) - 48)) → (∀ j, μ 47 5 ≤ j → j < μ 47 5 + (i : Int) → zpD (zby (μ 110) (μ 47 0) j)) → 300 - (i : Int) < k → MW X E cX10_readNumber RX10 ({ frames := 1, cells := 0, slots := 0, locals := 21 }) (some .int) (fun r ν => r = some (zI (if (zen zpD (μ 110) (μ 47 0) (μ 47 5)) - μ 47 5 = 1 ∨ (zen zpD (μ 110) (μ 47 0) (μ 47 5)) - μ 47 5 = 2 then znv (μ 110) (μ 47 5) (zen zpD (μ 110) (μ 47 0) (μ 47 5)) else -1)) ∧ ν = zup μ 47 5 (zen zpD (μ 110) (μ 47 0) (μ 47 5))) 6 [zR 47, zI (i : Int), zI v, zI (i : Int)] [] (zup μ 47 5 (μ 47 5 + (i : Int))) := by
    intro k
    induction k with
    | zero => intro i v hi hv hb h3; omega
    | succ k ih =>
      intro i v hi hv hb h3
      have e0 : (zup μ 47 5 (μ 47 5 + (i : Int))) 47 0 = μ 47 0 := zup_ne (Or.inr (by decide))
      have e110 : (zup μ 47 5 (μ 47 5 + (i : Int))) 110 = μ 110 := zup_row (by decide)
      have J84 : ¬ zpD (zby (μ 110) (μ 47 0) (μ 47 5 + (i : Int))) → MW X E cX10_readNumber RX10 ({ frames := 1, cells := 0, slots := 0, locals := 21 }) (some .int) (fun r ν => r = some (zI (if (zen zpD (μ 110) (μ 47 0) (μ 47 5)) - μ 47 5 = 1 ∨ (zen zpD (μ 110) (μ 47 0) (μ 47 5)) - μ 47 5 = 2 then znv (μ 110) (μ 47 5) (zen zpD (μ 110) (μ 47 0) (μ 47 5)) else -1)) ∧ ν = zup μ 47 5 (zen zpD (μ 110) (μ 47 0) (μ 47 5))) 84 [zR 47, zI (i : Int), zI v, zI (i : Int)] [] (zup μ 47 5 (μ 47 5 + (i : Int))) := by
        intro hnd
        have hE := zen_e zpD_n hn.2 ha.1 ⟨by omega, hb, hnd⟩
        refine z_iload_1 dX10_readNumber_84 ?_
        refine z_iconst dX10_readNumber_85 (by decide) ?_
        refine z_icmpeq (tgt := 94) dX10_readNumber_86 (by decide) (fun h_86 => ?_) (fun h_86 => ?_)
        · refine z_iload_2 dX10_readNumber_94 ?_
          refine z_goto (tgt := 99) dX10_readNumber_95 (by decide) ?_
          exact z_iret dX10_readNumber_99 (⟨congrArg (fun z => (some (zI z) : Option zAV)) (by
              rw [← hE]
              rw [if_pos (Or.inl (by omega))]; unfold znv; rw [if_pos (by omega), hv, if_neg (by omega), if_pos (by omega)]), by rw [← hE]⟩)
        · refine z_iload_1 dX10_readNumber_89 ?_
          refine z_iconst dX10_readNumber_90 (by decide) ?_
          refine z_icmpne (tgt := 98) dX10_readNumber_91 (by decide) (fun h_91 => ?_) (fun h_91 => ?_)
          · refine z_iconst dX10_readNumber_98 (by decide) ?_
            exact z_iret dX10_readNumber_99 (⟨congrArg (fun z => (some (zI z) : Option zAV)) (by
                rw [← hE]
                rw [if_neg (by omega)]), by rw [← hE]⟩)
          · refine z_iload_2 dX10_readNumber_94 ?_
            refine z_goto (tgt := 99) dX10_readNumber_95 (by decide) ?_
            exact z_iret dX10_readNumber_99 (⟨congrArg (fun z => (some (zI z) : Option zAV)) (by
                rw [← hE]
                rw [if_pos (Or.inr (by omega))]; unfold znv; rw [if_neg (by omega), hv, if_neg (by omega), if_neg (by omega)]), by rw [← hE]⟩)
      refine z_iload_3 dX10_readNumber_6 ?_
      refine z_sipush dX10_readNumber_7 (by decide) ?_
      refine z_icmpge (tgt := 84) dX10_readNumber_10 (by decide) (fun h_10 => ?_) (fun h_10 => ?_)
      · exact J84 (by unfold zby; rw [if_neg (by omega)]; exact zpD_n)
      · refine z_aload_0 dX10_readNumber_13 ?_
        refine z_aload_0 dX10_readNumber_14 ?_
        refine z_getI 5 rfl f_X10_36 zl_47 rfl dX10_readNumber_15 ?_
        rw [zup_eq]
        refine z_callV1 (k_X10_byteAt (by rw [e0]; exact hn) (by omega)) m_X10_byteAt zl_47 l_X10_55 (Nat.le_of_ble_eq_true rfl) ⟨Nat.le_of_ble_eq_true rfl, Nat.le_of_ble_eq_true rfl⟩ ⟨rfl, rfl⟩ dX10_readNumber_18 (fun r μ1 hp => ?_)
        obtain ⟨rfl, hv⟩ := hp
        replace hv := hv.symm
        subst hv
        rw [e0, e110]
        refine z_bipush dX10_readNumber_21 (by decide) ?_
        refine z_icmplt (tgt := 84) dX10_readNumber_23 (by decide) (fun h_23 => ?_) (fun h_23 => ?_)
        · exact J84 (fun q => by have := q.1; omega)
        · refine z_aload_0 dX10_readNumber_26 ?_
          refine z_aload_0 dX10_readNumber_27 ?_
          refine z_getI 5 rfl f_X10_36 zl_47 rfl dX10_readNumber_28 ?_
          rw [zup_eq]
          refine z_callV1 (k_X10_byteAt (by rw [e0]; exact hn) (by omega)) m_X10_byteAt zl_47 l_X10_55 (Nat.le_of_ble_eq_true rfl) ⟨Nat.le_of_ble_eq_true rfl, Nat.le_of_ble_eq_true rfl⟩ ⟨rfl, rfl⟩ dX10_readNumber_31 (fun r μ1 hp => ?_)
          obtain ⟨rfl, hv⟩ := hp
          replace hv := hv.symm
          subst hv
          rw [e0, e110]
          refine z_bipush dX10_readNumber_34 (by decide) ?_
          refine z_icmpgt (tgt := 84) dX10_readNumber_36 (by decide) (fun h_36 => ?_) (fun h_36 => ?_)
          · exact J84 (fun q => by have := q.2; omega)
          · refine z_iload_1 dX10_readNumber_39 ?_
            refine z_iconst dX10_readNumber_40 (by decide) ?_
            refine z_icmpge (tgt := 63) dX10_readNumber_41 (by decide) (fun h_41 => ?_) (fun h_41 => ?_)
            · refine z_iload_2 dX10_readNumber_63 ?_
              refine z_istore_2 rfl dX10_readNumber_64 ?_
              refine z_iinc_1 rfl dX10_readNumber_65 (by omega) ?_
              refine z_aload_0 dX10_readNumber_68 ?_
              refine z_dup dX10_readNumber_69 rfl ?_
              refine z_getI 5 rfl f_X10_36 zl_47 rfl dX10_readNumber_70 ?_
              rw [zup_eq]
              refine z_iconst dX10_readNumber_73 (by decide) ?_
              refine z_iadd dX10_readNumber_74 (by omega) ?_
              refine z_putI 5 rfl f_X10_36 p_10_5 zl_47 rfl rfl dX10_readNumber_75 ?_
              refine z_iinc_3 rfl dX10_readNumber_78 (by omega) ?_
              refine z_goto (tgt := 6) dX10_readNumber_81 (by decide) ?_
              have hd : zpD (zby (μ 110) (μ 47 0) (μ 47 5 + (i : Int))) := ⟨by omega, by omega⟩
              obtain ⟨d1, d2, d3, d4⟩ := zby_d hd
              have h0d : 0 < i → 48 ≤ μ 110 (μ 47 5) ∧ μ 110 (μ 47 5) ≤ 57 := fun q => (zby_d (hb (μ 47 5) (by omega) (by omega))).2.2
              rw [zup_up, show μ 47 5 + (i : Int) + 1 = μ 47 5 + ((i + 1 : Nat) : Int) by omega]
              refine ih (i + 1) v (by omega) ?_ (fun j j0 j1 => by by_cases q : j = μ 47 5 + (i : Int); rw [q]; exact hd; exact hb j j0 (by omega)) (by omega)
              rw [hv, if_neg (by omega), if_neg (by omega), if_neg (by omega), if_neg (by omega)]
            · have hvb : 0 ≤ v ∧ v ≤ 100 := by
                rcases (by omega : i = 0 ∨ i = 1) with q | q
                · subst q; rw [hv, if_pos rfl]; decide
                · subst q
                  rw [hv, if_neg (by decide), if_pos rfl]
                  have := (zby_d (hb (μ 47 5) (by omega) (by omega))).2.2
                  omega
              have hd0 : zpD (zby (μ 110) (μ 47 0) (μ 47 5 + (i : Int))) := ⟨by omega, by omega⟩
              have hd9 := hd0.1
              have hd8 := hd0.2
              refine z_bipush dX10_readNumber_44 (by decide) ?_
              refine z_iload_2 dX10_readNumber_46 ?_
              refine z_imul dX10_readNumber_47 (by omega) ?_
              refine z_aload_0 dX10_readNumber_48 ?_
              refine z_aload_0 dX10_readNumber_49 ?_
              refine z_getI 5 rfl f_X10_36 zl_47 rfl dX10_readNumber_50 ?_
              rw [zup_eq]
              refine z_callV1 (k_X10_byteAt (by rw [e0]; exact hn) (by omega)) m_X10_byteAt zl_47 l_X10_55 (Nat.le_of_ble_eq_true rfl) ⟨Nat.le_of_ble_eq_true rfl, Nat.le_of_ble_eq_true rfl⟩ ⟨rfl, rfl⟩ dX10_readNumber_53 (fun r μ1 hp => ?_)
              obtain ⟨rfl, hv⟩ := hp
              replace hv := hv.symm
              subst hv
              rw [e0, e110]
              refine z_iadd dX10_readNumber_56 (by omega) ?_
              refine z_bipush dX10_readNumber_57 (by decide) ?_
              refine z_isub dX10_readNumber_59 (by omega) ?_
              refine z_goto (tgt := 64) dX10_readNumber_60 (by decide) ?_
              refine z_istore_2 rfl dX10_readNumber_64 ?_
              refine z_iinc_1 rfl dX10_readNumber_65 (by omega) ?_
              refine z_aload_0 dX10_readNumber_68 ?_
              refine z_dup dX10_readNumber_69 rfl ?_
              refine z_getI 5 rfl f_X10_36 zl_47 rfl dX10_readNumber_70 ?_
              rw [zup_eq]
              refine z_iconst dX10_readNumber_73 (by decide) ?_
              refine z_iadd dX10_readNumber_74 (by omega) ?_
              refine z_putI 5 rfl f_X10_36 p_10_5 zl_47 rfl rfl dX10_readNumber_75 ?_
              refine z_iinc_3 rfl dX10_readNumber_78 (by omega) ?_
              refine z_goto (tgt := 6) dX10_readNumber_81 (by decide) ?_
              have hd : zpD (zby (μ 110) (μ 47 0) (μ 47 5 + (i : Int))) := ⟨by omega, by omega⟩
              obtain ⟨d1, d2, d3, d4⟩ := zby_d hd
              have h0d : 0 < i → 48 ≤ μ 110 (μ 47 5) ∧ μ 110 (μ 47 5) ≤ 57 := fun q => (zby_d (hb (μ 47 5) (by omega) (by omega))).2.2
              rw [zup_up, show μ 47 5 + (i : Int) + 1 = μ 47 5 + ((i + 1 : Nat) : Int) by omega]
              refine ih (i + 1) (10 * v + zby (μ 110) (μ 47 0) (μ 47 5 + (i : Int)) - 48) (by omega) ?_ (fun j j0 j1 => by by_cases q : j = μ 47 5 + (i : Int); rw [q]; exact hd; exact hb j j0 (by omega)) (by omega)
              rcases (by omega : i = 0 ∨ i = 1) with q | q
              · subst q
                rw [hv, d2, if_pos rfl, if_neg (by decide), if_pos (by decide), show μ 47 5 + ((0 : Nat) : Int) = μ 47 5 by omega]
                omega
              · subst q
                rw [hv, d2, if_neg (by decide), if_pos rfl, if_neg (by decide), if_neg (by decide), show μ 47 5 + ((1 : Nat) : Int) = μ 47 5 + 1 by omega]
                omega
  refine z_iconst dX10_readNumber_0 (by decide) ?_
  refine z_istore_1 rfl dX10_readNumber_1 ?_
  refine z_iconst dX10_readNumber_2 (by decide) ?_
  refine z_istore_2 rfl dX10_readNumber_3 ?_
  refine z_iconst dX10_readNumber_4 (by decide) ?_
  refine z_istore_3 rfl dX10_readNumber_5 ?_
  have L0 := L 301 0 0 (by decide) rfl (fun j j0 j1 => by omega) (by decide)
  rw [show μ 47 5 + ((0 : Nat) : Int) = μ 47 5 by omega, zup_id2] at L0
  exact L0
