set_option maxRecDepth 100000 in
set_option maxHeartbeats 4000000 in
theorem k_X10_isSame {l : Launch} {E : zE} {μ : zM} {a : Int} {f e : Nat} (hn : 0 ≤ μ 47 0 ∧ μ 47 0 ≤ 300) (ha : 0 ≤ a ∧ a ≤ μ 47 5 ∧ μ 47 5 ≤ μ 47 0) (hfe : f ≤ e) (he : e < 65) : Ct l E yX10_isSame cX10_isSame 5 (some .boolean) ({ frames := 4, cells := 0, slots := 0, locals := 131 }) [zR 47, zI a, zI (f : Int), zI (e : Int)] μ (fun r ν => r = some (zI (zb (zSm (μ 110) a (μ 47 5 - a).toNat f e))) ∧ ν = μ) := by
  refine Ct.of RX10 [zR 47, zI a, zI (f : Int), zI (e : Int), zU] (by decide +kernel) rfl ⟨rfl, rfl⟩ rfl (Nat.le_of_ble_eq_true rfl) (fun X hX hc0 ha0 => ?_)
  subst hX
  refine z_aload_0 dX10_isSame_0 ?_
  refine z_getI 5 rfl f_X10_36 zl_47 rfl dX10_isSame_1 ?_
  refine z_iload_1 dX10_isSame_4 ?_
  refine z_isub dX10_isSame_5 (by omega) ?_
  refine z_iload_3 dX10_isSame_6 ?_
  refine z_iload_2 dX10_isSame_7 ?_
  refine z_isub dX10_isSame_8 (by omega) ?_
  refine z_icmpeq (tgt := 14) dX10_isSame_9 (by decide) (fun h_9 => ?_) (fun h_9 => ?_)
  · refine z_iload_2 dX10_isSame_14 ?_
    refine z_istore_4 rfl dX10_isSame_15 ?_
    have L : ∀ (k : Nat) (i : Nat) (p : Int), p = (i : Int) → f ≤ i → i ≤ e → (∀ j : Nat, f ≤ j → j < i → μ 110 (a + ((j : Int) - (f : Int))) = zwt j) → e - i < k → MW X E cX10_isSame RX10 ({ frames := 4, cells := 0, slots := 0, locals := 131 }) (some .boolean) (fun r ν => r = some (zI (zb (zSm (μ 110) a (μ 47 5 - a).toNat f e))) ∧ ν = μ) 17 [zR 47, zI a, zI (f : Int), zI (e : Int), zI p] [] μ := by
      intro k
      induction k with
      | zero => intro i p hp h1 h2 hall h3; omega
      | succ k ih =>
        intro i p hp h1 h2 hall h3
        refine z_iload_4 dX10_isSame_17 ?_
        refine z_iload_3 dX10_isSame_19 ?_
        refine z_icmpge (tgt := 52) dX10_isSame_20 (by decide) (fun h_20 => ?_) (fun h_20 => ?_)
        · refine z_iconst dX10_isSame_52 (by decide) ?_
          exact z_zret (by decide) dX10_isSame_53 (zb_r ⟨by omega, fun j j0 j1 => hall j j0 (by omega)⟩ rfl)
        · refine z_aload_0 dX10_isSame_23 ?_
          refine z_getF 110 63 rfl f_X10_27 zl_47 rfl rfl dX10_isSame_24 ?_
          refine z_iload_1 dX10_isSame_27 ?_
          refine z_iload_4 dX10_isSame_28 ?_
          refine z_iadd dX10_isSame_30 (by omega) ?_
          refine z_iload_2 dX10_isSame_31 ?_
          refine z_isub dX10_isSame_32 (by omega) ?_
          subst hp
          refine z_iald zl_110 (by omega) (by omega) dX10_isSame_33 ?_
          rw [show a + (i : Int) - (f : Int) = a + ((i : Int) - (f : Int)) by omega]
          refine z_ldcS rfl dX10_isSame_34 ?_
          refine z_iload_4 dX10_isSame_36 ?_
          refine z_callW1 (k_J0_charAt_5068e (i := (i : Int)) ⟨by omega, by omega⟩) m_J0_charAt_5068e l_X10_65 (Nat.le_of_ble_eq_true rfl) ⟨Nat.le_of_ble_eq_true rfl, Nat.le_of_ble_eq_true rfl⟩ ⟨rfl, rfl⟩ dX10_isSame_38 (fun r μ1 hp => ?_)
          obtain ⟨rfl, hv⟩ := hp
          replace hv := hv.symm
          subst hv
          rw [Int.toNat_natCast]
          refine z_icmpeq (tgt := 46) dX10_isSame_41 (by decide) (fun h_41 => ?_) (fun h_41 => ?_)
          · refine z_iinc_4 rfl dX10_isSame_46 (by omega) ?_
            refine z_goto (tgt := 17) dX10_isSame_49 (by decide) ?_
            exact ih (i + 1) _ (by omega) (by omega) (by omega) (fun j j0 j1 => by by_cases q : j = i; rw [q]; exact h_41; exact hall j j0 (by omega)) (by omega)
          · refine z_iconst dX10_isSame_44 (by decide) ?_
            exact z_zret (by decide) dX10_isSame_45 (zb_r0 (fun q => h_41 (q.2 i (by omega) (by omega))) rfl)
    exact L 66 f _ rfl (Nat.le_refl _) hfe (fun j j0 j1 => by omega) (by omega)
  · refine z_iconst dX10_isSame_12 (by decide) ?_
    exact z_zret (by decide) dX10_isSame_13 (zb_r0 (fun q => h_9 (by have := q.1; omega)) rfl)
set_option maxRecDepth 100000 in
set_option maxHeartbeats 4000000 in
theorem k_X10_readWord {l : Launch} {E : zE} {μ : zM} (hn : 0 ≤ μ 47 0 ∧ μ 47 0 ≤ 300) (ha : 0 ≤ μ 47 5 ∧ μ 47 5 ≤ μ 47 0) : Ct l E yX10_readWord cX10_readWord 5 (some .int) ({ frames := 5, cells := 0, slots := 0, locals := 155 }) [zR 47] μ (fun r ν => r = some (zI (zwv (zcd (μ 110) (μ 47 5) ((zen zpL (μ 110) (μ 47 0) (μ 47 5)) - μ 47 5).toNat))) ∧ ν = zup μ 47 5 (zen zpL (μ 110) (μ 47 0) (μ 47 5))) := by
  refine Ct.of RX10 [zR 47, zU, zU, zU, zU] (by decide +kernel) rfl ⟨rfl, rfl⟩ rfl (Nat.le_of_ble_eq_true rfl) (fun X hX hc0 ha0 => ?_)
  subst hX
  have e0 : (zup μ 47 5 (zen zpL (μ 110) (μ 47 0) (μ 47 5))) 47 0 = μ 47 0 := zup_ne (Or.inr (by decide))
  have e110 : (zup μ 47 5 (zen zpL (μ 110) (μ 47 0) (μ 47 5))) 110 = μ 110 := zup_row (by decide)
  have eb := zen_b (t := μ 110) zpL_n hn.2 ha.1 ha.2
  have er := zen_r (t := μ 110) (n := μ 47 0) (a := μ 47 5) zpL_n hn.2 ha.1
  have hlet : ∀ j : Nat, j < ((zen zpL (μ 110) (μ 47 0) (μ 47 5)) - μ 47 5).toNat → 1 ≤ μ 110 (μ 47 5 + (j : Int)) - 96 ∧ μ 110 (μ 47 5 + (j : Int)) - 96 ≤ 26 := fun j hj => by
    have := (zby_l (er.2.1 (μ 47 5 + (j : Int)) (by omega) (by omega))).2.2
    omega
  have L2 : ∀ (k : Nat) (i : Nat) (v b p : Int), p = (i : Int) → v = ((zws9 i).1 : Int) → b = ((zws9 i).2 : Int) → i ≤ 65 → (∀ j : Nat, j < i → zwt j = 32 → ¬ zSm (μ 110) (μ 47 5) ((zen zpL (μ 110) (μ 47 0) (μ 47 5)) - μ 47 5).toNat (zws9 j).2 j) → 65 - i < k → MW X E cX10_readWord RX10 ({ frames := 5, cells := 0, slots := 0, locals := 155 }) (some .int) (fun r ν => r = some (zI (zwv (zcd (μ 110) (μ 47 5) ((zen zpL (μ 110) (μ 47 0) (μ 47 5)) - μ 47 5).toNat))) ∧ ν = zup μ 47 5 (zen zpL (μ 110) (μ 47 0) (μ 47 5))) 63 [zR 47, zI (μ 47 5), zI v, zI b, zI p] [] (zup μ 47 5 (zen zpL (μ 110) (μ 47 0) (μ 47 5))) := by
    intro k
    induction k with
    | zero => intro i v b p hp hvv hbb h1 hno h3; omega
    | succ k ih =>
      intro i v b p hp hvv hbb h1 hno h3
      have z9 := zws9_b i (by omega)
      refine z_iload_4 dX10_readWord_63 ?_
      refine z_ldcS rfl dX10_readWord_65 ?_
      refine z_callW0 (k_J0_length_8abf5) m_J0_length_8abf5 l_X10_61 (Nat.le_of_ble_eq_true rfl) ⟨Nat.le_of_ble_eq_true rfl, Nat.le_of_ble_eq_true rfl⟩ ⟨rfl, rfl⟩ dX10_readWord_67 (fun r μ1 hp => ?_)
      obtain ⟨rfl, hv⟩ := hp
      replace hv := hv.symm
      subst hv
      subst hp
      refine z_icmpge (tgt := 112) dX10_readWord_70 (by decide) (fun h_70 => ?_) (fun h_70 => ?_)
      · refine z_iconst dX10_readWord_112 (by decide) ?_
        exact z_iret dX10_readWord_113 (⟨congrArg (fun z => (some (zI z) : Option zAV)) (zwv_no hlet (fun j j0 j1 => hno j (by omega) j1)).symm, rfl⟩)
      · refine z_ldcS rfl dX10_readWord_73 ?_
        refine z_iload_4 dX10_readWord_75 ?_
        refine z_callW1 (k_J0_charAt_5068e (i := (i : Int)) ⟨by omega, by omega⟩) m_J0_charAt_5068e l_X10_65 (Nat.le_of_ble_eq_true rfl) ⟨Nat.le_of_ble_eq_true rfl, Nat.le_of_ble_eq_true rfl⟩ ⟨rfl, rfl⟩ dX10_readWord_77 (fun r μ1 hp => ?_)
        obtain ⟨rfl, hv⟩ := hp
        replace hv := hv.symm
        subst hv
        rw [Int.toNat_natCast]
        refine z_bipush dX10_readWord_80 (by decide) ?_
        refine z_icmpne (tgt := 106) dX10_readWord_82 (by decide) (fun h_82 => ?_) (fun h_82 => ?_)
        · replace h_82 : zwt i ≠ 32 := by omega
          refine z_iinc_4 rfl dX10_readWord_106 (by omega) ?_
          refine z_goto (tgt := 63) dX10_readWord_109 (by decide) ?_
          exact ih (i + 1) _ _ _ (by omega) (by rw [zws9_s, if_neg h_82]; exact hvv) (by rw [zws9_s, if_neg h_82]; exact hbb) (by omega) (fun j j0 j1 => by by_cases q : j = i; exact absurd (q ▸ j1) h_82; exact hno j (by omega) j1) (by omega)
        · replace h_82 : zwt i = 32 := by omega
          subst hvv
          subst hbb
          refine z_aload_0 dX10_readWord_85 ?_
          refine z_iload_1 dX10_readWord_86 ?_
          refine z_iload_3 dX10_readWord_87 ?_
          refine z_iload_4 dX10_readWord_88 ?_
          refine z_callV3 (k_X10_isSame (f := (zws9 i).2) (e := i) (by rw [e0]; exact hn) ⟨ha.1, by rw [zup_eq]; exact eb.1, by rw [zup_eq, e0]; exact eb.2⟩ (zws9_b i (by omega)).2 (by omega)) m_X10_isSame zl_47 l_X10_69 (Nat.le_of_ble_eq_true rfl) ⟨Nat.le_of_ble_eq_true rfl, Nat.le_of_ble_eq_true rfl⟩ ⟨rfl, rfl⟩ dX10_readWord_90 (fun r μ1 hp => ?_)
          obtain ⟨rfl, hv⟩ := hp
          replace hv := hv.symm
          subst hv
          rw [zup_eq, e110]
          refine z_ifeq (tgt := 98) dX10_readWord_93 (by decide) (fun h_93 => ?_) (fun h_93 => ?_)
          · replace h_93 := zb_0.mp h_93
            refine z_iinc_2 rfl dX10_readWord_98 (by omega) ?_
            refine z_iload_4 dX10_readWord_101 ?_
            refine z_iconst dX10_readWord_103 (by decide) ?_
            refine z_iadd dX10_readWord_104 (by omega) ?_
            refine z_istore_3 rfl dX10_readWord_105 ?_
            refine z_iinc_4 rfl dX10_readWord_106 (by omega) ?_
            refine z_goto (tgt := 63) dX10_readWord_109 (by decide) ?_
            exact ih (i + 1) _ _ _ (by omega) (by rw [zws9_s, if_pos h_82]; rfl) (by rw [zws9_s, if_pos h_82]; rfl) (by omega) (fun j j0 j1 => by by_cases q : j = i; rw [q]; exact h_93; exact hno j (by omega) j1) (by omega)
          · replace h_93 := zb_n.mp h_93
            refine z_iload_2 dX10_readWord_96 ?_
            exact z_iret dX10_readWord_97 (⟨congrArg (fun z => (some (zI z) : Option zAV)) (zwv_of (by omega) h_82 hlet h_93).symm, rfl⟩)
  have J56 : ∀ x : Int, MW X E cX10_readWord RX10 ({ frames := 5, cells := 0, slots := 0, locals := 155 }) (some .int) (fun r ν => r = some (zI (zwv (zcd (μ 110) (μ 47 5) ((zen zpL (μ 110) (μ 47 0) (μ 47 5)) - μ 47 5).toNat))) ∧ ν = zup μ 47 5 (zen zpL (μ 110) (μ 47 0) (μ 47 5))) 56 [zR 47, zI (μ 47 5), zI x, zU, zU] [] (zup μ 47 5 (zen zpL (μ 110) (μ 47 0) (μ 47 5))) := by
    intro x
    refine z_iconst dX10_readWord_56 (by decide) ?_
    refine z_istore_2 rfl dX10_readWord_57 ?_
    refine z_iconst dX10_readWord_58 (by decide) ?_
    refine z_istore_3 rfl dX10_readWord_59 ?_
    refine z_iconst dX10_readWord_60 (by decide) ?_
    refine z_istore_4 rfl dX10_readWord_61 ?_
    exact L2 66 0 0 0 0 rfl rfl rfl (by decide) (fun j j0 j1 => by omega) (by decide)
  have L1 : ∀ (k : Nat) (i : Nat), (i : Int) ≤ 300 → (∀ j, μ 47 5 ≤ j → j < μ 47 5 + (i : Int) → zpL (zby (μ 110) (μ 47 0) j)) → 300 - (i : Int) < k → MW X E cX10_readWord RX10 ({ frames := 5, cells := 0, slots := 0, locals := 155 }) (some .int) (fun r ν => r = some (zI (zwv (zcd (μ 110) (μ 47 5) ((zen zpL (μ 110) (μ 47 0) (μ 47 5)) - μ 47 5).toNat))) ∧ ν = zup μ 47 5 (zen zpL (μ 110) (μ 47 0) (μ 47 5))) 7 [zR 47, zI (μ 47 5), zI (i : Int), zU, zU] [] (zup μ 47 5 (μ 47 5 + (i : Int))) := by
    intro k
    induction k with
    | zero => intro i hi hb h3; omega
    | succ k ih =>
      intro i hi hb h3
      have e0 : (zup μ 47 5 (μ 47 5 + (i : Int))) 47 0 = μ 47 0 := zup_ne (Or.inr (by decide))
      have e110 : (zup μ 47 5 (μ 47 5 + (i : Int))) 110 = μ 110 := zup_row (by decide)
      refine z_iload_2 dX10_readWord_7 ?_
      refine z_sipush dX10_readWord_8 (by decide) ?_
      refine z_icmpge (tgt := 56) dX10_readWord_11 (by decide) (fun h_11 => ?_) (fun h_11 => ?_)
      · have hE := zen_e zpL_n hn.2 ha.1 ⟨by omega, hb, (by unfold zby; rw [if_neg (by omega)]; exact zpL_n)⟩
        rw [hE]
        exact J56 _
      · refine z_aload_0 dX10_readWord_14 ?_
        refine z_aload_0 dX10_readWord_15 ?_
        refine z_getI 5 rfl f_X10_36 zl_47 rfl dX10_readWord_16 ?_
        rw [zup_eq]
        refine z_callV1 (k_X10_byteAt (by rw [e0]; exact hn) (by omega)) m_X10_byteAt zl_47 l_X10_55 (Nat.le_of_ble_eq_true rfl) ⟨Nat.le_of_ble_eq_true rfl, Nat.le_of_ble_eq_true rfl⟩ ⟨rfl, rfl⟩ dX10_readWord_19 (fun r μ1 hp => ?_)
        obtain ⟨rfl, hv⟩ := hp
        replace hv := hv.symm
        subst hv
        rw [e0, e110]
        refine z_bipush dX10_readWord_22 (by decide) ?_
        refine z_icmplt (tgt := 56) dX10_readWord_24 (by decide) (fun h_24 => ?_) (fun h_24 => ?_)
        · have hE := zen_e zpL_n hn.2 ha.1 ⟨by omega, hb, (fun q => by have := q.1; omega)⟩
          rw [hE]
          exact J56 _
        · refine z_aload_0 dX10_readWord_27 ?_
          refine z_aload_0 dX10_readWord_28 ?_
          refine z_getI 5 rfl f_X10_36 zl_47 rfl dX10_readWord_29 ?_
          rw [zup_eq]
          refine z_callV1 (k_X10_byteAt (by rw [e0]; exact hn) (by omega)) m_X10_byteAt zl_47 l_X10_55 (Nat.le_of_ble_eq_true rfl) ⟨Nat.le_of_ble_eq_true rfl, Nat.le_of_ble_eq_true rfl⟩ ⟨rfl, rfl⟩ dX10_readWord_32 (fun r μ1 hp => ?_)
          obtain ⟨rfl, hv⟩ := hp
          replace hv := hv.symm
          subst hv
          rw [e0, e110]
          refine z_bipush dX10_readWord_35 (by decide) ?_
          refine z_icmpgt (tgt := 56) dX10_readWord_37 (by decide) (fun h_37 => ?_) (fun h_37 => ?_)
          · have hE := zen_e zpL_n hn.2 ha.1 ⟨by omega, hb, (fun q => by have := q.2; omega)⟩
            rw [hE]
            exact J56 _
          · refine z_aload_0 dX10_readWord_40 ?_
            refine z_dup dX10_readWord_41 rfl ?_
            refine z_getI 5 rfl f_X10_36 zl_47 rfl dX10_readWord_42 ?_
            rw [zup_eq]
            refine z_iconst dX10_readWord_45 (by decide) ?_
            refine z_iadd dX10_readWord_46 (by omega) ?_
            refine z_putI 5 rfl f_X10_36 p_10_5 zl_47 rfl rfl dX10_readWord_47 ?_
            refine z_iinc_2 rfl dX10_readWord_50 (by omega) ?_
            refine z_goto (tgt := 7) dX10_readWord_53 (by decide) ?_
            have hl : zpL (zby (μ 110) (μ 47 0) (μ 47 5 + (i : Int))) := ⟨by omega, by omega⟩
            have hll := zby_l hl
            rw [zup_up, show μ 47 5 + (i : Int) + 1 = μ 47 5 + ((i + 1 : Nat) : Int) by omega]
            exact ih (i + 1) (by omega) (fun j j0 j1 => by by_cases q : j = μ 47 5 + (i : Int); rw [q]; exact hl; exact hb j j0 (by omega)) (by omega)
  refine z_aload_0 dX10_readWord_0 ?_
  refine z_getI 5 rfl f_X10_36 zl_47 rfl dX10_readWord_1 ?_
  refine z_istore_1 rfl dX10_readWord_4 ?_
  refine z_iconst dX10_readWord_5 (by decide) ?_
  refine z_istore_2 rfl dX10_readWord_6 ?_
  have L0 := L1 301 0 (by decide) (fun j j0 j1 => by omega) (by decide)
  rw [show μ 47 5 + ((0 : Nat) : Int) = μ 47 5 by omega, zup_id2] at L0
  exact L0
