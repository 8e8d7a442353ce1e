theorem s_X10_49 : Cond.fieldLink RX10 49 RX10 "NUMBERS" "[I" ∈ LW := lw_m2 193 rfl rfl
theorem znum_cn : ∀ k : Nat, k < 12 → (zNum.getD k 0).toInt = zcn (k : Int) := by decide +kernel
theorem zl_tn : ∀ {m : Nat}, m < 60 → zl (50 + m) = (20, 5) := fun {m} h => (by decide +kernel : ∀ m : Nat, m < 60 → zl (50 + m) = (20, 5)) m h
theorem znv_b {t : Int → Int} {n p : Int} {i : Nat} (hn : n ≤ 300) (h0 : 0 ≤ zIs t n p i) (g : zIg t n p i) : 0 ≤ zIv t n p i ∧ zIv t n p i ≤ 99 := by
  have r := zen_r (t := t) (n := n) (a := zIs t n p i) zpD_n hn h0
  have e1 : zIe t n p (i + 1) = zen zpD t n (zIs t n p i) := rfl
  rw [← e1] at r
  have d0 := (zby_d (r.2.1 (zIs t n p i) (Int.le_refl _) (by unfold zIg at g; omega))).2.2
  unfold zIv znv
  by_cases q : zIe t n p (i + 1) - zIs t n p i = 1
  · rw [if_pos q]; omega
  · rw [if_neg q]
    have d1 := (zby_d (r.2.1 (zIs t n p i + 1) (by omega) (by unfold zIg at g; omega))).2.2
    omega
set_option maxRecDepth 100000 in
set_option maxHeartbeats 4000000 in
theorem k_X10_readItem {l : Launch} {E : zE} {μ : zM} {m : Nat} (hn : 0 ≤ μ 47 0 ∧ μ 47 0 ≤ 300) (ha : 0 ≤ μ 47 5 ∧ μ 47 5 ≤ μ 47 0) (hm : μ 47 1 = (m : Int)) (hm6 : m < 60) : Ct l E yX10_readItem cX10_readItem 5 (some .int) ({ frames := 6, cells := 0, slots := 0, locals := 179 }) [zR 47] μ (fun r ν => ∃ f : Int, r = some (zI f) ∧ zIf (μ 110) (μ 47 0) (μ 47 5) f ∧ (f = -1 → ν 47 5 = (zIs (μ 110) (μ 47 0) (μ 47 5) (zcn (zIw (μ 110) (μ 47 0) (μ 47 5))).toNat) + 1 ∧ ν 48 (m : Int) = (zIw (μ 110) (μ 47 0) (μ 47 5)) ∧ ∀ i : Nat, (i : Int) < zcn (zIw (μ 110) (μ 47 0) (μ 47 5)) → ν (50 + m) (i : Int) = zIv (μ 110) (μ 47 0) (μ 47 5) i) ∧ (∀ k, k ≠ 5 → ν 47 k = μ 47 k) ∧ (∀ j, j ≠ (m : Int) → ν 48 j = μ 48 j) ∧ (∀ x, x ≠ 47 → x ≠ 48 → x ≠ 50 + m → ν x = μ x)) := by
  refine Ct.of RX10 [zR 47, zU, zU, zU, zU] (by decide +kernel) rfl ⟨rfl, rfl⟩ rfl (Nat.le_of_ble_eq_true rfl) (fun X hX hc0 ha0 => ?_)
  subst hX
  refine z_aload_0 dX10_readItem_0 ?_
  refine z_getI 5 rfl f_X10_36 zl_47 rfl dX10_readItem_1 ?_
  refine z_istore_1 rfl dX10_readItem_4 ?_
  refine z_aload_0 dX10_readItem_5 ?_
  refine z_callV0 (k_X10_readWord hn ha) m_X10_readWord zl_47 l_X10_46 (Nat.le_of_ble_eq_true rfl) ⟨Nat.le_of_ble_eq_true rfl, Nat.le_of_ble_eq_true rfl⟩ ⟨rfl, rfl⟩ dX10_readItem_6 (fun r μ1 hp => ?_)
  obtain ⟨rfl, hv⟩ := hp
  rw [show (zwv (zcd (μ 110) (μ 47 5) (zen zpL (μ 110) (μ 47 0) (μ 47 5) - μ 47 5).toNat)) = (zIw (μ 110) (μ 47 0) (μ 47 5)) from rfl]
  obtain ⟨ξ0, hζ9⟩ : ∃ z, z = μ1 := ⟨_, rfl⟩
  subst hζ9
  have e5 : ξ0 47 5 = (zIe (μ 110) (μ 47 0) (μ 47 5) 0) := by rw [hv, zup_eq]; rfl
  have ek : ∀ k, k ≠ 5 → ξ0 47 k = μ 47 k := fun k q => by rw [hv, zup_ne (Or.inr q)]
  have ex : ∀ x, x ≠ 47 → ξ0 x = μ x := fun x q => by rw [hv, zup_row q]
  have e1 : ξ0 47 1 = (m : Int) := by rw [ek 1 (by decide)]; exact hm
  refine z_istore_2 rfl dX10_readItem_9 ?_
  refine z_iload_2 dX10_readItem_10 ?_
  refine z_iconst dX10_readItem_11 (by decide) ?_
  refine z_icmpeq (tgt := 24) dX10_readItem_12 (by decide) (fun h_12 => ?_) (fun h_12 => ?_)
  · refine z_iload_1 dX10_readItem_24 ?_
    exact z_iret dX10_readItem_25 (⟨μ 47 5, rfl, Or.inl ⟨h_12, rfl⟩, fun q => absurd q (by omega), ek, fun j _ => by rw [ex 48 (by decide)], fun x x1 _ _ => ex x x1⟩)
  · refine z_aload_0 dX10_readItem_15 ?_
    refine z_getI 1 rfl f_X10_15 zl_47 rfl dX10_readItem_16 ?_
    rw [e1]
    refine z_bipush dX10_readItem_19 (by decide) ?_
    refine z_icmplt (tgt := 26) dX10_readItem_21 (by decide) (fun h_21 => ?_) (fun h_21 => ?_)
    · refine z_aload_0 dX10_readItem_26 ?_
      refine z_getF 48 1 rfl f_X10_18 zl_47 rfl rfl dX10_readItem_27 ?_
      refine z_aload_0 dX10_readItem_30 ?_
      refine z_getI 1 rfl f_X10_15 zl_47 rfl dX10_readItem_31 ?_
      rw [e1]
      refine z_iload_2 dX10_readItem_34 ?_
      refine z_iast zl_48 (by omega) (by omega) dX10_readItem_35 ?_
      refine z_iconst dX10_readItem_36 (by decide) ?_
      refine z_istore_3 rfl dX10_readItem_37 ?_
      have hwb : -1 ≤ (zIw (μ 110) (μ 47 0) (μ 47 5)) ∧ (zIw (μ 110) (μ 47 0) (μ 47 5)) ≤ 11 := zwv_b
      have hw1 : (zIw (μ 110) (μ 47 0) (μ 47 5)) ≠ -1 := h_12
      have cb := zcn_b (w := (zIw (μ 110) (μ 47 0) (μ 47 5)))
      have L38 : ∀ (k : Nat) (i : Nat) (s p : Int) (ξ : zM), p = (i : Int) → (i : Int) ≤ zcn (zIw (μ 110) (μ 47 0) (μ 47 5)) → ξ 47 5 = (zIe (μ 110) (μ 47 0) (μ 47 5) i) → ξ 48 (m : Int) = (zIw (μ 110) (μ 47 0) (μ 47 5)) → (∀ j : Nat, j < i → ξ (50 + m) (j : Int) = zIv (μ 110) (μ 47 0) (μ 47 5) j) → (∀ j : Nat, j < i → zIg (μ 110) (μ 47 0) (μ 47 5) j) → (∀ k, k ≠ 5 → ξ 47 k = μ 47 k) → (∀ j, j ≠ (m : Int) → ξ 48 j = μ 48 j) → (∀ x, x ≠ 47 → x ≠ 48 → x ≠ 50 + m → ξ x = μ x) → 5 - i < k → MW X E cX10_readItem RX10 ({ frames := 6, cells := 0, slots := 0, locals := 179 }) (some .int) (fun r ν => ∃ f : Int, r = some (zI f) ∧ zIf (μ 110) (μ 47 0) (μ 47 5) f ∧ (f = -1 → ν 47 5 = (zIs (μ 110) (μ 47 0) (μ 47 5) (zcn (zIw (μ 110) (μ 47 0) (μ 47 5))).toNat) + 1 ∧ ν 48 (m : Int) = (zIw (μ 110) (μ 47 0) (μ 47 5)) ∧ ∀ i : Nat, (i : Int) < zcn (zIw (μ 110) (μ 47 0) (μ 47 5)) → ν (50 + m) (i : Int) = zIv (μ 110) (μ 47 0) (μ 47 5) i) ∧ (∀ k, k ≠ 5 → ν 47 k = μ 47 k) ∧ (∀ j, j ≠ (m : Int) → ν 48 j = μ 48 j) ∧ (∀ x, x ≠ 47 → x ≠ 48 → x ≠ 50 + m → ν x = μ x)) 38 [zR 47, zI s, zI (zIw (μ 110) (μ 47 0) (μ 47 5)), zI p, zU] [] ξ := by
        intro k
        induction k with
        | zero => intro i s p ξ hp0 hi h5 h48 hnu hg hk hj hx h3; omega
        | succ k ih =>
          intro i s p ξ hp0 hi h5 h48 hnu hg hk hj hx h3
          subst hp0
          have c0 : ξ 47 0 = μ 47 0 := hk 0 (by decide)
          have c110 : ξ 110 = μ 110 := hx 110 (by decide) (by decide) (by omega)
          have ieb := zIe_b (t := μ 110) hn.2 ha.1 ha.2 i
          have isb := zIs_b (t := μ 110) hn.2 ha.1 ha.2 i
          have ieb1 := zIe_b (t := μ 110) hn.2 ha.1 ha.2 (i + 1)
          refine z_iload_3 dX10_readItem_38 ?_
          refine z_getNum s_X10_49 dX10_readItem_39 ?_
          refine z_iload_2 dX10_readItem_42 ?_
          refine z_num (by omega) (by omega) dX10_readItem_43 ?_
          rw [show (zNum.getD (zIw (μ 110) (μ 47 0) (μ 47 5)).toNat 0).toInt = zcn (zIw (μ 110) (μ 47 0) (μ 47 5)) by have := znum_cn (zIw (μ 110) (μ 47 0) (μ 47 5)).toNat (by omega); rw [show (((zIw (μ 110) (μ 47 0) (μ 47 5)).toNat : Nat) : Int) = (zIw (μ 110) (μ 47 0) (μ 47 5)) by omega] at this; exact this]
          refine z_icmpge (tgt := 89) dX10_readItem_44 (by decide) (fun h_44 => ?_) (fun h_44 => ?_)
          · have c0 : ξ 47 0 = μ 47 0 := hk 0 (by decide)
            have c110 : ξ 110 = μ 110 := hx 110 (by decide) (by decide) (by omega)
            have ieb := zIe_b (t := μ 110) hn.2 ha.1 ha.2 i
            have isb := zIs_b (t := μ 110) hn.2 ha.1 ha.2 i
            have ieb1 := zIe_b (t := μ 110) hn.2 ha.1 ha.2 (i + 1)
            have hii : i = (zcn (zIw (μ 110) (μ 47 0) (μ 47 5))).toNat := by omega
            have hgg : ∀ j : Nat, (j : Int) < zcn (zIw (μ 110) (μ 47 0) (μ 47 5)) → zIg (μ 110) (μ 47 0) (μ 47 5) j := fun j q => hg j (by omega)
            refine z_aload_0 dX10_readItem_89 ?_
            refine z_callV0 (k_X10_skipBlanks (by rw [c0]; exact hn) (by rw [c0, h5]; omega)) m_X10_skipBlanks zl_47 l_X10_39 (Nat.le_of_ble_eq_true rfl) ⟨Nat.le_of_ble_eq_true rfl, Nat.le_of_ble_eq_true rfl⟩ ⟨rfl, rfl⟩ dX10_readItem_90 (fun r μ1 hp => ?_)
            rw [c110, c0, h5] at hp
            obtain ⟨rfl, hv⟩ := hp
            obtain ⟨ξ2, hζ9⟩ : ∃ z, z = μ1 := ⟨_, rfl⟩
            subst hζ9
            have d5 : ξ2 47 5 = (zIs (μ 110) (μ 47 0) (μ 47 5) i) := by rw [hv, zup_eq]; rfl
            have dk : ∀ k, k ≠ 5 → ξ2 47 k = μ 47 k := fun k q => by rw [hv, zup_ne (Or.inr q)]; exact hk k q
            have dx : ∀ x, x ≠ 47 → ξ2 x = ξ x := fun x q => by rw [hv, zup_row q]
            have d0 : ξ2 47 0 = μ 47 0 := dk 0 (by decide)
            have d110 : ξ2 110 = μ 110 := (dx 110 (by decide)).trans c110
            refine z_aload_0 dX10_readItem_93 ?_
            refine z_aload_0 dX10_readItem_94 ?_
            refine z_getI 5 rfl f_X10_36 zl_47 rfl dX10_readItem_95 ?_
            rw [d5]
            refine z_callV1 (k_X10_byteAt (by rw [d0]; exact hn) (by omega)) m_X10_byteAt zl_47 l_X10_55 (Nat.le_of_ble_eq_true rfl) ⟨Nat.le_of_ble_eq_true rfl, Nat.le_of_ble_eq_true rfl⟩ ⟨rfl, rfl⟩ dX10_readItem_98 (fun r μ1 hp => ?_)
            obtain ⟨rfl, hv⟩ := hp
            replace hv := hv.symm
            subst hv
            rw [d110, d0]
            refine z_bipush dX10_readItem_101 (by decide) ?_
            refine z_icmpeq (tgt := 111) dX10_readItem_103 (by decide) (fun h_103 => ?_) (fun h_103 => ?_)
            · refine z_aload_0 dX10_readItem_111 ?_
              refine z_dup dX10_readItem_112 rfl ?_
              refine z_getI 5 rfl f_X10_36 zl_47 rfl dX10_readItem_113 ?_
              rw [d5]
              refine z_iconst dX10_readItem_116 (by decide) ?_
              refine z_iadd dX10_readItem_117 (by omega) ?_
              refine z_putI 5 rfl f_X10_36 p_10_5 zl_47 rfl rfl dX10_readItem_118 ?_
              refine z_iconst dX10_readItem_121 (by decide) ?_
              exact z_iret dX10_readItem_122 (⟨-1, rfl, Or.inr ⟨hw1, Or.inr ⟨hgg, Or.inl ⟨by rw [← hii]; exact h_103, rfl⟩⟩⟩, fun _ => ⟨by rw [zup_eq, ← hii], by rw [zup_row (by decide), dx 48 (by decide)]; exact h48, fun j q => by rw [zup_row (by omega), dx (50 + m) (by omega)]; exact hnu j (by omega)⟩, fun k q => by rw [zup_ne (Or.inr q)]; exact dk k q, fun j q => by rw [zup_row (by decide), dx 48 (by decide)]; exact hj j q, fun x x1 x2 x3 => by rw [zup_row x1, dx x x1]; exact hx x x1 x2 x3⟩)
            · refine z_aload_0 dX10_readItem_106 ?_
              refine z_getI 5 rfl f_X10_36 zl_47 rfl dX10_readItem_107 ?_
              rw [d5]
              exact z_iret dX10_readItem_110 (⟨(zIs (μ 110) (μ 47 0) (μ 47 5) i), rfl, Or.inr ⟨hw1, Or.inr ⟨hgg, Or.inr ⟨by rw [← hii]; exact h_103, by rw [← hii]⟩⟩⟩, fun q => absurd q (by omega), dk, fun j q => by rw [dx 48 (by decide)]; exact hj j q, fun x x1 x2 x3 => by rw [dx x x1]; exact hx x x1 x2 x3⟩)
          · refine z_aload_0 dX10_readItem_47 ?_
            refine z_callV0 (k_X10_skipBlanks (by rw [c0]; exact hn) (by rw [c0, h5]; omega)) m_X10_skipBlanks zl_47 l_X10_39 (Nat.le_of_ble_eq_true rfl) ⟨Nat.le_of_ble_eq_true rfl, Nat.le_of_ble_eq_true rfl⟩ ⟨rfl, rfl⟩ dX10_readItem_48 (fun r μ1 hp => ?_)
            rw [c110, c0, h5] at hp
            obtain ⟨rfl, hv⟩ := hp
            obtain ⟨ξ2, hζ9⟩ : ∃ z, z = μ1 := ⟨_, rfl⟩
            subst hζ9
            have d5 : ξ2 47 5 = (zIs (μ 110) (μ 47 0) (μ 47 5) i) := by rw [hv, zup_eq]; rfl
            have dk : ∀ k, k ≠ 5 → ξ2 47 k = μ 47 k := fun k q => by rw [hv, zup_ne (Or.inr q)]; exact hk k q
            have dx : ∀ x, x ≠ 47 → ξ2 x = ξ x := fun x q => by rw [hv, zup_row q]
            have d0 : ξ2 47 0 = μ 47 0 := dk 0 (by decide)
            have d110 : ξ2 110 = μ 110 := (dx 110 (by decide)).trans c110
            refine z_aload_0 dX10_readItem_51 ?_
            refine z_getI 5 rfl f_X10_36 zl_47 rfl dX10_readItem_52 ?_
            rw [d5]
            refine z_istore_1 rfl dX10_readItem_55 ?_
            refine z_aload_0 dX10_readItem_56 ?_
            refine z_callV0 (k_X10_readNumber (by rw [d0]; exact hn) (by rw [d0, d5]; omega)) m_X10_readNumber zl_47 l_X10_52 (Nat.le_of_ble_eq_true rfl) ⟨Nat.le_of_ble_eq_true rfl, Nat.le_of_ble_eq_true rfl⟩ ⟨rfl, rfl⟩ dX10_readItem_57 (fun r μ1 hp => ?_)
            rw [d110, d0, d5] at hp
            obtain ⟨rfl, hv3⟩ := hp
            obtain ⟨ξ3, hζ9⟩ : ∃ z, z = μ1 := ⟨_, rfl⟩
            subst hζ9
            have hyg : zIg (μ 110) (μ 47 0) (μ 47 5) i → (if zen zpD (μ 110) (μ 47 0) (zIs (μ 110) (μ 47 0) (μ 47 5) i) - (zIs (μ 110) (μ 47 0) (μ 47 5) i) = 1 ∨ zen zpD (μ 110) (μ 47 0) (zIs (μ 110) (μ 47 0) (μ 47 5) i) - (zIs (μ 110) (μ 47 0) (μ 47 5) i) = 2 then znv (μ 110) (zIs (μ 110) (μ 47 0) (μ 47 5) i) (zen zpD (μ 110) (μ 47 0) (zIs (μ 110) (μ 47 0) (μ 47 5) i)) else -1) = zIv (μ 110) (μ 47 0) (μ 47 5) i := fun g => if_pos g
            have hyn : ¬ zIg (μ 110) (μ 47 0) (μ 47 5) i → (if zen zpD (μ 110) (μ 47 0) (zIs (μ 110) (μ 47 0) (μ 47 5) i) - (zIs (μ 110) (μ 47 0) (μ 47 5) i) = 1 ∨ zen zpD (μ 110) (μ 47 0) (zIs (μ 110) (μ 47 0) (μ 47 5) i) - (zIs (μ 110) (μ 47 0) (μ 47 5) i) = 2 then znv (μ 110) (zIs (μ 110) (μ 47 0) (μ 47 5) i) (zen zpD (μ 110) (μ 47 0) (zIs (μ 110) (μ 47 0) (μ 47 5) i)) else -1) = -1 := fun g => if_neg g
            generalize (if zen zpD (μ 110) (μ 47 0) (zIs (μ 110) (μ 47 0) (μ 47 5) i) - (zIs (μ 110) (μ 47 0) (μ 47 5) i) = 1 ∨ zen zpD (μ 110) (μ 47 0) (zIs (μ 110) (μ 47 0) (μ 47 5) i) - (zIs (μ 110) (μ 47 0) (μ 47 5) i) = 2 then znv (μ 110) (zIs (μ 110) (μ 47 0) (μ 47 5) i) (zen zpD (μ 110) (μ 47 0) (zIs (μ 110) (μ 47 0) (μ 47 5) i)) else -1) = y at hyg hyn ⊢
            have f5 : ξ3 47 5 = (zIe (μ 110) (μ 47 0) (μ 47 5) (i + 1)) := by rw [hv3, zup_eq]; rfl
            have fk : ∀ k, k ≠ 5 → ξ3 47 k = μ 47 k := fun k q => by rw [hv3, zup_ne (Or.inr q)]; exact dk k q
            have fx : ∀ x, x ≠ 47 → ξ3 x = ξ x := fun x q => by rw [hv3, zup_row q]; exact dx x q
            have f1 : ξ3 47 1 = (m : Int) := by rw [fk 1 (by decide)]; exact hm
            refine z_istore_4 rfl dX10_readItem_60 ?_
            refine z_iload_4 dX10_readItem_62 ?_
            refine z_iconst dX10_readItem_64 (by decide) ?_
            refine z_icmpne (tgt := 70) dX10_readItem_65 (by decide) (fun h_65 => ?_) (fun h_65 => ?_)
            · replace h_65 : zIg (μ 110) (μ 47 0) (μ 47 5) i := Classical.byContradiction (fun q => h_65 (hyn q))
              obtain rfl := hyg h_65
              refine z_aload_0 dX10_readItem_70 ?_
              refine z_getF 49 2 rfl f_X10_24 zl_47 rfl rfl dX10_readItem_71 ?_
              refine z_aload_0 dX10_readItem_74 ?_
              refine z_getI 1 rfl f_X10_15 zl_47 rfl dX10_readItem_75 ?_
              rw [f1]
              refine z_row (50 + m) (by omega) zl_49 (by omega) (by omega) dX10_readItem_78 ?_
              refine z_iload_3 dX10_readItem_79 ?_
              refine z_iload_4 dX10_readItem_80 ?_
              refine z_iast (zl_tn hm6) (by omega) (by omega) dX10_readItem_82 ?_
              refine z_iinc_3 rfl dX10_readItem_83 (by omega) ?_
              refine z_goto (tgt := 38) dX10_readItem_86 (by decide) ?_
              refine z_weak (ls' := [zR 47, zI (zIs (μ 110) (μ 47 0) (μ 47 5) i), zI (zIw (μ 110) (μ 47 0) (μ 47 5)), zI ((i : Int) + 1), zU]) ⟨Or.inl rfl, Or.inl rfl, Or.inl rfl, Or.inl rfl, Or.inr rfl, trivial⟩ ?_
              refine ih (i + 1) _ _ _ (by omega) (by omega) (by rw [zup_row (by omega)]; exact f5) (by rw [zup_row (by omega), fx 48 (by decide)]; exact h48) (fun j q => ?_) (fun j q => by by_cases e : j = i; rw [e]; exact h_65; exact hg j (by omega)) (fun k q => by rw [zup_row (by omega)]; exact fk k q) (fun j q => by rw [zup_row (by omega), fx 48 (by decide)]; exact hj j q) (fun x x1 x2 x3 => by rw [zup_row x3, fx x x1]; exact hx x x1 x2 x3) (by omega)
              by_cases e : j = i
              · rw [e, zup_eq]
              · rw [zup_ne (Or.inr (by omega)), fx (50 + m) (by omega)]; exact hnu j (by omega)
            · replace h_65 : ¬ zIg (μ 110) (μ 47 0) (μ 47 5) i := fun q => by have := hyg q; have := znv_b hn.2 (by omega) q; omega
              refine z_iload_1 dX10_readItem_68 ?_
              exact z_iret dX10_readItem_69 (⟨(zIs (μ 110) (μ 47 0) (μ 47 5) i), rfl, Or.inr ⟨hw1, Or.inl ⟨i, h_44, hg, h_65, rfl⟩⟩, fun q => absurd q (by omega), fk, fun j q => by rw [fx 48 (by decide)]; exact hj j q, fun x x1 x2 x3 => by rw [fx x x1]; exact hx x x1 x2 x3⟩)
      exact L38 6 0 _ 0 _ rfl (by omega) (by rw [zup_row (by decide)]; exact e5) zup_eq (fun j q => by omega) (fun j q => by omega) (fun k q => by rw [zup_row (by decide)]; exact ek k q) (fun j q => by rw [zup_ne (Or.inr q), ex 48 (by decide)]) (fun x x1 x2 x3 => by rw [zup_row x2, ex x x1]) (by decide)
    · exact absurd h_21 (by omega)
