set_option maxRecDepth 100000 in
set_option maxHeartbeats 4000000 in
theorem k_X10_read {l : Launch} {E : zE} {μ : zM} (hn : 0 ≤ μ 47 0 ∧ μ 47 0 ≤ 300) : Ct l E yX10_read cX10_read 3 (some .int) ({ frames := 7, cells := 0, slots := 0, locals := 203 }) [zR 47] μ (fun r ν => ∃ (k : Nat) (f : Int), zRd9 (μ 110) (μ 47 0) k f ∧ r = some (zI f) ∧ (f = -1 → ν 47 1 = (k : Int) ∧ (∀ j : Nat, j < k → ν 48 (j : Int) = (zIw (μ 110) (μ 47 0) (zps (μ 110) (μ 47 0) j)) ∧ ∀ i : Nat, (i : Int) < zcn (zIw (μ 110) (μ 47 0) (zps (μ 110) (μ 47 0) j)) → ν (50 + j) (i : Int) = zIv (μ 110) (μ 47 0) (zps (μ 110) (μ 47 0) j) i)) ∧ (∀ q, q ≠ 1 → q ≠ 5 → ν 47 q = μ 47 q) ∧ (∀ x, x ≠ 47 → x ≠ 48 → (x < 50 ∨ 109 < x) → ν x = μ x)) := by
  refine Ct.of RX10 [zR 47, zU, zU] (by decide +kernel) rfl ⟨rfl, rfl⟩ rfl (Nat.le_of_ble_eq_true rfl) (fun X hX hc0 ha0 => ?_)
  subst hX
  have L : ∀ (c : Nat) (k : Nat) (p : Int) (ξ : zM), p = (k : Int) → (∀ j : Nat, j < k → (zps (μ 110) (μ 47 0) j) < μ 47 0 ∧ zIf (μ 110) (μ 47 0) (zps (μ 110) (μ 47 0) j) (-1)) → ξ 47 5 = (zps (μ 110) (μ 47 0) k) → ξ 47 1 = (k : Int) → (∀ j : Nat, j < k → ξ 48 (j : Int) = (zIw (μ 110) (μ 47 0) (zps (μ 110) (μ 47 0) j)) ∧ ∀ i : Nat, (i : Int) < zcn (zIw (μ 110) (μ 47 0) (zps (μ 110) (μ 47 0) j)) → ξ (50 + j) (i : Int) = zIv (μ 110) (μ 47 0) (zps (μ 110) (μ 47 0) j) i) → (∀ q, q ≠ 1 → q ≠ 5 → ξ 47 q = μ 47 q) → (∀ x, x ≠ 47 → x ≠ 48 → (x < 50 ∨ 109 < x) → ξ x = μ x) → 61 - k < c → MW X E cX10_read RX10 ({ frames := 7, cells := 0, slots := 0, locals := 203 }) (some .int) (fun r ν => ∃ (k : Nat) (f : Int), zRd9 (μ 110) (μ 47 0) k f ∧ r = some (zI f) ∧ (f = -1 → ν 47 1 = (k : Int) ∧ (∀ j : Nat, j < k → ν 48 (j : Int) = (zIw (μ 110) (μ 47 0) (zps (μ 110) (μ 47 0) j)) ∧ ∀ i : Nat, (i : Int) < zcn (zIw (μ 110) (μ 47 0) (zps (μ 110) (μ 47 0) j)) → ν (50 + j) (i : Int) = zIv (μ 110) (μ 47 0) (zps (μ 110) (μ 47 0) j) i)) ∧ (∀ q, q ≠ 1 → q ≠ 5 → ν 47 q = μ 47 q) ∧ (∀ x, x ≠ 47 → x ≠ 48 → (x < 50 ∨ 109 < x) → ν x = μ x)) 16 [zR 47, zI p, zU] [] ξ := by
    intro c
    induction c with
    | zero => intro k p ξ hp0 hprev h5 h1 hrec hk hx h3; omega
    | succ c ih =>
      intro k p ξ hp0 hprev h5 h1 hrec hk hx h3
      subst hp0
      have pb := zps_b hn.1 hn.2 k hprev
      have c0 : ξ 47 0 = μ 47 0 := hk 0 (by decide) (by decide)
      have c110 : ξ 110 = μ 110 := hx 110 (by decide) (by decide) (by decide)
      refine z_iload_1 dX10_read_16 ?_
      refine z_sipush dX10_read_17 (by decide) ?_
      refine z_icmpge (tgt := 66) dX10_read_20 (by decide) (fun h_20 => ?_) (fun h_20 => ?_)
      · exact absurd h_20 (by omega)
      · refine z_aload_0 dX10_read_23 ?_
        refine z_getI 5 rfl f_X10_36 zl_47 rfl dX10_read_24 ?_
        refine z_aload_0 dX10_read_27 ?_
        refine z_getI 0 rfl f_X10_9 zl_47 rfl dX10_read_28 ?_
        refine z_icmpge (tgt := 66) dX10_read_31 (by decide) (fun h_31 => ?_) (fun h_31 => ?_)
        · replace h_31 : μ 47 0 ≤ (zps (μ 110) (μ 47 0) k) := by omega
          refine z_iconst dX10_read_66 (by decide) ?_
          exact z_iret dX10_read_67 (⟨k, -1, ⟨hprev, Or.inl ⟨h_31, rfl⟩⟩, rfl, fun _ => ⟨h1, hrec⟩, hk, hx⟩)
        · replace h_31 : (zps (μ 110) (μ 47 0) k) < μ 47 0 := by omega
          refine z_aload_0 dX10_read_34 ?_
          refine z_callV0 (k_X10_readItem (m := k) (by rw [c0]; exact hn) (by rw [c0, h5]; omega) h1 (by omega)) m_X10_readItem zl_47 l_X10_42 (Nat.le_of_ble_eq_true rfl) ⟨Nat.le_of_ble_eq_true rfl, Nat.le_of_ble_eq_true rfl⟩ ⟨rfl, rfl⟩ dX10_read_35 (fun r μ1 hp => ?_)
          rw [c110, c0, h5] at hp
          obtain ⟨f, rfl, hif, hok, gk, gj, gx⟩ := hp
          obtain ⟨ξ2, hζ9⟩ : ∃ z, z = μ1 := ⟨_, rfl⟩
          subst hζ9
          have e1 : ξ2 47 1 = (k : Int) := by rw [gk 1 (by decide)]; exact h1
          refine z_istore_2 rfl dX10_read_38 ?_
          refine z_iload_2 dX10_read_39 ?_
          refine z_iconst dX10_read_40 (by decide) ?_
          refine z_icmpeq (tgt := 46) dX10_read_41 (by decide) (fun h_41 => ?_) (fun h_41 => ?_)
          · refine z_aload_0 dX10_read_46 ?_
            refine z_dup dX10_read_47 rfl ?_
            refine z_getI 1 rfl f_X10_15 zl_47 rfl dX10_read_48 ?_
            rw [e1]
            refine z_iconst dX10_read_51 (by decide) ?_
            refine z_iadd dX10_read_52 (by omega) ?_
            refine z_putI 1 rfl f_X10_15 p_10_1 zl_47 rfl rfl dX10_read_53 ?_
            obtain rfl : f = -1 := h_41
            obtain ⟨o5, o48, onu⟩ := hok rfl
            have isb := zIs_b (t := μ 110) hn.2 pb.1 pb.2.1 (zcn (zIw (μ 110) (μ 47 0) (zps (μ 110) (μ 47 0) k))).toNat
            have ieb := zIe_b (t := μ 110) hn.2 pb.1 pb.2.1 (zcn (zIw (μ 110) (μ 47 0) (zps (μ 110) (μ 47 0) k))).toNat
            have sep : (zIs (μ 110) (μ 47 0) (zps (μ 110) (μ 47 0) k) (zcn (zIw (μ 110) (μ 47 0) (zps (μ 110) (μ 47 0) k))).toNat) + 1 ≤ μ 47 0 := by
              rcases hif with ⟨a, b⟩ | ⟨a, b⟩
              · omega
              · rcases b with ⟨i, i1, i2, i3, i4⟩ | ⟨b1, b2⟩
                · have := zIs_b (t := μ 110) hn.2 pb.1 pb.2.1 i
                  have := zIe_b (t := μ 110) hn.2 pb.1 pb.2.1 i
                  omega
                · rcases b2 with ⟨c1, c2⟩ | ⟨c1, c2⟩
                  · unfold zby at c1
                    by_cases q : (zIs (μ 110) (μ 47 0) (zps (μ 110) (μ 47 0) k) (zcn (zIw (μ 110) (μ 47 0) (zps (μ 110) (μ 47 0) k))).toNat) < μ 47 0
                    · omega
                    · rw [if_neg q] at c1; omega
                  · omega
            generalize hm1 : zup ξ2 47 1 ((k : Int) + 1) = m1
            replace hm1 := hm1.symm
            have d0 : m1 47 0 = μ 47 0 := by rw [hm1, zup_ne (Or.inr (by decide)), gk 0 (by decide)]; exact c0
            have d5 : m1 47 5 = (zIs (μ 110) (μ 47 0) (zps (μ 110) (μ 47 0) k) (zcn (zIw (μ 110) (μ 47 0) (zps (μ 110) (μ 47 0) k))).toNat) + 1 := by rw [hm1, zup_ne (Or.inr (by decide))]; exact o5
            have d110 : m1 110 = μ 110 := by rw [hm1, zup_row (by decide), gx 110 (by decide) (by decide) (by omega)]; exact c110
            refine z_aload_0 dX10_read_56 ?_
            refine z_callV0 (k_X10_skipBlanks (by rw [d0]; exact hn) (by rw [d0, d5]; omega)) m_X10_skipBlanks zl_47 l_X10_39 (Nat.le_of_ble_eq_true rfl) ⟨Nat.le_of_ble_eq_true rfl, Nat.le_of_ble_eq_true rfl⟩ ⟨rfl, rfl⟩ dX10_read_57 (fun r μ1 hp => ?_)
            rw [d110, d0, d5] at hp
            obtain ⟨rfl, hv⟩ := hp
            obtain ⟨ξ3, hζ9⟩ : ∃ z, z = μ1 := ⟨_, rfl⟩
            subst hζ9
            refine z_iinc_1 rfl dX10_read_60 (by omega) ?_
            refine z_goto (tgt := 16) dX10_read_63 (by decide) ?_
            refine z_weak (ls' := [zR 47, zI ((k : Int) + 1), zU]) ⟨Or.inl rfl, Or.inl rfl, Or.inr rfl, trivial⟩ ?_
            refine ih (k + 1) _ _ (by omega) (fun j q => by by_cases e : j = k; rw [e]; exact ⟨h_31, hif⟩; exact hprev j (by omega)) (by rw [hv, zup_eq]; exact zps_s.symm) (by rw [hv, zup_ne (Or.inr (by decide)), hm1, zup_eq]; omega) (fun j q => ?_) (fun q q1 q5 => by rw [hv, zup_ne (Or.inr q5), hm1, zup_ne (Or.inr q1), gk q q5]; exact hk q q1 q5) (fun x x1 x2 x3 => by rw [hv, zup_row x1, hm1, zup_row x1, gx x x1 x2 (by omega)]; exact hx x x1 x2 x3) (by omega)
            rw [hv, zup_row (by decide), zup_row (by omega), hm1, zup_row (by decide), zup_row (by omega)]
            by_cases e : j = k
            · rw [e]; exact ⟨o48, onu⟩
            · rw [gj (j : Int) (by omega), gx (50 + j) (by omega) (by omega) (by omega)]; exact hrec j (by omega)
          · refine z_iload_2 dX10_read_44 ?_
            exact z_iret dX10_read_45 (⟨k, f, ⟨hprev, Or.inr ⟨h_31, hif, h_41⟩⟩, rfl, fun q => absurd q h_41, fun q q1 q5 => by rw [gk q q5]; exact hk q q1 q5, fun x x1 x2 x3 => by rw [gx x x1 x2 (by omega)]; exact hx x x1 x2 x3⟩)
  refine z_aload_0 dX10_read_0 ?_
  refine z_iconst dX10_read_1 (by decide) ?_
  refine z_putI 1 rfl f_X10_15 p_10_1 zl_47 rfl rfl dX10_read_2 ?_
  refine z_aload_0 dX10_read_5 ?_
  refine z_iconst dX10_read_6 (by decide) ?_
  refine z_putI 5 rfl f_X10_36 p_10_5 zl_47 rfl rfl dX10_read_7 ?_
  generalize hm0 : zup (zup μ 47 1 0) 47 5 0 = m0
  replace hm0 := hm0.symm
  have d0 : m0 47 0 = μ 47 0 := by rw [hm0, zup_ne (Or.inr (by decide)), zup_ne (Or.inr (by decide))]
  have d5 : m0 47 5 = 0 := by rw [hm0, zup_eq]
  have d110 : m0 110 = μ 110 := by rw [hm0, zup_row (by decide), zup_row (by decide)]
  refine z_aload_0 dX10_read_10 ?_
  refine z_callV0 (k_X10_skipBlanks (by rw [d0]; exact hn) (by rw [d0, d5]; omega)) m_X10_skipBlanks zl_47 l_X10_39 (Nat.le_of_ble_eq_true rfl) ⟨Nat.le_of_ble_eq_true rfl, Nat.le_of_ble_eq_true rfl⟩ ⟨rfl, rfl⟩ dX10_read_11 (fun r μ1 hp => ?_)
  rw [d110, d0, d5] at hp
  obtain ⟨rfl, hv⟩ := hp
  obtain ⟨ξ0, hζ9⟩ : ∃ z, z = μ1 := ⟨_, rfl⟩
  subst hζ9
  refine z_iconst dX10_read_14 (by decide) ?_
  refine z_istore_1 rfl dX10_read_15 ?_
  exact L 62 0 _ ξ0 rfl (fun j q => by omega) (by rw [hv, zup_eq]; rfl) (by rw [hv, zup_ne (Or.inr (by decide)), hm0, zup_ne (Or.inr (by decide)), zup_eq]; rfl) (fun j q => by omega) (fun q q1 q5 => by rw [hv, zup_ne (Or.inr q5), hm0, zup_ne (Or.inr q5), zup_ne (Or.inr q1)]) (fun x x1 x2 x3 => by rw [hv, zup_row x1, hm0, zup_row x1, zup_row x1]) (by decide)
