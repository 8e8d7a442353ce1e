theorem zcp_out {μ : zM} {a b x : Nat} {n j : Int} (h : x ≠ b) : zcp μ a b n x j = μ x j := if_neg (fun q => h q.1)
theorem zcp_in {μ : zM} {a b : Nat} {n j : Int} (h0 : 0 ≤ j) (h1 : j < n) : zcp μ a b n b j = μ a j := if_pos ⟨rfl, h0, h1⟩
set_option maxRecDepth 100000 in
set_option maxHeartbeats 4000000 in
theorem k_X1_copy {l : Launch} {E : zE} {h g : Nat} {μ : zM} (hh : zAt zp2 h) (hg : zAt zp2 g) (hd : g + 22 ≤ h ∨ h + 22 ≤ g) : Ct l E yX1_copy cX1_copy 2 none ({ frames := 1, cells := 0, slots := 0, locals := 44 }) [zR (h + 1), zR (g + 1)] μ (fun r ν => r = none ∧ (∀ i : Int, 0 ≤ i → i < 36 → ν (h + 2) i = μ (g + 2) i ∧ ν (h + 3) i = μ (g + 3) i) ∧ (∀ i : Int, 0 ≤ i → i < 6 → ν (h + 4) i = μ (g + 4) i) ∧ ν (h + 1) 3 = μ (g + 1) 3 ∧ ν (h + 1) 4 = μ (g + 1) 4 ∧ ν (h + 1) 5 = μ (g + 1) 5 ∧ zFr (h + 1) 4 μ ν) := by
  refine Ct.of RX1 [zR (h + 1), zR (g + 1)] (by decide +kernel) rfl ⟨rfl, rfl⟩ rfl (Nat.le_of_ble_eq_true rfl) (fun X hX hc0 ha0 => ?_)
  subst hX
  refine z_aload_1 dX1_copy_0 ?_
  refine z_getF (g + 2) 1 rfl f_X1_9 (hg.at 1 rfl) rfl rfl dX1_copy_1 ?_
  refine z_iconst dX1_copy_4 (by decide) ?_
  refine z_aload_0 dX1_copy_5 ?_
  refine z_getF (h + 2) 1 rfl f_X1_9 (hh.at 1 rfl) rfl rfl dX1_copy_6 ?_
  refine z_iconst dX1_copy_9 (by decide) ?_
  refine z_bipush dX1_copy_10 (by decide) ?_
  refine z_copy (Or.inr ⟨(hg.at 2 rfl), (hh.at 2 rfl)⟩) (by decide) (by decide) (by decide) l_X1_32 ⟨Nat.le_of_ble_eq_true rfl, Nat.le_of_ble_eq_true rfl⟩ dX1_copy_12 ?_
  refine z_aload_1 dX1_copy_15 ?_
  refine z_getF (g + 3) 2 rfl f_X1_15 (hg.at 1 rfl) rfl rfl dX1_copy_16 ?_
  refine z_iconst dX1_copy_19 (by decide) ?_
  refine z_aload_0 dX1_copy_20 ?_
  refine z_getF (h + 3) 2 rfl f_X1_15 (hh.at 1 rfl) rfl rfl dX1_copy_21 ?_
  refine z_iconst dX1_copy_24 (by decide) ?_
  refine z_bipush dX1_copy_25 (by decide) ?_
  refine z_copy (Or.inl ⟨(hg.at 3 rfl), (hh.at 3 rfl)⟩) (by decide) (by decide) (by decide) l_X1_32 ⟨Nat.le_of_ble_eq_true rfl, Nat.le_of_ble_eq_true rfl⟩ dX1_copy_27 ?_
  refine z_aload_1 dX1_copy_30 ?_
  refine z_getF (g + 4) 3 rfl f_X1_19 (hg.at 1 rfl) rfl rfl dX1_copy_31 ?_
  refine z_iconst dX1_copy_34 (by decide) ?_
  refine z_aload_0 dX1_copy_35 ?_
  refine z_getF (h + 4) 3 rfl f_X1_19 (hh.at 1 rfl) rfl rfl dX1_copy_36 ?_
  refine z_iconst dX1_copy_39 (by decide) ?_
  refine z_bipush dX1_copy_40 (by decide) ?_
  refine z_copy (Or.inl ⟨(hg.at 4 rfl), (hh.at 4 rfl)⟩) (by decide) (by decide) (by decide) l_X1_32 ⟨Nat.le_of_ble_eq_true rfl, Nat.le_of_ble_eq_true rfl⟩ dX1_copy_42 ?_
  refine z_aload_0 dX1_copy_45 ?_
  refine z_aload_1 dX1_copy_46 ?_
  refine z_getI 3 rfl f_X1_22 (hg.at 1 rfl) rfl dX1_copy_47 ?_
  refine z_putI 3 rfl f_X1_22 p_1_3 (hh.at 1 rfl) rfl rfl dX1_copy_50 ?_
  refine z_aload_0 dX1_copy_53 ?_
  refine z_aload_1 dX1_copy_54 ?_
  refine z_getI 4 rfl f_X1_26 (hg.at 1 rfl) rfl dX1_copy_55 ?_
  refine z_putI 4 rfl f_X1_26 p_1_4 (hh.at 1 rfl) rfl rfl dX1_copy_58 ?_
  refine z_aload_0 dX1_copy_61 ?_
  refine z_aload_1 dX1_copy_62 ?_
  refine z_getI 5 rfl f_X1_29 (hg.at 1 rfl) rfl dX1_copy_63 ?_
  refine z_putI 5 rfl f_X1_29 p_1_5 (hh.at 1 rfl) rfl rfl dX1_copy_66 ?_
  exact z_vret dX1_copy_69 (by refine ⟨rfl, fun i i0 i1 => ⟨?_, ?_⟩, fun i i0 i1 => ?_, ?_, ?_, ?_, fun a ha => by repeat (first | rw [zup_row (by omega)] | rw [zcp_row (by omega)])⟩ <;> (repeat (first | rw [zup_eq] | rw [zup_id (by omega)] | rw [zup_ne (by omega)] | rw [zcp_out (by omega)] | rw [zcp_in (by omega) (by omega)])))
set_option maxRecDepth 100000 in
set_option maxHeartbeats 4000000 in
theorem k_X5_copy {l : Launch} {E : zE} {h g : Nat} {μ : zM} (hh : zAt zp2 h) (hg : zAt zp2 g) (hd : g + 22 ≤ h ∨ h + 22 ≤ g) : Ct l E yX5_copy cX5_copy 2 none ({ frames := 1, cells := 0, slots := 0, locals := 44 }) [zR (h + 5), zR (g + 5)] μ (fun r ν => r = none ∧ (∀ i : Int, 0 ≤ i → i < 5 → ν (h + 6) i = μ (g + 6) i ∧ ν (h + 7) i = μ (g + 7) i ∧ ν (h + 8) i = μ (g + 8) i ∧ ν (h + 9) i = μ (g + 9) i ∧ ν (h + 10) i = μ (g + 10) i ∧ ν (h + 11) i = μ (g + 11) i) ∧ ν (h + 5) 6 = μ (g + 5) 6 ∧ zFr (h + 5) 7 μ ν) := by
  refine Ct.of RX5 [zR (h + 5), zR (g + 5)] (by decide +kernel) rfl ⟨rfl, rfl⟩ rfl (Nat.le_of_ble_eq_true rfl) (fun X hX hc0 ha0 => ?_)
  subst hX
  refine z_aload_1 dX5_copy_0 ?_
  refine z_getF (g + 6) 1 rfl f_X5_9 (hg.at 5 rfl) rfl rfl dX5_copy_1 ?_
  refine z_iconst dX5_copy_4 (by decide) ?_
  refine z_aload_0 dX5_copy_5 ?_
  refine z_getF (h + 6) 1 rfl f_X5_9 (hh.at 5 rfl) rfl rfl dX5_copy_6 ?_
  refine z_iconst dX5_copy_9 (by decide) ?_
  refine z_iconst dX5_copy_10 (by decide) ?_
  refine z_copy (Or.inl ⟨(hg.at 6 rfl), (hh.at 6 rfl)⟩) (by decide) (by decide) (by decide) l_X5_34 ⟨Nat.le_of_ble_eq_true rfl, Nat.le_of_ble_eq_true rfl⟩ dX5_copy_11 ?_
  refine z_aload_1 dX5_copy_14 ?_
  refine z_getF (g + 7) 2 rfl f_X5_15 (hg.at 5 rfl) rfl rfl dX5_copy_15 ?_
  refine z_iconst dX5_copy_18 (by decide) ?_
  refine z_aload_0 dX5_copy_19 ?_
  refine z_getF (h + 7) 2 rfl f_X5_15 (hh.at 5 rfl) rfl rfl dX5_copy_20 ?_
  refine z_iconst dX5_copy_23 (by decide) ?_
  refine z_iconst dX5_copy_24 (by decide) ?_
  refine z_copy (Or.inl ⟨(hg.at 7 rfl), (hh.at 7 rfl)⟩) (by decide) (by decide) (by decide) l_X5_34 ⟨Nat.le_of_ble_eq_true rfl, Nat.le_of_ble_eq_true rfl⟩ dX5_copy_25 ?_
  refine z_aload_1 dX5_copy_28 ?_
  refine z_getF (g + 8) 3 rfl f_X5_18 (hg.at 5 rfl) rfl rfl dX5_copy_29 ?_
  refine z_iconst dX5_copy_32 (by decide) ?_
  refine z_aload_0 dX5_copy_33 ?_
  refine z_getF (h + 8) 3 rfl f_X5_18 (hh.at 5 rfl) rfl rfl dX5_copy_34 ?_
  refine z_iconst dX5_copy_37 (by decide) ?_
  refine z_iconst dX5_copy_38 (by decide) ?_
  refine z_copy (Or.inl ⟨(hg.at 8 rfl), (hh.at 8 rfl)⟩) (by decide) (by decide) (by decide) l_X5_34 ⟨Nat.le_of_ble_eq_true rfl, Nat.le_of_ble_eq_true rfl⟩ dX5_copy_39 ?_
  refine z_aload_1 dX5_copy_42 ?_
  refine z_getF (g + 9) 4 rfl f_X5_21 (hg.at 5 rfl) rfl rfl dX5_copy_43 ?_
  refine z_iconst dX5_copy_46 (by decide) ?_
  refine z_aload_0 dX5_copy_47 ?_
  refine z_getF (h + 9) 4 rfl f_X5_21 (hh.at 5 rfl) rfl rfl dX5_copy_48 ?_
  refine z_iconst dX5_copy_51 (by decide) ?_
  refine z_iconst dX5_copy_52 (by decide) ?_
  refine z_copy (Or.inl ⟨(hg.at 9 rfl), (hh.at 9 rfl)⟩) (by decide) (by decide) (by decide) l_X5_34 ⟨Nat.le_of_ble_eq_true rfl, Nat.le_of_ble_eq_true rfl⟩ dX5_copy_53 ?_
  refine z_aload_1 dX5_copy_56 ?_
  refine z_getF (g + 10) 5 rfl f_X5_24 (hg.at 5 rfl) rfl rfl dX5_copy_57 ?_
  refine z_iconst dX5_copy_60 (by decide) ?_
  refine z_aload_0 dX5_copy_61 ?_
  refine z_getF (h + 10) 5 rfl f_X5_24 (hh.at 5 rfl) rfl rfl dX5_copy_62 ?_
  refine z_iconst dX5_copy_65 (by decide) ?_
  refine z_iconst dX5_copy_66 (by decide) ?_
  refine z_copy (Or.inl ⟨(hg.at 10 rfl), (hh.at 10 rfl)⟩) (by decide) (by decide) (by decide) l_X5_34 ⟨Nat.le_of_ble_eq_true rfl, Nat.le_of_ble_eq_true rfl⟩ dX5_copy_67 ?_
  refine z_aload_1 dX5_copy_70 ?_
  refine z_getF (g + 11) 6 rfl f_X5_27 (hg.at 5 rfl) rfl rfl dX5_copy_71 ?_
  refine z_iconst dX5_copy_74 (by decide) ?_
  refine z_aload_0 dX5_copy_75 ?_
  refine z_getF (h + 11) 6 rfl f_X5_27 (hh.at 5 rfl) rfl rfl dX5_copy_76 ?_
  refine z_iconst dX5_copy_79 (by decide) ?_
  refine z_iconst dX5_copy_80 (by decide) ?_
  refine z_copy (Or.inl ⟨(hg.at 11 rfl), (hh.at 11 rfl)⟩) (by decide) (by decide) (by decide) l_X5_34 ⟨Nat.le_of_ble_eq_true rfl, Nat.le_of_ble_eq_true rfl⟩ dX5_copy_81 ?_
  refine z_aload_0 dX5_copy_84 ?_
  refine z_aload_1 dX5_copy_85 ?_
  refine z_getI 6 rfl f_X5_30 (hg.at 5 rfl) rfl dX5_copy_86 ?_
  refine z_putI 6 rfl f_X5_30 p_5_6 (hh.at 5 rfl) rfl rfl dX5_copy_89 ?_
  exact z_vret dX5_copy_92 (by refine ⟨rfl, fun i i0 i1 => ⟨?_, ?_, ?_, ?_, ?_, ?_⟩, ?_, fun a ha => by repeat (first | rw [zup_row (by omega)] | rw [zcp_row (by omega)])⟩ <;> (repeat (first | rw [zup_eq] | rw [zup_id (by omega)] | rw [zup_ne (by omega)] | rw [zcp_out (by omega)] | rw [zcp_in (by omega) (by omega)])))
set_option maxRecDepth 100000 in
set_option maxHeartbeats 4000000 in
theorem k_X9_copy {l : Launch} {E : zE} {h g : Nat} {μ : zM} (hh : zAt zp2 h) (hg : zAt zp2 g) (hd : g + 22 ≤ h ∨ h + 22 ≤ g) : Ct l E yX9_copy cX9_copy 2 none ({ frames := 1, cells := 0, slots := 0, locals := 44 }) [zR (h + 12), zR (g + 12)] μ (fun r ν => r = none ∧ (∀ i : Int, 0 ≤ i → i < 8 → ν (h + 13) i = μ (g + 13) i ∧ ν (h + 14) i = μ (g + 14) i ∧ ν (h + 15) i = μ (g + 15) i ∧ ν (h + 16) i = μ (g + 16) i ∧ ν (h + 17) i = μ (g + 17) i) ∧ ν (h + 12) 5 = μ (g + 12) 5 ∧ zFr (h + 12) 6 μ ν) := by
  refine Ct.of RX9 [zR (h + 12), zR (g + 12)] (by decide +kernel) rfl ⟨rfl, rfl⟩ rfl (Nat.le_of_ble_eq_true rfl) (fun X hX hc0 ha0 => ?_)
  subst hX
  refine z_aload_1 dX9_copy_0 ?_
  refine z_getF (g + 13) 1 rfl f_X9_9 (hg.at 12 rfl) rfl rfl dX9_copy_1 ?_
  refine z_iconst dX9_copy_4 (by decide) ?_
  refine z_aload_0 dX9_copy_5 ?_
  refine z_getF (h + 13) 1 rfl f_X9_9 (hh.at 12 rfl) rfl rfl dX9_copy_6 ?_
  refine z_iconst dX9_copy_9 (by decide) ?_
  refine z_bipush dX9_copy_10 (by decide) ?_
  refine z_copy (Or.inl ⟨(hg.at 13 rfl), (hh.at 13 rfl)⟩) (by decide) (by decide) (by decide) l_X9_31 ⟨Nat.le_of_ble_eq_true rfl, Nat.le_of_ble_eq_true rfl⟩ dX9_copy_12 ?_
  refine z_aload_1 dX9_copy_15 ?_
  refine z_getF (g + 14) 2 rfl f_X9_15 (hg.at 12 rfl) rfl rfl dX9_copy_16 ?_
  refine z_iconst dX9_copy_19 (by decide) ?_
  refine z_aload_0 dX9_copy_20 ?_
  refine z_getF (h + 14) 2 rfl f_X9_15 (hh.at 12 rfl) rfl rfl dX9_copy_21 ?_
  refine z_iconst dX9_copy_24 (by decide) ?_
  refine z_bipush dX9_copy_25 (by decide) ?_
  refine z_copy (Or.inl ⟨(hg.at 14 rfl), (hh.at 14 rfl)⟩) (by decide) (by decide) (by decide) l_X9_31 ⟨Nat.le_of_ble_eq_true rfl, Nat.le_of_ble_eq_true rfl⟩ dX9_copy_27 ?_
  refine z_aload_1 dX9_copy_30 ?_
  refine z_getF (g + 15) 3 rfl f_X9_18 (hg.at 12 rfl) rfl rfl dX9_copy_31 ?_
  refine z_iconst dX9_copy_34 (by decide) ?_
  refine z_aload_0 dX9_copy_35 ?_
  refine z_getF (h + 15) 3 rfl f_X9_18 (hh.at 12 rfl) rfl rfl dX9_copy_36 ?_
  refine z_iconst dX9_copy_39 (by decide) ?_
  refine z_bipush dX9_copy_40 (by decide) ?_
  refine z_copy (Or.inl ⟨(hg.at 15 rfl), (hh.at 15 rfl)⟩) (by decide) (by decide) (by decide) l_X9_31 ⟨Nat.le_of_ble_eq_true rfl, Nat.le_of_ble_eq_true rfl⟩ dX9_copy_42 ?_
  refine z_aload_1 dX9_copy_45 ?_
  refine z_getF (g + 16) 4 rfl f_X9_21 (hg.at 12 rfl) rfl rfl dX9_copy_46 ?_
  refine z_iconst dX9_copy_49 (by decide) ?_
  refine z_aload_0 dX9_copy_50 ?_
  refine z_getF (h + 16) 4 rfl f_X9_21 (hh.at 12 rfl) rfl rfl dX9_copy_51 ?_
  refine z_iconst dX9_copy_54 (by decide) ?_
  refine z_bipush dX9_copy_55 (by decide) ?_
  refine z_copy (Or.inl ⟨(hg.at 16 rfl), (hh.at 16 rfl)⟩) (by decide) (by decide) (by decide) l_X9_31 ⟨Nat.le_of_ble_eq_true rfl, Nat.le_of_ble_eq_true rfl⟩ dX9_copy_57 ?_
  refine z_aload_1 dX9_copy_60 ?_
  refine z_getF (g + 17) 5 rfl f_X9_24 (hg.at 12 rfl) rfl rfl dX9_copy_61 ?_
  refine z_iconst dX9_copy_64 (by decide) ?_
  refine z_aload_0 dX9_copy_65 ?_
  refine z_getF (h + 17) 5 rfl f_X9_24 (hh.at 12 rfl) rfl rfl dX9_copy_66 ?_
  refine z_iconst dX9_copy_69 (by decide) ?_
  refine z_bipush dX9_copy_70 (by decide) ?_
  refine z_copy (Or.inl ⟨(hg.at 17 rfl), (hh.at 17 rfl)⟩) (by decide) (by decide) (by decide) l_X9_31 ⟨Nat.le_of_ble_eq_true rfl, Nat.le_of_ble_eq_true rfl⟩ dX9_copy_72 ?_
  refine z_aload_0 dX9_copy_75 ?_
  refine z_aload_1 dX9_copy_76 ?_
  refine z_getI 5 rfl f_X9_27 (hg.at 12 rfl) rfl dX9_copy_77 ?_
  refine z_putI 5 rfl f_X9_27 p_9_5 (hh.at 12 rfl) rfl rfl dX9_copy_80 ?_
  exact z_vret dX9_copy_83 (by refine ⟨rfl, fun i i0 i1 => ⟨?_, ?_, ?_, ?_, ?_⟩, ?_, fun a ha => by repeat (first | rw [zup_row (by omega)] | rw [zcp_row (by omega)])⟩ <;> (repeat (first | rw [zup_eq] | rw [zup_id (by omega)] | rw [zup_ne (by omega)] | rw [zcp_out (by omega)] | rw [zcp_in (by omega) (by omega)])))
set_option maxRecDepth 100000 in
set_option maxHeartbeats 4000000 in
theorem k_X7_copy {l : Launch} {E : zE} {h g : Nat} {μ : zM} (hh : zAt zp2 h) (hg : zAt zp2 g) (hd : g + 22 ≤ h ∨ h + 22 ≤ g) : Ct l E yX7_copy cX7_copy 2 none ({ frames := 1, cells := 0, slots := 0, locals := 44 }) [zR (h + 18), zR (g + 18)] μ (fun r ν => r = none ∧ (∀ i : Int, 0 ≤ i → i < 4 → ν (h + 19) i = μ (g + 19) i ∧ ν (h + 20) i = μ (g + 20) i ∧ ν (h + 21) i = μ (g + 21) i) ∧ ν (h + 18) 3 = μ (g + 18) 3 ∧ zFr (h + 18) 4 μ ν) := by
  refine Ct.of RX7 [zR (h + 18), zR (g + 18)] (by decide +kernel) rfl ⟨rfl, rfl⟩ rfl (Nat.le_of_ble_eq_true rfl) (fun X hX hc0 ha0 => ?_)
  subst hX
  refine z_aload_1 dX7_copy_0 ?_
  refine z_getF (g + 19) 1 rfl f_X7_9 (hg.at 18 rfl) rfl rfl dX7_copy_1 ?_
  refine z_iconst dX7_copy_4 (by decide) ?_
  refine z_aload_0 dX7_copy_5 ?_
  refine z_getF (h + 19) 1 rfl f_X7_9 (hh.at 18 rfl) rfl rfl dX7_copy_6 ?_
  refine z_iconst dX7_copy_9 (by decide) ?_
  refine z_iconst dX7_copy_10 (by decide) ?_
  refine z_copy (Or.inl ⟨(hg.at 19 rfl), (hh.at 19 rfl)⟩) (by decide) (by decide) (by decide) l_X7_26 ⟨Nat.le_of_ble_eq_true rfl, Nat.le_of_ble_eq_true rfl⟩ dX7_copy_11 ?_
  refine z_aload_1 dX7_copy_14 ?_
  refine z_getF (g + 20) 2 rfl f_X7_15 (hg.at 18 rfl) rfl rfl dX7_copy_15 ?_
  refine z_iconst dX7_copy_18 (by decide) ?_
  refine z_aload_0 dX7_copy_19 ?_
  refine z_getF (h + 20) 2 rfl f_X7_15 (hh.at 18 rfl) rfl rfl dX7_copy_20 ?_
  refine z_iconst dX7_copy_23 (by decide) ?_
  refine z_iconst dX7_copy_24 (by decide) ?_
  refine z_copy (Or.inl ⟨(hg.at 20 rfl), (hh.at 20 rfl)⟩) (by decide) (by decide) (by decide) l_X7_26 ⟨Nat.le_of_ble_eq_true rfl, Nat.le_of_ble_eq_true rfl⟩ dX7_copy_25 ?_
  refine z_aload_1 dX7_copy_28 ?_
  refine z_getF (g + 21) 3 rfl f_X7_18 (hg.at 18 rfl) rfl rfl dX7_copy_29 ?_
  refine z_iconst dX7_copy_32 (by decide) ?_
  refine z_aload_0 dX7_copy_33 ?_
  refine z_getF (h + 21) 3 rfl f_X7_18 (hh.at 18 rfl) rfl rfl dX7_copy_34 ?_
  refine z_iconst dX7_copy_37 (by decide) ?_
  refine z_iconst dX7_copy_38 (by decide) ?_
  refine z_copy (Or.inr ⟨(hg.at 21 rfl), (hh.at 21 rfl)⟩) (by decide) (by decide) (by decide) l_X7_26 ⟨Nat.le_of_ble_eq_true rfl, Nat.le_of_ble_eq_true rfl⟩ dX7_copy_39 ?_
  refine z_aload_0 dX7_copy_42 ?_
  refine z_aload_1 dX7_copy_43 ?_
  refine z_getI 3 rfl f_X7_22 (hg.at 18 rfl) rfl dX7_copy_44 ?_
  refine z_putI 3 rfl f_X7_22 p_7_3 (hh.at 18 rfl) rfl rfl dX7_copy_47 ?_
  exact z_vret dX7_copy_50 (by refine ⟨rfl, fun i i0 i1 => ⟨?_, ?_, ?_⟩, ?_, fun a ha => by repeat (first | rw [zup_row (by omega)] | rw [zcp_row (by omega)])⟩ <;> (repeat (first | rw [zup_eq] | rw [zup_id (by omega)] | rw [zup_ne (by omega)] | rw [zcp_out (by omega)] | rw [zcp_in (by omega) (by omega)])))
/-- what makes two houses' pictures one -/
theorem zHV_eq {μ ν : zM} {h g : Nat} (ok : zOK (zHV μ g)) (f1 : ∀ i : Int, 0 ≤ i → i < 36 → ν (h + 2) i = μ (g + 2) i ∧ ν (h + 3) i = μ (g + 3) i) (f2 : ∀ i : Int, 0 ≤ i → i < 6 → ν (h + 4) i = μ (g + 4) i) (f3 : ν (h + 1) 3 = μ (g + 1) 3) (f4 : ν (h + 1) 4 = μ (g + 1) 4) (f5 : ν (h + 1) 5 = μ (g + 1) 5)
    (p1 : ∀ i : Int, 0 ≤ i → i < 5 → ν (h + 6) i = μ (g + 6) i ∧ ν (h + 7) i = μ (g + 7) i ∧ ν (h + 8) i = μ (g + 8) i ∧ ν (h + 9) i = μ (g + 9) i ∧ ν (h + 10) i = μ (g + 10) i ∧ ν (h + 11) i = μ (g + 11) i) (p2 : ν (h + 5) 6 = μ (g + 5) 6)
    (s1 : ∀ i : Int, 0 ≤ i → i < 8 → ν (h + 13) i = μ (g + 13) i ∧ ν (h + 14) i = μ (g + 14) i ∧ ν (h + 15) i = μ (g + 15) i ∧ ν (h + 16) i = μ (g + 16) i ∧ ν (h + 17) i = μ (g + 17) i) (s2 : ν (h + 12) 5 = μ (g + 12) 5)
    (r1 : ∀ i : Int, 0 ≤ i → i < 4 → ν (h + 19) i = μ (g + 19) i ∧ ν (h + 20) i = μ (g + 20) i ∧ ν (h + 21) i = μ (g + 21) i) (r2 : ν (h + 18) 3 = μ (g + 18) 3) : zHV ν h = zHV μ g := by
  obtain ⟨nb, nf, nd, np, ns, nr⟩ := zOK_n ok
  funext k i
  match k with
  | 0 => (show (if 0 ≤ i ∧ i < 36 then ν (h + 2) i else 0) = (if 0 ≤ i ∧ i < 36 then μ (g + 2) i else 0)); split; exact (f1 i (by omega) (by omega)).1; rfl
  | 1 => (show (if 0 ≤ i ∧ i < 36 then ν (h + 3) i else 0) = (if 0 ≤ i ∧ i < 36 then μ (g + 3) i else 0)); split; exact (f1 i (by omega) (by omega)).2; rfl
  | 2 => (show (if 0 ≤ i ∧ i < ν (h + 1) 3 then ν (h + 4) i else 0) = (if 0 ≤ i ∧ i < μ (g + 1) 3 then μ (g + 4) i else 0)); rw [f3]; split; exact f2 i (by omega) (by omega); rfl
  | 3 => (show (if i = 0 then ν (h + 1) 3 else if i = 1 then ν (h + 1) 4 else if i = 2 then ν (h + 1) 5 else if i = 3 then ν (h + 5) 6 else if i = 4 then ν (h + 12) 5 else if i = 5 then ν (h + 18) 3 else 0) = (if i = 0 then μ (g + 1) 3 else if i = 1 then μ (g + 1) 4 else if i = 2 then μ (g + 1) 5 else if i = 3 then μ (g + 5) 6 else if i = 4 then μ (g + 12) 5 else if i = 5 then μ (g + 18) 3 else 0)); rw [f3, f4, f5, p2, s2, r2]
  | 4 => (show (if 0 ≤ i ∧ i < ν (h + 5) 6 then ν (h + 6) i else 0) = (if 0 ≤ i ∧ i < μ (g + 5) 6 then μ (g + 6) i else 0)); rw [p2]; split; exact (p1 i (by omega) (by omega)).1; rfl
  | 5 => (show (if 0 ≤ i ∧ i < ν (h + 5) 6 then ν (h + 7) i else 0) = (if 0 ≤ i ∧ i < μ (g + 5) 6 then μ (g + 7) i else 0)); rw [p2]; split; exact (p1 i (by omega) (by omega)).2.1; rfl
  | 6 => (show (if 0 ≤ i ∧ i < ν (h + 5) 6 then ν (h + 8) i else 0) = (if 0 ≤ i ∧ i < μ (g + 5) 6 then μ (g + 8) i else 0)); rw [p2]; split; exact (p1 i (by omega) (by omega)).2.2.1; rfl
  | 7 => (show (if 0 ≤ i ∧ i < ν (h + 5) 6 then ν (h + 9) i else 0) = (if 0 ≤ i ∧ i < μ (g + 5) 6 then μ (g + 9) i else 0)); rw [p2]; split; exact (p1 i (by omega) (by omega)).2.2.2.1; rfl
  | 8 => (show (if 0 ≤ i ∧ i < ν (h + 5) 6 then ν (h + 10) i else 0) = (if 0 ≤ i ∧ i < μ (g + 5) 6 then μ (g + 10) i else 0)); rw [p2]; split; exact (p1 i (by omega) (by omega)).2.2.2.2.1; rfl
  | 9 => (show (if 0 ≤ i ∧ i < ν (h + 5) 6 then ν (h + 11) i else 0) = (if 0 ≤ i ∧ i < μ (g + 5) 6 then μ (g + 11) i else 0)); rw [p2]; split; exact (p1 i (by omega) (by omega)).2.2.2.2.2; rfl
  | 10 => (show (if 0 ≤ i ∧ i < ν (h + 12) 5 then ν (h + 13) i else 0) = (if 0 ≤ i ∧ i < μ (g + 12) 5 then μ (g + 13) i else 0)); rw [s2]; split; exact (s1 i (by omega) (by omega)).1; rfl
  | 11 => (show (if 0 ≤ i ∧ i < ν (h + 12) 5 then ν (h + 14) i else 0) = (if 0 ≤ i ∧ i < μ (g + 12) 5 then μ (g + 14) i else 0)); rw [s2]; split; exact (s1 i (by omega) (by omega)).2.1; rfl
  | 12 => (show (if 0 ≤ i ∧ i < ν (h + 12) 5 then ν (h + 15) i else 0) = (if 0 ≤ i ∧ i < μ (g + 12) 5 then μ (g + 15) i else 0)); rw [s2]; split; exact (s1 i (by omega) (by omega)).2.2.1; rfl
  | 13 => (show (if 0 ≤ i ∧ i < ν (h + 12) 5 then ν (h + 16) i else 0) = (if 0 ≤ i ∧ i < μ (g + 12) 5 then μ (g + 16) i else 0)); rw [s2]; split; exact (s1 i (by omega) (by omega)).2.2.2.1; rfl
  | 14 => (show (if 0 ≤ i ∧ i < ν (h + 12) 5 then ν (h + 17) i else 0) = (if 0 ≤ i ∧ i < μ (g + 12) 5 then μ (g + 17) i else 0)); rw [s2]; split; exact (s1 i (by omega) (by omega)).2.2.2.2; rfl
  | 15 => (show (if 0 ≤ i ∧ i < ν (h + 18) 3 then ν (h + 19) i else 0) = (if 0 ≤ i ∧ i < μ (g + 18) 3 then μ (g + 19) i else 0)); rw [r2]; split; exact (r1 i (by omega) (by omega)).1; rfl
  | 16 => (show (if 0 ≤ i ∧ i < ν (h + 18) 3 then ν (h + 20) i else 0) = (if 0 ≤ i ∧ i < μ (g + 18) 3 then μ (g + 20) i else 0)); rw [r2]; split; exact (r1 i (by omega) (by omega)).2.1; rfl
  | 17 => (show (if 0 ≤ i ∧ i < ν (h + 18) 3 then ν (h + 21) i else 0) = (if 0 ≤ i ∧ i < μ (g + 18) 3 then μ (g + 21) i else 0)); rw [r2]; split; exact (r1 i (by omega) (by omega)).2.2; rfl
  | n + 18 => rfl
theorem zHV_fr {μ ν : zM} {h a n : Nat} (hf : zFr a n μ ν) (hd : a + n ≤ h ∨ h + 22 ≤ a) : zHV ν h = zHV μ h := by
  unfold zHV
  rw [hf (h + 1) (by omega), hf (h + 2) (by omega), hf (h + 3) (by omega), hf (h + 4) (by omega), hf (h + 5) (by omega), hf (h + 6) (by omega), hf (h + 7) (by omega), hf (h + 8) (by omega), hf (h + 9) (by omega), hf (h + 10) (by omega), hf (h + 11) (by omega), hf (h + 12) (by omega), hf (h + 13) (by omega), hf (h + 14) (by omega), hf (h + 15) (by omega), hf (h + 16) (by omega), hf (h + 17) (by omega), hf (h + 18) (by omega), hf (h + 19) (by omega), hf (h + 20) (by omega), hf (h + 21) (by omega)]
set_option maxRecDepth 100000 in
set_option maxHeartbeats 4000000 in
theorem k_X2_copy {l : Launch} {E : zE} {h g : Nat} {μ : zM} (hh : zAt zp2 h) (hg : zAt zp2 g) (hd : g + 22 ≤ h ∨ h + 22 ≤ g) (ok : zOK (zHV μ g)) : Ct l E yX2_copy cX2_copy 2 none ({ frames := 2, cells := 0, slots := 0, locals := 65 }) [zR h, zR g] μ (fun r ν => r = none ∧ zHV ν h = zHV μ g ∧ zFr h 22 μ ν) := by
  refine Ct.of RX2 [zR h, zR g] (by decide +kernel) rfl ⟨rfl, rfl⟩ rfl (Nat.le_of_ble_eq_true rfl) (fun X hX hc0 ha0 => ?_)
  subst hX
  refine z_aload_0 dX2_copy_0 ?_
  refine z_getF (h + 1) 1 rfl f_X2_12 (hh.at 0 rfl) rfl rfl dX2_copy_1 ?_
  refine z_aload_1 dX2_copy_4 ?_
  refine z_getF (g + 1) 1 rfl f_X2_12 (hg.at 0 rfl) rfl rfl dX2_copy_5 ?_
  refine z_callV1 (k_X1_copy hh hg hd) m_X1_copy (hh.at 1 rfl) l_X2_48 (Nat.le_of_ble_eq_true rfl) ⟨Nat.le_of_ble_eq_true rfl, Nat.le_of_ble_eq_true rfl⟩ ⟨rfl, rfl⟩ dX2_copy_8 (fun r μ1 w1 => ?_)
  obtain ⟨rfl, -⟩ := id w1
  refine z_aload_0 dX2_copy_11 ?_
  refine z_getF (h + 5) 5 rfl f_X2_21 (hh.at 0 rfl) rfl rfl dX2_copy_12 ?_
  refine z_aload_1 dX2_copy_15 ?_
  refine z_getF (g + 5) 5 rfl f_X2_21 (hg.at 0 rfl) rfl rfl dX2_copy_16 ?_
  refine z_callV1 (k_X5_copy hh hg hd) m_X5_copy (hh.at 5 rfl) l_X2_52 (Nat.le_of_ble_eq_true rfl) ⟨Nat.le_of_ble_eq_true rfl, Nat.le_of_ble_eq_true rfl⟩ ⟨rfl, rfl⟩ dX2_copy_19 (fun r μ2 w2 => ?_)
  obtain ⟨rfl, -⟩ := id w2
  refine z_aload_0 dX2_copy_22 ?_
  refine z_getF (h + 12) 12 rfl f_X2_28 (hh.at 0 rfl) rfl rfl dX2_copy_23 ?_
  refine z_aload_1 dX2_copy_26 ?_
  refine z_getF (g + 12) 12 rfl f_X2_28 (hg.at 0 rfl) rfl rfl dX2_copy_27 ?_
  refine z_callV1 (k_X9_copy hh hg hd) m_X9_copy (hh.at 12 rfl) l_X2_55 (Nat.le_of_ble_eq_true rfl) ⟨Nat.le_of_ble_eq_true rfl, Nat.le_of_ble_eq_true rfl⟩ ⟨rfl, rfl⟩ dX2_copy_30 (fun r μ3 w3 => ?_)
  obtain ⟨rfl, -⟩ := id w3
  refine z_aload_0 dX2_copy_33 ?_
  refine z_getF (h + 18) 18 rfl f_X2_35 (hh.at 0 rfl) rfl rfl dX2_copy_34 ?_
  refine z_aload_1 dX2_copy_37 ?_
  refine z_getF (g + 18) 18 rfl f_X2_35 (hg.at 0 rfl) rfl rfl dX2_copy_38 ?_
  refine z_callV1 (k_X7_copy hh hg hd) m_X7_copy (hh.at 18 rfl) l_X2_58 (Nat.le_of_ble_eq_true rfl) ⟨Nat.le_of_ble_eq_true rfl, Nat.le_of_ble_eq_true rfl⟩ ⟨rfl, rfl⟩ dX2_copy_41 (fun r μ4 w4 => ?_)
  obtain ⟨rfl, -⟩ := id w4
  exact z_vret dX2_copy_44 (by
    have a1 : ∀ x, (g ≤ x ∧ x < g + 22) → μ1 x = μ x := fun x hx => w1.2.2.2.2.2.2 x (by omega)
    have a2 : ∀ x, (g ≤ x ∧ x < g + 22) → μ2 x = μ1 x := fun x hx => w2.2.2.2 x (by omega)
    have a3 : ∀ x, (g ≤ x ∧ x < g + 22) → μ3 x = μ2 x := fun x hx => w3.2.2.2 x (by omega)
    have b4 : ∀ x, x < h + 18 ∨ h + 22 ≤ x → μ4 x = μ3 x := fun x hx => w4.2.2.2 x (by omega)
    have b3 : ∀ x, x < h + 12 ∨ h + 18 ≤ x → μ3 x = μ2 x := fun x hx => w3.2.2.2 x (by omega)
    have b2 : ∀ x, x < h + 5 ∨ h + 12 ≤ x → μ2 x = μ1 x := fun x hx => w2.2.2.2 x (by omega)
    refine ⟨rfl, zHV_eq ok (fun i i0 i1 => ?_) (fun i i0 i1 => ?_) ?_ ?_ ?_ (fun i i0 i1 => ?_) ?_ (fun i i0 i1 => ?_) ?_ (fun i i0 i1 => ?_) ?_, ?_⟩
    · rw [b4 _ (by omega), b3 _ (by omega), b2 _ (by omega), b4 _ (by omega), b3 _ (by omega), b2 _ (by omega)]; exact w1.2.1 i i0 i1
    · rw [b4 _ (by omega), b3 _ (by omega), b2 _ (by omega)]; exact w1.2.2.1 i i0 i1
    · rw [b4 _ (by omega), b3 _ (by omega), b2 _ (by omega)]; exact w1.2.2.2.1
    · rw [b4 _ (by omega), b3 _ (by omega), b2 _ (by omega)]; exact w1.2.2.2.2.1
    · rw [b4 _ (by omega), b3 _ (by omega), b2 _ (by omega)]; exact w1.2.2.2.2.2.1
    · have := w2.2.1 i i0 i1
      rw [a1 (g + 6) (by omega), a1 (g + 7) (by omega), a1 (g + 8) (by omega), a1 (g + 9) (by omega), a1 (g + 10) (by omega), a1 (g + 11) (by omega)] at this
      rw [b4 (h + 6) (by omega), b3 (h + 6) (by omega), b4 (h + 7) (by omega), b3 (h + 7) (by omega), b4 (h + 8) (by omega), b3 (h + 8) (by omega), b4 (h + 9) (by omega), b3 (h + 9) (by omega), b4 (h + 10) (by omega), b3 (h + 10) (by omega), b4 (h + 11) (by omega), b3 (h + 11) (by omega)]; exact this
    · rw [b4 _ (by omega), b3 _ (by omega), w2.2.2.1, a1 _ (by omega)]
    · have := w3.2.1 i i0 i1
      rw [a2 (g + 13) (by omega), a1 (g + 13) (by omega), a2 (g + 14) (by omega), a1 (g + 14) (by omega), a2 (g + 15) (by omega), a1 (g + 15) (by omega), a2 (g + 16) (by omega), a1 (g + 16) (by omega), a2 (g + 17) (by omega), a1 (g + 17) (by omega)] at this
      rw [b4 (h + 13) (by omega), b4 (h + 14) (by omega), b4 (h + 15) (by omega), b4 (h + 16) (by omega), b4 (h + 17) (by omega)]; exact this
    · rw [b4 _ (by omega), w3.2.2.1, a2 _ (by omega), a1 _ (by omega)]
    · have := w4.2.1 i i0 i1
      rw [a3 (g + 19) (by omega), a2 (g + 19) (by omega), a1 (g + 19) (by omega), a3 (g + 20) (by omega), a2 (g + 20) (by omega), a1 (g + 20) (by omega), a3 (g + 21) (by omega), a2 (g + 21) (by omega), a1 (g + 21) (by omega)] at this
      exact this
    · rw [w4.2.2.1, a3 _ (by omega), a2 _ (by omega), a1 _ (by omega)]
    · intro x hx
      rw [b4 _ (by omega), b3 _ (by omega), b2 _ (by omega), w1.2.2.2.2.2.2 x (by omega)])
set_option maxRecDepth 100000 in
set_option maxHeartbeats 4000000 in
theorem k_X1_restart {l : Launch} {E : zE} {h : Nat} {μ : zM} (hh : zAt zp2 h) : Ct l E yX1_restart cX1_restart 2 none ({ frames := 0, cells := 0, slots := 0, locals := 0 }) [zR (h + 1)] μ (fun r ν => r = none ∧ (∀ i : Int, 0 ≤ i → i < 36 → ν (h + 2) i = 0 ∧ ν (h + 3) i = 0) ∧ ν (h + 1) 3 = 0 ∧ ν (h + 1) 4 = 2 ∧ ν (h + 1) 5 = 0 ∧ zFr (h + 1) 4 μ ν) := by
  refine Ct.of RX1 [zR (h + 1), zU] (by decide +kernel) rfl ⟨rfl, rfl⟩ rfl (Nat.le_of_ble_eq_true rfl) (fun X hX hc0 ha0 => ?_)
  subst hX
  have L2 : ∀ (k : Nat) (ξ : zM) (i : Int), 0 ≤ i → i ≤ 36 → (∀ j : Int, 0 ≤ j → j < i → ξ (h + 2) j = 0 ∧ ξ (h + 3) j = 0) → zFr (h + 1) 4 μ ξ → 36 - i < k → MW X E cX1_restart RX1 ({ frames := 0, cells := 0, slots := 0, locals := 0 }) none (fun r ν => r = none ∧ (∀ i : Int, 0 ≤ i → i < 36 → ν (h + 2) i = 0 ∧ ν (h + 3) i = 0) ∧ ν (h + 1) 3 = 0 ∧ ν (h + 1) 4 = 2 ∧ ν (h + 1) 5 = 0 ∧ zFr (h + 1) 4 μ ν) 2 [zR (h + 1), zI i] [] ξ := by
    intro k
    induction k with
    | zero => intro ξ i h1 h2 hz hf h3; omega
    | succ k ih =>
      intro ξ i h1 h2 hz hf h3
      refine z_iload_1 dX1_restart_2 ?_
      refine z_bipush dX1_restart_3 (by decide) ?_
      refine z_icmpge (tgt := 28) dX1_restart_5 (by decide) (fun h_5 => ?_) (fun h_5 => ?_)
      · refine z_aload_0 dX1_restart_28 ?_
        refine z_iconst dX1_restart_29 (by decide) ?_
        refine z_putI 3 rfl f_X1_22 p_1_3 (hh.at 1 rfl) rfl rfl dX1_restart_30 ?_
        refine z_aload_0 dX1_restart_33 ?_
        refine z_iconst dX1_restart_34 (by decide) ?_
        refine z_putI 4 rfl f_X1_26 p_1_4 (hh.at 1 rfl) rfl rfl dX1_restart_35 ?_
        refine z_aload_0 dX1_restart_38 ?_
        refine z_iconst dX1_restart_39 (by decide) ?_
        refine z_putI 5 rfl f_X1_29 p_1_5 (hh.at 1 rfl) rfl rfl dX1_restart_40 ?_
        exact z_vret dX1_restart_43 (by refine ⟨rfl, fun j j0 j1 => ?_, by rw [zup_ne (by omega), zup_ne (by omega), zup_eq], by rw [zup_ne (by omega), zup_eq], zup_eq, zFr_tr hf (zFr_tr (zFr_tr (zFr_up (by omega) (by omega)) (zFr_up (by omega) (by omega))) (zFr_up (by omega) (by omega)))⟩; simp only [zup_ap, Nat.reduceEqDiff, Nat.add_left_cancel_iff, false_and, if_false]; exact hz j j0 (by omega))
      · refine z_aload_0 dX1_restart_8 ?_
        refine z_getF (h + 2) 1 rfl f_X1_9 (hh.at 1 rfl) rfl rfl dX1_restart_9 ?_
        refine z_iload_1 dX1_restart_12 ?_
        refine z_iconst dX1_restart_13 (by decide) ?_
        refine z_zast (by decide) (hh.at 2 rfl) (by omega) (by omega) dX1_restart_14 ?_
        refine z_aload_0 dX1_restart_15 ?_
        refine z_getF (h + 3) 2 rfl f_X1_15 (hh.at 1 rfl) rfl rfl dX1_restart_16 ?_
        refine z_iload_1 dX1_restart_19 ?_
        refine z_iconst dX1_restart_20 (by decide) ?_
        refine z_iast (hh.at 3 rfl) (by omega) (by omega) dX1_restart_21 ?_
        refine z_iinc_1 rfl dX1_restart_22 (by omega) ?_
        refine z_goto (tgt := 2) dX1_restart_25 (by decide) ?_
        refine ih _ (i + 1) (by omega) (by omega) (fun j j0 j1 => ?_) (zFr_tr hf (zFr_tr (zFr_up (by omega) (by omega)) (zFr_up (by omega) (by omega)))) (by omega)
        simp only [zup_ap, Nat.reduceEqDiff, Nat.add_left_cancel_iff, false_and, true_and, if_false]
        by_cases q : j = i
        · rw [if_pos q, if_pos q]; exact ⟨rfl, rfl⟩
        · rw [if_neg q, if_neg q]; exact hz j j0 (by omega)
  refine z_iconst dX1_restart_0 (by decide) ?_
  refine z_istore_1 rfl dX1_restart_1 ?_
  exact L2 37 _ 0 (by omega) (by omega) (fun j j0 j1 => by omega) zFr_rf (by omega)
set_option maxRecDepth 100000 in
set_option maxHeartbeats 4000000 in
theorem k_X2_restart {l : Launch} {E : zE} {h : Nat} {μ : zM} (hh : zAt zp2 h) : Ct l E yX2_restart cX2_restart 1 none ({ frames := 1, cells := 0, slots := 0, locals := 21 }) [zR h] μ (fun r ν => r = none ∧ zHV ν h = zV0 ∧ zFr h 22 μ ν) := by
  refine Ct.of RX2 [zR h] (by decide +kernel) rfl ⟨rfl, rfl⟩ rfl (Nat.le_of_ble_eq_true rfl) (fun X hX hc0 ha0 => ?_)
  subst hX
  refine z_aload_0 dX2_restart_0 ?_
  refine z_getF (h + 1) 1 rfl f_X2_12 (hh.at 0 rfl) rfl rfl dX2_restart_1 ?_
  refine z_callV0 (k_X1_restart hh) m_X1_restart (hh.at 1 rfl) l_X2_39 (Nat.le_of_ble_eq_true rfl) ⟨Nat.le_of_ble_eq_true rfl, Nat.le_of_ble_eq_true rfl⟩ ⟨rfl, rfl⟩ dX2_restart_4 (fun r μ1 hp => ?_)
  obtain ⟨rfl, w1, w2, w3, w4, w5⟩ := hp
  refine z_aload_0 dX2_restart_7 ?_
  refine z_getF (h + 5) 5 rfl f_X2_21 (hh.at 0 rfl) rfl rfl dX2_restart_8 ?_
  refine z_iconst dX2_restart_11 (by decide) ?_
  refine z_putI 6 rfl f_X2_42 p_5_6 (hh.at 5 rfl) rfl rfl dX2_restart_12 ?_
  refine z_aload_0 dX2_restart_15 ?_
  refine z_getF (h + 12) 12 rfl f_X2_28 (hh.at 0 rfl) rfl rfl dX2_restart_16 ?_
  refine z_iconst dX2_restart_19 (by decide) ?_
  refine z_putI 5 rfl f_X2_46 p_9_5 (hh.at 12 rfl) rfl rfl dX2_restart_20 ?_
  refine z_aload_0 dX2_restart_23 ?_
  refine z_getF (h + 18) 18 rfl f_X2_35 (hh.at 0 rfl) rfl rfl dX2_restart_24 ?_
  refine z_iconst dX2_restart_27 (by decide) ?_
  refine z_putI 3 rfl f_X2_47 p_7_3 (hh.at 18 rfl) rfl rfl dX2_restart_28 ?_
  exact z_vret dX2_restart_31 (by
    refine ⟨rfl, ?_, fun a ha => ?_⟩
    · generalize hx : zup (zup (zup μ1 (h + 5) 6 0) (h + 12) 5 0) (h + 18) 3 0 = ξ
      have e1 : ∀ i : Int, 0 ≤ i → i < 36 → ξ (h + 2) i = 0 ∧ ξ (h + 3) i = 0 := fun i i0 i1 => by
        subst hx; rw [zup_id (by omega), zup_id (by omega), zup_id (by omega), zup_id (by omega), zup_id (by omega), zup_id (by omega)]; exact w1 i i0 i1
      have e2 : ξ (h + 1) 3 = 0 ∧ ξ (h + 1) 4 = 2 ∧ ξ (h + 1) 5 = 0 ∧ ξ (h + 5) 6 = 0 ∧ ξ (h + 12) 5 = 0 ∧ ξ (h + 18) 3 = 0 := by
        subst hx
        refine ⟨?_, ?_, ?_, ?_, ?_, ?_⟩ <;> repeat (first | rw [zup_eq] | rw [zup_id (by omega)] | assumption)
      obtain ⟨e3, e4, e5, e6, e7, e8⟩ := e2
      funext k i
      match k with
      | 0 => (show (if 0 ≤ i ∧ i < 36 then ξ (h + 2) i else 0) = (0 : Int)); split; exact (e1 i (by omega) (by omega)).1; rfl
      | 1 => (show (if 0 ≤ i ∧ i < 36 then ξ (h + 3) i else 0) = (0 : Int)); split; exact (e1 i (by omega) (by omega)).2; rfl
      | 2 => (show (if 0 ≤ i ∧ i < ξ (h + 1) 3 then ξ (h + 4) i else 0) = (0 : Int)); rw [e3, if_neg (by omega)]
      | 3 => (show (if i = 0 then ξ (h + 1) 3 else if i = 1 then ξ (h + 1) 4 else if i = 2 then ξ (h + 1) 5 else if i = 3 then ξ (h + 5) 6 else if i = 4 then ξ (h + 12) 5 else if i = 5 then ξ (h + 18) 3 else 0) = (if 3 = 3 ∧ i = 1 then (2 : Int) else 0)); rw [e3, e4, e5, e6, e7, e8]; repeat' split; all_goals omega
      | 4 => (show (if 0 ≤ i ∧ i < ξ (h + 5) 6 then ξ (h + 6) i else 0) = (0 : Int)); rw [e6, if_neg (by omega)]
      | 5 => (show (if 0 ≤ i ∧ i < ξ (h + 5) 6 then ξ (h + 7) i else 0) = (0 : Int)); rw [e6, if_neg (by omega)]
      | 6 => (show (if 0 ≤ i ∧ i < ξ (h + 5) 6 then ξ (h + 8) i else 0) = (0 : Int)); rw [e6, if_neg (by omega)]
      | 7 => (show (if 0 ≤ i ∧ i < ξ (h + 5) 6 then ξ (h + 9) i else 0) = (0 : Int)); rw [e6, if_neg (by omega)]
      | 8 => (show (if 0 ≤ i ∧ i < ξ (h + 5) 6 then ξ (h + 10) i else 0) = (0 : Int)); rw [e6, if_neg (by omega)]
      | 9 => (show (if 0 ≤ i ∧ i < ξ (h + 5) 6 then ξ (h + 11) i else 0) = (0 : Int)); rw [e6, if_neg (by omega)]
      | 10 => (show (if 0 ≤ i ∧ i < ξ (h + 12) 5 then ξ (h + 13) i else 0) = (0 : Int)); rw [e7, if_neg (by omega)]
      | 11 => (show (if 0 ≤ i ∧ i < ξ (h + 12) 5 then ξ (h + 14) i else 0) = (0 : Int)); rw [e7, if_neg (by omega)]
      | 12 => (show (if 0 ≤ i ∧ i < ξ (h + 12) 5 then ξ (h + 15) i else 0) = (0 : Int)); rw [e7, if_neg (by omega)]
      | 13 => (show (if 0 ≤ i ∧ i < ξ (h + 12) 5 then ξ (h + 16) i else 0) = (0 : Int)); rw [e7, if_neg (by omega)]
      | 14 => (show (if 0 ≤ i ∧ i < ξ (h + 12) 5 then ξ (h + 17) i else 0) = (0 : Int)); rw [e7, if_neg (by omega)]
      | 15 => (show (if 0 ≤ i ∧ i < ξ (h + 18) 3 then ξ (h + 19) i else 0) = (0 : Int)); rw [e8, if_neg (by omega)]
      | 16 => (show (if 0 ≤ i ∧ i < ξ (h + 18) 3 then ξ (h + 20) i else 0) = (0 : Int)); rw [e8, if_neg (by omega)]
      | 17 => (show (if 0 ≤ i ∧ i < ξ (h + 18) 3 then ξ (h + 21) i else 0) = (0 : Int)); rw [e8, if_neg (by omega)]
      | n + 18 => (show (0 : Int) = if n + 18 = 3 ∧ i = 1 then (2 : Int) else 0); rw [if_neg (by omega)]
    · rw [zup_row (by omega), zup_row (by omega), zup_row (by omega), w5 a (by omega)])
set_option maxRecDepth 100000 in
set_option maxHeartbeats 4000000 in
theorem k_X2_lay {l : Launch} {E : zE} {h : Nat} {μ : zM} (hh : zAt zp2 h) (ok : zOK (zHV μ h)) {s b : Int} : Ct l E yX2_lay cX2_lay 4 (some .int) ({ frames := 1, cells := 0, slots := 0, locals := 23 }) [zR h, zI s, zI b] μ (fun r ν => r = some (zI (spL (zHV μ h) s b).1) ∧ zHV ν h = (spL (zHV μ h) s b).2 ∧ zFr h 22 μ ν) := by
  refine Ct.of RX2 [zR h, zI s, zI b, zU] (by decide +kernel) rfl ⟨rfl, rfl⟩ rfl (Nat.le_of_ble_eq_true rfl) (fun X hX hc0 ha0 => ?_)
  subst hX
  obtain ⟨nb, nf, nd, np, ns, nr⟩ := zOK_n ok
  refine z_aload_0 dX2_lay_0 ?_
  refine z_getF (h + 5) 5 rfl f_X2_21 (hh.at 0 rfl) rfl rfl dX2_lay_1 ?_
  refine z_iload_1 dX2_lay_4 ?_
  refine z_callV1 (k_X5_has hh ok) m_X5_has (hh.at 5 rfl) l_X2_61 (Nat.le_of_ble_eq_true rfl) ⟨Nat.le_of_ble_eq_true rfl, Nat.le_of_ble_eq_true rfl⟩ ⟨rfl, rfl⟩ dX2_lay_5 (fun r μ1 hp => ?_)
  obtain ⟨rfl, hv⟩ := hp
  replace hv := hv.symm
  subst hv
  refine z_ifeq (tgt := 27) dX2_lay_8 (by decide) (fun h_8 => ?_) (fun h_8 => ?_)
  · replace h_8 := zb_0.mp h_8
    refine z_bipush dX2_lay_27 (by decide) ?_
    exact z_iret dX2_lay_29 (zans (zif_t (by first | exact Or.inl h_8 | exact Or.inr ⟨h_13, h_24⟩)) rfl zFr_rf)
  · replace h_8 := zb_n.mp h_8
    refine z_iload_2 dX2_lay_11 ?_
    refine z_iconst dX2_lay_12 (by decide) ?_
    refine z_icmpeq (tgt := 30) dX2_lay_13 (by decide) (fun h_13 => ?_) (fun h_13 => ?_)
    · refine z_iload_2 dX2_lay_30 ?_
      refine z_iconst dX2_lay_31 (by decide) ?_
      refine z_icmpeq (tgt := 50) dX2_lay_32 (by decide) (fun h_32 => ?_) (fun h_32 => ?_)
      · refine z_aload_0 dX2_lay_50 ?_
        refine z_getF (h + 5) 5 rfl f_X2_21 (hh.at 0 rfl) rfl rfl dX2_lay_51 ?_
        refine z_getF (h + 11) 6 rfl f_X2_72 (hh.at 5 rfl) rfl rfl dX2_lay_54 ?_
        refine z_iload_1 dX2_lay_57 ?_
        refine z_iald (hh.at 11 rfl) (by omega) (by omega) dX2_lay_58 ?_
        refine z_istore_3 rfl dX2_lay_59 ?_
        refine z_aload_0 dX2_lay_60 ?_
        refine z_getF (h + 5) 5 rfl f_X2_21 (hh.at 0 rfl) rfl rfl dX2_lay_61 ?_
        refine z_getF (h + 11) 6 rfl f_X2_72 (hh.at 5 rfl) rfl rfl dX2_lay_64 ?_
        refine z_iload_1 dX2_lay_67 ?_
        refine z_iload_2 dX2_lay_68 ?_
        refine z_iast (hh.at 11 rfl) (by omega) (by omega) dX2_lay_69 ?_
        refine z_iload_3 dX2_lay_70 ?_
        exact z_iret dX2_lay_71 (zans ((zif_f (by rintro (q | q); exact q h_8; (first | exact q.1 (by assumption) | exact q.2 h_24))).trans ((zif_f (by rintro ⟨q1, q2⟩; (first | exact q1 h_32 | exact h_44 q2))).trans (by rw [zHV_9 h_8.1 h_8.2]))) (zHV_l h_8.1 h_8.2) (zFr_up (by omega) (by omega)))
      · refine z_aload_0 dX2_lay_35 ?_
        refine z_getF (h + 5) 5 rfl f_X2_21 (hh.at 0 rfl) rfl rfl dX2_lay_36 ?_
        refine z_iload_1 dX2_lay_39 ?_
        refine z_iload_2 dX2_lay_40 ?_
        refine z_callV2 (k_X5_isTakenFor hh ok) m_X5_isTakenFor (hh.at 5 rfl) l_X2_68 (Nat.le_of_ble_eq_true rfl) ⟨Nat.le_of_ble_eq_true rfl, Nat.le_of_ble_eq_true rfl⟩ ⟨rfl, rfl⟩ dX2_lay_41 (fun r μ1 hp => ?_)
        obtain ⟨rfl, hv⟩ := hp
        replace hv := hv.symm
        subst hv
        refine z_ifeq (tgt := 50) dX2_lay_44 (by decide) (fun h_44 => ?_) (fun h_44 => ?_)
        · replace h_44 := zb_0.mp h_44
          refine z_aload_0 dX2_lay_50 ?_
          refine z_getF (h + 5) 5 rfl f_X2_21 (hh.at 0 rfl) rfl rfl dX2_lay_51 ?_
          refine z_getF (h + 11) 6 rfl f_X2_72 (hh.at 5 rfl) rfl rfl dX2_lay_54 ?_
          refine z_iload_1 dX2_lay_57 ?_
          refine z_iald (hh.at 11 rfl) (by omega) (by omega) dX2_lay_58 ?_
          refine z_istore_3 rfl dX2_lay_59 ?_
          refine z_aload_0 dX2_lay_60 ?_
          refine z_getF (h + 5) 5 rfl f_X2_21 (hh.at 0 rfl) rfl rfl dX2_lay_61 ?_
          refine z_getF (h + 11) 6 rfl f_X2_72 (hh.at 5 rfl) rfl rfl dX2_lay_64 ?_
          refine z_iload_1 dX2_lay_67 ?_
          refine z_iload_2 dX2_lay_68 ?_
          refine z_iast (hh.at 11 rfl) (by omega) (by omega) dX2_lay_69 ?_
          refine z_iload_3 dX2_lay_70 ?_
          exact z_iret dX2_lay_71 (zans ((zif_f (by rintro (q | q); exact q h_8; (first | exact q.1 (by assumption) | exact q.2 h_24))).trans ((zif_f (by rintro ⟨q1, q2⟩; (first | exact q1 h_32 | exact h_44 q2))).trans (by rw [zHV_9 h_8.1 h_8.2]))) (zHV_l h_8.1 h_8.2) (zFr_up (by omega) (by omega)))
        · replace h_44 := zb_n.mp h_44
          refine z_bipush dX2_lay_47 (by decide) ?_
          exact z_iret dX2_lay_49 (zans ((zif_f (by rintro (q | q); exact q h_8; (first | exact q.1 (by assumption) | exact q.2 h_24))).trans (zif_t ⟨h_32, h_44⟩)) rfl zFr_rf)
    · refine z_aload_0 dX2_lay_16 ?_
      refine z_getF (h + 1) 1 rfl f_X2_12 (hh.at 0 rfl) rfl rfl dX2_lay_17 ?_
      refine z_iload_2 dX2_lay_20 ?_
      refine z_callV1 (k_X1_hasBed hh ok) m_X1_hasBed (hh.at 1 rfl) l_X2_65 (Nat.le_of_ble_eq_true rfl) ⟨Nat.le_of_ble_eq_true rfl, Nat.le_of_ble_eq_true rfl⟩ ⟨rfl, rfl⟩ dX2_lay_21 (fun r μ1 hp => ?_)
      obtain ⟨rfl, hv⟩ := hp
      replace hv := hv.symm
      subst hv
      refine z_ifne (tgt := 30) dX2_lay_24 (by decide) (fun h_24 => ?_) (fun h_24 => ?_)
      · replace h_24 := zb_n.mp h_24
        refine z_iload_2 dX2_lay_30 ?_
        refine z_iconst dX2_lay_31 (by decide) ?_
        refine z_icmpeq (tgt := 50) dX2_lay_32 (by decide) (fun h_32 => ?_) (fun h_32 => ?_)
        · refine z_aload_0 dX2_lay_50 ?_
          refine z_getF (h + 5) 5 rfl f_X2_21 (hh.at 0 rfl) rfl rfl dX2_lay_51 ?_
          refine z_getF (h + 11) 6 rfl f_X2_72 (hh.at 5 rfl) rfl rfl dX2_lay_54 ?_
          refine z_iload_1 dX2_lay_57 ?_
          refine z_iald (hh.at 11 rfl) (by omega) (by omega) dX2_lay_58 ?_
          refine z_istore_3 rfl dX2_lay_59 ?_
          refine z_aload_0 dX2_lay_60 ?_
          refine z_getF (h + 5) 5 rfl f_X2_21 (hh.at 0 rfl) rfl rfl dX2_lay_61 ?_
          refine z_getF (h + 11) 6 rfl f_X2_72 (hh.at 5 rfl) rfl rfl dX2_lay_64 ?_
          refine z_iload_1 dX2_lay_67 ?_
          refine z_iload_2 dX2_lay_68 ?_
          refine z_iast (hh.at 11 rfl) (by omega) (by omega) dX2_lay_69 ?_
          refine z_iload_3 dX2_lay_70 ?_
          exact z_iret dX2_lay_71 (zans ((zif_f (by rintro (q | q); exact q h_8; (first | exact q.1 (by assumption) | exact q.2 h_24))).trans ((zif_f (by rintro ⟨q1, q2⟩; (first | exact q1 h_32 | exact h_44 q2))).trans (by rw [zHV_9 h_8.1 h_8.2]))) (zHV_l h_8.1 h_8.2) (zFr_up (by omega) (by omega)))
        · refine z_aload_0 dX2_lay_35 ?_
          refine z_getF (h + 5) 5 rfl f_X2_21 (hh.at 0 rfl) rfl rfl dX2_lay_36 ?_
          refine z_iload_1 dX2_lay_39 ?_
          refine z_iload_2 dX2_lay_40 ?_
          refine z_callV2 (k_X5_isTakenFor hh ok) m_X5_isTakenFor (hh.at 5 rfl) l_X2_68 (Nat.le_of_ble_eq_true rfl) ⟨Nat.le_of_ble_eq_true rfl, Nat.le_of_ble_eq_true rfl⟩ ⟨rfl, rfl⟩ dX2_lay_41 (fun r μ1 hp => ?_)
          obtain ⟨rfl, hv⟩ := hp
          replace hv := hv.symm
          subst hv
          refine z_ifeq (tgt := 50) dX2_lay_44 (by decide) (fun h_44 => ?_) (fun h_44 => ?_)
          · replace h_44 := zb_0.mp h_44
            refine z_aload_0 dX2_lay_50 ?_
            refine z_getF (h + 5) 5 rfl f_X2_21 (hh.at 0 rfl) rfl rfl dX2_lay_51 ?_
            refine z_getF (h + 11) 6 rfl f_X2_72 (hh.at 5 rfl) rfl rfl dX2_lay_54 ?_
            refine z_iload_1 dX2_lay_57 ?_
            refine z_iald (hh.at 11 rfl) (by omega) (by omega) dX2_lay_58 ?_
            refine z_istore_3 rfl dX2_lay_59 ?_
            refine z_aload_0 dX2_lay_60 ?_
            refine z_getF (h + 5) 5 rfl f_X2_21 (hh.at 0 rfl) rfl rfl dX2_lay_61 ?_
            refine z_getF (h + 11) 6 rfl f_X2_72 (hh.at 5 rfl) rfl rfl dX2_lay_64 ?_
            refine z_iload_1 dX2_lay_67 ?_
            refine z_iload_2 dX2_lay_68 ?_
            refine z_iast (hh.at 11 rfl) (by omega) (by omega) dX2_lay_69 ?_
            refine z_iload_3 dX2_lay_70 ?_
            exact z_iret dX2_lay_71 (zans ((zif_f (by rintro (q | q); exact q h_8; (first | exact q.1 (by assumption) | exact q.2 h_24))).trans ((zif_f (by rintro ⟨q1, q2⟩; (first | exact q1 h_32 | exact h_44 q2))).trans (by rw [zHV_9 h_8.1 h_8.2]))) (zHV_l h_8.1 h_8.2) (zFr_up (by omega) (by omega)))
          · replace h_44 := zb_n.mp h_44
            refine z_bipush dX2_lay_47 (by decide) ?_
            exact z_iret dX2_lay_49 (zans ((zif_f (by rintro (q | q); exact q h_8; (first | exact q.1 (by assumption) | exact q.2 h_24))).trans (zif_t ⟨h_32, h_44⟩)) rfl zFr_rf)
      · replace h_24 := zb_0.mp h_24
        refine z_bipush dX2_lay_27 (by decide) ?_
        exact z_iret dX2_lay_29 (zans (zif_t (by first | exact Or.inl h_8 | exact Or.inr ⟨h_13, h_24⟩)) rfl zFr_rf)
set_option maxRecDepth 100000 in
set_option maxHeartbeats 4000000 in
theorem k_X2_isOf {l : Launch} {E : zE} {h : Nat} {μ : zM} (hh : zAt zp2 h) (ok : zOK (zHV μ h)) {k x : Int} : Ct l E yX2_isOf cX2_isOf 3 (some .boolean) ({ frames := 1, cells := 0, slots := 0, locals := 21 }) [zR h, zI k, zI x] μ (fun r ν => r = some (zI (zb (zOf (zHV μ h) k x))) ∧ ν = μ) := by
  refine Ct.of RX2 [zR h, zI k, zI x] (by decide +kernel) rfl ⟨rfl, rfl⟩ rfl (Nat.le_of_ble_eq_true rfl) (fun X hX hc0 ha0 => ?_)
  subst hX
  obtain ⟨nb, nf, nd, np, ns, nr⟩ := zOK_n ok
  refine z_iload_1 dX2_isOf_0 ?_
  by_cases hs_1_0 : k = 0
  · subst hs_1_0
    refine z_tabIn (tgt := 36) dX2_isOf_1 (by decide) (by decide) rfl (by decide) ?_
    refine z_iload_2 dX2_isOf_36 ?_
    refine z_callN1 (k_X11_isCell) m_X11_isCell n_X2_83 (Nat.le_of_ble_eq_true rfl) ⟨Nat.le_of_ble_eq_true rfl, Nat.le_of_ble_eq_true rfl⟩ ⟨rfl, rfl⟩ dX2_isOf_37 (fun r μ1 hp => ?_)
    obtain ⟨rfl, hv⟩ := hp
    replace hv := hv.symm
    subst hv
    exact z_zret zb_01 dX2_isOf_40 (⟨congrArg (fun z => (some (zI z) : Option zAV)) (zb_c (by unfold zOf; rw [zHV_pc]; omega)), rfl⟩)
  by_cases hs_1_1 : k = 1
  · subst hs_1_1
    refine z_tabIn (tgt := 51) dX2_isOf_1 (by decide) (by decide) rfl (by decide) ?_
    refine z_aload_0 dX2_isOf_51 ?_
    refine z_getF (h + 5) 5 rfl f_X2_21 (hh.at 0 rfl) rfl rfl dX2_isOf_52 ?_
    refine z_iload_2 dX2_isOf_55 ?_
    refine z_callV1 (k_X5_has hh ok) m_X5_has (hh.at 5 rfl) l_X2_61 (Nat.le_of_ble_eq_true rfl) ⟨Nat.le_of_ble_eq_true rfl, Nat.le_of_ble_eq_true rfl⟩ ⟨rfl, rfl⟩ dX2_isOf_56 (fun r μ1 hp => ?_)
    obtain ⟨rfl, hv⟩ := hp
    replace hv := hv.symm
    subst hv
    exact z_zret zb_01 dX2_isOf_59 (⟨congrArg (fun z => (some (zI z) : Option zAV)) (zb_c (by unfold zOf; rw [zHV_pc]; omega)), rfl⟩)
  by_cases hs_1_2 : k = 2
  · subst hs_1_2
    refine z_tabIn (tgt := 51) dX2_isOf_1 (by decide) (by decide) rfl (by decide) ?_
    refine z_aload_0 dX2_isOf_51 ?_
    refine z_getF (h + 5) 5 rfl f_X2_21 (hh.at 0 rfl) rfl rfl dX2_isOf_52 ?_
    refine z_iload_2 dX2_isOf_55 ?_
    refine z_callV1 (k_X5_has hh ok) m_X5_has (hh.at 5 rfl) l_X2_61 (Nat.le_of_ble_eq_true rfl) ⟨Nat.le_of_ble_eq_true rfl, Nat.le_of_ble_eq_true rfl⟩ ⟨rfl, rfl⟩ dX2_isOf_56 (fun r μ1 hp => ?_)
    obtain ⟨rfl, hv⟩ := hp
    replace hv := hv.symm
    subst hv
    exact z_zret zb_01 dX2_isOf_59 (⟨congrArg (fun z => (some (zI z) : Option zAV)) (zb_c (by unfold zOf; rw [zHV_pc]; omega)), rfl⟩)
  by_cases hs_1_3 : k = 3
  · subst hs_1_3
    refine z_tabIn (tgt := 51) dX2_isOf_1 (by decide) (by decide) rfl (by decide) ?_
    refine z_aload_0 dX2_isOf_51 ?_
    refine z_getF (h + 5) 5 rfl f_X2_21 (hh.at 0 rfl) rfl rfl dX2_isOf_52 ?_
    refine z_iload_2 dX2_isOf_55 ?_
    refine z_callV1 (k_X5_has hh ok) m_X5_has (hh.at 5 rfl) l_X2_61 (Nat.le_of_ble_eq_true rfl) ⟨Nat.le_of_ble_eq_true rfl, Nat.le_of_ble_eq_true rfl⟩ ⟨rfl, rfl⟩ dX2_isOf_56 (fun r μ1 hp => ?_)
    obtain ⟨rfl, hv⟩ := hp
    replace hv := hv.symm
    subst hv
    exact z_zret zb_01 dX2_isOf_59 (⟨congrArg (fun z => (some (zI z) : Option zAV)) (zb_c (by unfold zOf; rw [zHV_pc]; omega)), rfl⟩)
  by_cases hs_1_4 : k = 4
  · subst hs_1_4
    refine z_tabIn (tgt := 41) dX2_isOf_1 (by decide) (by decide) rfl (by decide) ?_
    refine z_iload_2 dX2_isOf_41 ?_
    refine z_ifne (tgt := 49) dX2_isOf_42 (by decide) (fun h_42 => ?_) (fun h_42 => ?_)
    · refine z_iconst dX2_isOf_49 (by decide) ?_
      exact z_zret (by decide) dX2_isOf_50 (by first | exact zb_r (by unfold zOf; rw [zHV_pc]; omega) rfl | exact zb_r0 (by unfold zOf; rw [zHV_pc]; omega) rfl)
    · refine z_iconst dX2_isOf_45 (by decide) ?_
      refine z_goto (tgt := 50) dX2_isOf_46 (by decide) ?_
      exact z_zret (by decide) dX2_isOf_50 (by first | exact zb_r (by unfold zOf; rw [zHV_pc]; omega) rfl | exact zb_r0 (by unfold zOf; rw [zHV_pc]; omega) rfl)
  refine z_tabOut (tgt := 60) dX2_isOf_1 (by omega) (by decide) ?_
  refine z_iconst dX2_isOf_60 (by decide) ?_
  exact z_zret (by decide) dX2_isOf_61 (by first | exact zb_r (by unfold zOf; rw [zHV_pc]; omega) rfl | exact zb_r0 (by unfold zOf; rw [zHV_pc]; omega) rfl)
set_option maxRecDepth 100000 in
set_option maxHeartbeats 4000000 in
theorem k_X2_addSound {l : Launch} {E : zE} {h : Nat} {μ : zM} (hh : zAt zp2 h) (ok : zOK (zHV μ h)) {k x a b v : Int} : Ct l E yX2_addSound cX2_addSound 6 (some .int) ({ frames := 2, cells := 0, slots := 0, locals := 47 }) [zR h, zI k, zI x, zI a, zI b, zI v] μ (fun r ν => r = some (zI (spN (zHV μ h) k x a b v).1) ∧ zHV ν h = (spN (zHV μ h) k x a b v).2 ∧ zFr h 22 μ ν) := by
  refine Ct.of RX2 [zR h, zI k, zI x, zI a, zI b, zI v] (by decide +kernel) rfl ⟨rfl, rfl⟩ rfl (Nat.le_of_ble_eq_true rfl) (fun X hX hc0 ha0 => ?_)
  subst hX
  obtain ⟨nb, nf, nd, np, ns, nr⟩ := zOK_n ok
  refine z_aload_0 dX2_addSound_0 ?_
  refine z_iload_1 dX2_addSound_1 ?_
  refine z_iload_2 dX2_addSound_2 ?_
  refine z_callV2 (k_X2_isOf hh ok) m_X2_isOf (hh.at 0 rfl) l_X2_76 (Nat.le_of_ble_eq_true rfl) ⟨Nat.le_of_ble_eq_true rfl, Nat.le_of_ble_eq_true rfl⟩ ⟨rfl, rfl⟩ dX2_addSound_3 (fun r μ1 hp => ?_)
  obtain ⟨rfl, hv⟩ := hp
  replace hv := hv.symm
  subst hv
  refine z_ifeq (tgt := 26) dX2_addSound_6 (by decide) (fun h_6 => ?_) (fun h_6 => ?_)
  · replace h_6 := zb_0.mp h_6
    
    refine z_bipush dX2_addSound_26 (by decide) ?_
    exact z_iret dX2_addSound_28 (by first | exact ⟨rfl, w1, zFr_mono w2 (by omega) (by omega)⟩ | exact zans (zif_t (Or.inl h_6)) rfl zFr_rf)
  · replace h_6 := zb_n.mp h_6
    refine z_aload_0 dX2_addSound_9 ?_
    refine z_getF (h + 12) 12 rfl f_X2_28 (hh.at 0 rfl) rfl rfl dX2_addSound_10 ?_
    refine z_iload_1 dX2_addSound_13 ?_
    refine z_iload_2 dX2_addSound_14 ?_
    refine z_iload_3 dX2_addSound_15 ?_
    refine z_iload_4 dX2_addSound_16 ?_
    refine z_iload_5 dX2_addSound_18 ?_
    refine z_callV5 (k_X9_add hh ok h_6) m_X9_add (hh.at 12 rfl) l_X2_79 (Nat.le_of_ble_eq_true rfl) ⟨Nat.le_of_ble_eq_true rfl, Nat.le_of_ble_eq_true rfl⟩ ⟨rfl, rfl⟩ dX2_addSound_20 (fun r μ1 hp => ?_)
    obtain ⟨rfl, w1, w2⟩ := hp
    refine z_goto (tgt := 28) dX2_addSound_23 (by decide) ?_
    exact z_iret dX2_addSound_28 (by first | exact ⟨rfl, w1, zFr_mono w2 (by omega) (by omega)⟩ | exact zans (zif_t (Or.inl h_6)) rfl zFr_rf)
/-- an item of the text, told as its call is -/
noncomputable def spT (V : zM) (w : Int) (n : Int → Int) : Int × zM := if w = 0 then spW V (n 0) 1 else if w = 1 then spC V (n 0) (n 1) else if w = 2 then spF V (n 0) else if w = 3 then spD V (n 0) else if w = 4 then spB V (n 0) else if w = 5 then spS V (n 0) (n 1) (n 2) (n 3) (n 4) else if w = 6 then spL V (n 0) (n 1) else spN V (w - 7) (n 0) (n 1) (n 2) (n 3)
theorem zansT {V : zM} {w : Int} {n : Int → Int} {sp : Int × zM} {z : Int} {μ ν : zM} {h a m : Nat} (e : spT V w n = sp) (hp : (some (zI z) : Option zAV) = some (zI sp.1) ∧ zHV ν h = sp.2 ∧ zFr a m μ ν) (h0 : h ≤ a) (h1 : a + m ≤ h + 22) : (some (zI z) : Option zAV) = some (zI (spT V w n).1) ∧ zHV ν h = (spT V w n).2 ∧ zFr h 22 μ ν := by rw [e]; exact ⟨hp.1, hp.2.1, zFr_mono hp.2.2 h0 h1⟩
theorem spT_ok {V : zM} {w : Int} {n : Int → Int} (ok : zOK V) : zOK (spT V w n).2 := by
  unfold spT
  repeat' split
  · exact spW_ok ok (Or.inr rfl)
  · exact spC_ok ok
  · exact spF_ok ok
  · exact spD_ok ok
  · exact spB_ok ok
  · exact spS_ok ok
  · exact spL_ok ok
  · exact spN_ok ok
set_option maxRecDepth 100000 in
set_option maxHeartbeats 4000000 in
theorem k_X2_take {l : Launch} {E : zE} {h : Nat} {μ : zM} (hh : zAt zp2 h) (ok : zOK (zHV μ h)) {w : Int} {q : Nat} (hq : zl q = (20, 5)) (hw : 0 ≤ w ∧ w ≤ 20) : Ct l E yX2_take cX2_take 3 (some .int) ({ frames := 3, cells := 0, slots := 0, locals := 72 }) [zR h, zI w, zR q] μ (fun r ν => r = some (zI (spT (zHV μ h) w (μ q)).1) ∧ zHV ν h = (spT (zHV μ h) w (μ q)).2 ∧ zFr h 22 μ ν) := by
  refine Ct.of RX2 [zR h, zI w, zR q] (by decide +kernel) rfl ⟨rfl, rfl⟩ rfl (Nat.le_of_ble_eq_true rfl) (fun X hX hc0 ha0 => ?_)
  subst hX
  refine z_iload_1 dX2_take_0 ?_
  by_cases hs_1_0 : w = 0
  · subst hs_1_0
    refine z_tabIn (tgt := 44) dX2_take_1 (by decide) (by decide) rfl (by decide) ?_
    refine z_aload_0 dX2_take_44 ?_
    refine z_getF (h + 1) 1 rfl f_X2_12 (hh.at 0 rfl) rfl rfl dX2_take_45 ?_
    refine z_aload_2 dX2_take_48 ?_
    refine z_iconst dX2_take_49 (by decide) ?_
    refine z_iald hq (by omega) (by omega) dX2_take_50 ?_
    refine z_iconst dX2_take_51 (by decide) ?_
    refine z_callV2 (k_X1_setWall hh ok (Or.inr rfl)) m_X1_setWall (hh.at 1 rfl) l_X2_86 (Nat.le_of_ble_eq_true rfl) ⟨Nat.le_of_ble_eq_true rfl, Nat.le_of_ble_eq_true rfl⟩ ⟨rfl, rfl⟩ dX2_take_52 (fun r μ1 hp => ?_)
    obtain ⟨rfl, w1, w2⟩ := hp
    exact z_iret dX2_take_55 (zansT (by unfold spT; first | rfl | (rw [if_neg (by assumption), if_neg (by assumption), if_neg (by assumption), if_neg (by assumption), if_neg (by assumption), if_neg (by assumption), if_neg (by assumption)])) ⟨rfl, w1, w2⟩ (by omega) (by omega))
  by_cases hs_1_1 : w = 1
  · subst hs_1_1
    refine z_tabIn (tgt := 56) dX2_take_1 (by decide) (by decide) rfl (by decide) ?_
    refine z_aload_0 dX2_take_56 ?_
    refine z_getF (h + 1) 1 rfl f_X2_12 (hh.at 0 rfl) rfl rfl dX2_take_57 ?_
    refine z_aload_2 dX2_take_60 ?_
    refine z_iconst dX2_take_61 (by decide) ?_
    refine z_iald hq (by omega) (by omega) dX2_take_62 ?_
    refine z_aload_2 dX2_take_63 ?_
    refine z_iconst dX2_take_64 (by decide) ?_
    refine z_iald hq (by omega) (by omega) dX2_take_65 ?_
    refine z_callV2 (k_X1_setCreak hh ok) m_X1_setCreak (hh.at 1 rfl) l_X2_90 (Nat.le_of_ble_eq_true rfl) ⟨Nat.le_of_ble_eq_true rfl, Nat.le_of_ble_eq_true rfl⟩ ⟨rfl, rfl⟩ dX2_take_66 (fun r μ1 hp => ?_)
    obtain ⟨rfl, w1, w2⟩ := hp
    exact z_iret dX2_take_69 (zansT (by unfold spT; first | rfl | (rw [if_neg (by assumption), if_neg (by assumption), if_neg (by assumption), if_neg (by assumption), if_neg (by assumption), if_neg (by assumption), if_neg (by assumption)])) ⟨rfl, w1, w2⟩ (by omega) (by omega))
  by_cases hs_1_2 : w = 2
  · subst hs_1_2
    refine z_tabIn (tgt := 70) dX2_take_1 (by decide) (by decide) rfl (by decide) ?_
    refine z_aload_0 dX2_take_70 ?_
    refine z_getF (h + 1) 1 rfl f_X2_12 (hh.at 0 rfl) rfl rfl dX2_take_71 ?_
    refine z_aload_2 dX2_take_74 ?_
    refine z_iconst dX2_take_75 (by decide) ?_
    refine z_iald hq (by omega) (by omega) dX2_take_76 ?_
    refine z_callV1 (k_X1_setFade hh ok) m_X1_setFade (hh.at 1 rfl) l_X2_94 (Nat.le_of_ble_eq_true rfl) ⟨Nat.le_of_ble_eq_true rfl, Nat.le_of_ble_eq_true rfl⟩ ⟨rfl, rfl⟩ dX2_take_77 (fun r μ1 hp => ?_)
    obtain ⟨rfl, w1, w2⟩ := hp
    exact z_iret dX2_take_80 (zansT (by unfold spT; first | rfl | (rw [if_neg (by assumption), if_neg (by assumption), if_neg (by assumption), if_neg (by assumption), if_neg (by assumption), if_neg (by assumption), if_neg (by assumption)])) ⟨rfl, w1, w2⟩ (by omega) (by omega))
  by_cases hs_1_3 : w = 3
  · subst hs_1_3
    refine z_tabIn (tgt := 81) dX2_take_1 (by decide) (by decide) rfl (by decide) ?_
    refine z_aload_0 dX2_take_81 ?_
    refine z_getF (h + 1) 1 rfl f_X2_12 (hh.at 0 rfl) rfl rfl dX2_take_82 ?_
    refine z_aload_2 dX2_take_85 ?_
    refine z_iconst dX2_take_86 (by decide) ?_
    refine z_iald hq (by omega) (by omega) dX2_take_87 ?_
    refine z_callV1 (k_X1_setDoor hh ok) m_X1_setDoor (hh.at 1 rfl) l_X2_98 (Nat.le_of_ble_eq_true rfl) ⟨Nat.le_of_ble_eq_true rfl, Nat.le_of_ble_eq_true rfl⟩ ⟨rfl, rfl⟩ dX2_take_88 (fun r μ1 hp => ?_)
    obtain ⟨rfl, w1, w2⟩ := hp
    exact z_iret dX2_take_91 (zansT (by unfold spT; first | rfl | (rw [if_neg (by assumption), if_neg (by assumption), if_neg (by assumption), if_neg (by assumption), if_neg (by assumption), if_neg (by assumption), if_neg (by assumption)])) ⟨rfl, w1, w2⟩ (by omega) (by omega))
  by_cases hs_1_4 : w = 4
  · subst hs_1_4
    refine z_tabIn (tgt := 92) dX2_take_1 (by decide) (by decide) rfl (by decide) ?_
    refine z_aload_0 dX2_take_92 ?_
    refine z_getF (h + 1) 1 rfl f_X2_12 (hh.at 0 rfl) rfl rfl dX2_take_93 ?_
    refine z_aload_2 dX2_take_96 ?_
    refine z_iconst dX2_take_97 (by decide) ?_
    refine z_iald hq (by omega) (by omega) dX2_take_98 ?_
    refine z_callV1 (k_X1_addBed hh ok) m_X1_addBed (hh.at 1 rfl) l_X2_101 (Nat.le_of_ble_eq_true rfl) ⟨Nat.le_of_ble_eq_true rfl, Nat.le_of_ble_eq_true rfl⟩ ⟨rfl, rfl⟩ dX2_take_99 (fun r μ1 hp => ?_)
    obtain ⟨rfl, w1, w2⟩ := hp
    exact z_iret dX2_take_102 (zansT (by unfold spT; first | rfl | (rw [if_neg (by assumption), if_neg (by assumption), if_neg (by assumption), if_neg (by assumption), if_neg (by assumption), if_neg (by assumption), if_neg (by assumption)])) ⟨rfl, w1, w2⟩ (by omega) (by omega))
  by_cases hs_1_5 : w = 5
  · subst hs_1_5
    refine z_tabIn (tgt := 103) dX2_take_1 (by decide) (by decide) rfl (by decide) ?_
    refine z_aload_0 dX2_take_103 ?_
    refine z_getF (h + 5) 5 rfl f_X2_21 (hh.at 0 rfl) rfl rfl dX2_take_104 ?_
    refine z_aload_2 dX2_take_107 ?_
    refine z_iconst dX2_take_108 (by decide) ?_
    refine z_iald hq (by omega) (by omega) dX2_take_109 ?_
    refine z_aload_2 dX2_take_110 ?_
    refine z_iconst dX2_take_111 (by decide) ?_
    refine z_iald hq (by omega) (by omega) dX2_take_112 ?_
    refine z_aload_2 dX2_take_113 ?_
    refine z_iconst dX2_take_114 (by decide) ?_
    refine z_iald hq (by omega) (by omega) dX2_take_115 ?_
    refine z_aload_2 dX2_take_116 ?_
    refine z_iconst dX2_take_117 (by decide) ?_
    refine z_iald hq (by omega) (by omega) dX2_take_118 ?_
    refine z_aload_2 dX2_take_119 ?_
    refine z_iconst dX2_take_120 (by decide) ?_
    refine z_iald hq (by omega) (by omega) dX2_take_121 ?_
    refine z_callV5 (k_X5_add hh ok) m_X5_add (hh.at 5 rfl) l_X2_104 (Nat.le_of_ble_eq_true rfl) ⟨Nat.le_of_ble_eq_true rfl, Nat.le_of_ble_eq_true rfl⟩ ⟨rfl, rfl⟩ dX2_take_122 (fun r μ1 hp => ?_)
    obtain ⟨rfl, w1, w2⟩ := hp
    exact z_iret dX2_take_125 (zansT (by unfold spT; first | rfl | (rw [if_neg (by assumption), if_neg (by assumption), if_neg (by assumption), if_neg (by assumption), if_neg (by assumption), if_neg (by assumption), if_neg (by assumption)])) ⟨rfl, w1, w2⟩ (by omega) (by omega))
  by_cases hs_1_6 : w = 6
  · subst hs_1_6
    refine z_tabIn (tgt := 126) dX2_take_1 (by decide) (by decide) rfl (by decide) ?_
    refine z_aload_0 dX2_take_126 ?_
    refine z_aload_2 dX2_take_127 ?_
    refine z_iconst dX2_take_128 (by decide) ?_
    refine z_iald hq (by omega) (by omega) dX2_take_129 ?_
    refine z_aload_2 dX2_take_130 ?_
    refine z_iconst dX2_take_131 (by decide) ?_
    refine z_iald hq (by omega) (by omega) dX2_take_132 ?_
    refine z_callV2 (k_X2_lay hh ok) m_X2_lay (hh.at 0 rfl) l_X2_105 (Nat.le_of_ble_eq_true rfl) ⟨Nat.le_of_ble_eq_true rfl, Nat.le_of_ble_eq_true rfl⟩ ⟨rfl, rfl⟩ dX2_take_133 (fun r μ1 hp => ?_)
    obtain ⟨rfl, w1, w2⟩ := hp
    exact z_iret dX2_take_136 (zansT (by unfold spT; first | rfl | (rw [if_neg (by assumption), if_neg (by assumption), if_neg (by assumption), if_neg (by assumption), if_neg (by assumption), if_neg (by assumption), if_neg (by assumption)])) ⟨rfl, w1, w2⟩ (by omega) (by omega))
  refine z_tabOut (tgt := 137) dX2_take_1 (by omega) (by decide) ?_
  refine z_aload_0 dX2_take_137 ?_
  refine z_iload_1 dX2_take_138 ?_
  refine z_bipush dX2_take_139 (by decide) ?_
  refine z_isub dX2_take_141 (by omega) ?_
  refine z_aload_2 dX2_take_142 ?_
  refine z_iconst dX2_take_143 (by decide) ?_
  refine z_iald hq (by omega) (by omega) dX2_take_144 ?_
  refine z_aload_2 dX2_take_145 ?_
  refine z_iconst dX2_take_146 (by decide) ?_
  refine z_iald hq (by omega) (by omega) dX2_take_147 ?_
  refine z_aload_2 dX2_take_148 ?_
  refine z_iconst dX2_take_149 (by decide) ?_
  refine z_iald hq (by omega) (by omega) dX2_take_150 ?_
  refine z_aload_2 dX2_take_151 ?_
  refine z_iconst dX2_take_152 (by decide) ?_
  refine z_iald hq (by omega) (by omega) dX2_take_153 ?_
  refine z_callV5 (k_X2_addSound hh ok) m_X2_addSound (hh.at 0 rfl) l_X2_110 (Nat.le_of_ble_eq_true rfl) ⟨Nat.le_of_ble_eq_true rfl, Nat.le_of_ble_eq_true rfl⟩ ⟨rfl, rfl⟩ dX2_take_154 (fun r μ1 hp => ?_)
  obtain ⟨rfl, w1, w2⟩ := hp
  exact z_iret dX2_take_157 (zansT (by unfold spT; first | rfl | (rw [if_neg (by assumption), if_neg (by assumption), if_neg (by assumption), if_neg (by assumption), if_neg (by assumption), if_neg (by assumption), if_neg (by assumption)])) ⟨rfl, w1, w2⟩ (by omega) (by omega))
/-- one number more into a sum of all -/
def zH (h v : Int) : Int := zw64 (zw64 (31 * h) + v)
def zfold (g : Int → Int → Int) : Nat → Int → Int
  | 0, h => h
  | n + 1, h => g (zfold g n h) (n : Int)
theorem zfold_c {g g2 : Int → Int → Int} {h : Int} : ∀ {n : Nat}, (∀ (a i : Int), 0 ≤ i → i < n → g a i = g2 a i) → zfold g n h = zfold g2 n h
  | 0, _ => rfl
  | n + 1, q => by
    have ih := zfold_c (g := g) (g2 := g2) (h := h) (n := n) (fun a i i0 i1 => q a i i0 (by omega))
    show g (zfold g n h) n = g2 (zfold g2 n h) n
    rw [ih, q _ n (by omega) (by omega)]
theorem zfold_s {g : Int → Int → Int} {n : Nat} {h : Int} : zfold g (n + 1) h = g (zfold g n h) (n : Int) := rfl
def zDc (V : zM) (a c : Int) : Int := zH (zH a (V 0 c)) (V 1 c)
def zDp6 (V : zM) (a i : Int) : Int := zH (zH (zH (zH (zH (zH a (V 4 i)) (V 5 i)) (V 6 i)) (V 7 i)) (V 8 i)) (V 9 i)
def zDs5 (V : zM) (a i : Int) : Int := zH (zH (zH (zH (zH a (V 10 i)) (V 11 i)) (V 12 i)) (V 13 i)) (V 14 i)
def zDr3 (V : zM) (a i : Int) : Int := zH (zH (zH a (V 15 i)) (V 16 i)) (V 17 i)
def zDgF (V : zM) (h : Int) : Int := zfold (fun a i => zH a (V 2 i)) (V 3 0).toNat (zH (zH (zfold (zDc V) 36 h) (V 3 1)) (V 3 2))
def zDgP (V : zM) (h : Int) : Int := zfold (zDp6 V) (V 3 3).toNat h
def zDgS (V : zM) (h : Int) : Int := zfold (zDs5 V) (V 3 4).toNat h
def zDgR (V : zM) (h : Int) : Int := zfold (zDr3 V) (V 3 5).toNat h
set_option maxRecDepth 100000 in
set_option maxHeartbeats 4000000 in
theorem k_X5_digestOn {l : Launch} {E : zE} {h : Nat} {μ : zM} (hh : zAt zp2 h) (ok : zOK (zHV μ h)) {b : Int} : Ct l E yX5_digestOn cX5_digestOn 6 (some .long) ({ frames := 0, cells := 0, slots := 0, locals := 0 }) [zR (h + 5), zL b] μ (fun r ν => r = some (zL (zDgP (zHV μ h) b)) ∧ ν = μ) := by
  refine Ct.of RX5 [zR (h + 5), zL b, zU, zU, zU, zU] (by decide +kernel) rfl ⟨rfl, rfl⟩ rfl (Nat.le_of_ble_eq_true rfl) (fun X hX hc0 ha0 => ?_)
  subst hX
  obtain ⟨nb, nf, nd, np, ns, nr⟩ := zOK_n ok
  have L2 : ∀ (k : Nat) (i : Nat), (i : Int) ≤ μ (h + 5) 6 → μ (h + 5) 6 - i < k → MW X E cX5_digestOn RX5 ({ frames := 0, cells := 0, slots := 0, locals := 0 }) (some .long) (fun r ν => r = some (zL (zDgP (zHV μ h) b)) ∧ ν = μ) 5 [zR (h + 5), zL b, zU, zL (zfold (zDp6 (zHV μ h)) i b), zU, zI (i : Int)] [] μ := by
    intro k
    induction k with
    | zero => intro i h2 h3; omega
    | succ k ih =>
      intro i h2 h3
      refine z_iload_5 dX5_digestOn_5 ?_
      refine z_aload_0 dX5_digestOn_7 ?_
      refine z_getI 6 rfl f_X5_30 (hh.at 5 rfl) rfl dX5_digestOn_8 ?_
      refine z_icmpge (tgt := 110) dX5_digestOn_11 (by decide) (fun h_11 => ?_) (fun h_11 => ?_)
      · refine z_lload_3 dX5_digestOn_110 ?_
        exact z_lret dX5_digestOn_111 (by refine ⟨?_, rfl⟩; unfold zDgP; rw [show (zHV μ h 3 3).toNat = i by show (μ (h + 5) 6).toNat = i; omega])
      · have h0 : (0 : Int) ≤ (i : Int) := by omega
        have h1 : (i : Int) < μ (h + 5) 6 := h_11
        refine z_ldc2 (n := 31) k_X5_50 dX5_digestOn_14 (by decide +kernel) ?_
        refine z_lload_3 dX5_digestOn_17 ?_
        refine z_lmul dX5_digestOn_18 ?_
        refine z_aload_0 dX5_digestOn_19 ?_
        refine z_getF (h + 6) 1 rfl f_X5_9 (hh.at 5 rfl) rfl rfl dX5_digestOn_20 ?_
        refine z_iload_5 dX5_digestOn_23 ?_
        refine z_iald (hh.at 6 rfl) (by omega) (by omega) dX5_digestOn_25 ?_
        refine z_i2l dX5_digestOn_26 ?_
        refine z_ladd dX5_digestOn_27 ?_
        refine z_lstore_3 rfl dX5_digestOn_28 ?_
        refine z_ldc2 (n := 31) k_X5_50 dX5_digestOn_29 (by decide +kernel) ?_
        refine z_lload_3 dX5_digestOn_32 ?_
        refine z_lmul dX5_digestOn_33 ?_
        refine z_aload_0 dX5_digestOn_34 ?_
        refine z_getF (h + 7) 2 rfl f_X5_15 (hh.at 5 rfl) rfl rfl dX5_digestOn_35 ?_
        refine z_iload_5 dX5_digestOn_38 ?_
        refine z_iald (hh.at 7 rfl) (by omega) (by omega) dX5_digestOn_40 ?_
        refine z_i2l dX5_digestOn_41 ?_
        refine z_ladd dX5_digestOn_42 ?_
        refine z_lstore_3 rfl dX5_digestOn_43 ?_
        refine z_ldc2 (n := 31) k_X5_50 dX5_digestOn_44 (by decide +kernel) ?_
        refine z_lload_3 dX5_digestOn_47 ?_
        refine z_lmul dX5_digestOn_48 ?_
        refine z_aload_0 dX5_digestOn_49 ?_
        refine z_getF (h + 8) 3 rfl f_X5_18 (hh.at 5 rfl) rfl rfl dX5_digestOn_50 ?_
        refine z_iload_5 dX5_digestOn_53 ?_
        refine z_iald (hh.at 8 rfl) (by omega) (by omega) dX5_digestOn_55 ?_
        refine z_i2l dX5_digestOn_56 ?_
        refine z_ladd dX5_digestOn_57 ?_
        refine z_lstore_3 rfl dX5_digestOn_58 ?_
        refine z_ldc2 (n := 31) k_X5_50 dX5_digestOn_59 (by decide +kernel) ?_
        refine z_lload_3 dX5_digestOn_62 ?_
        refine z_lmul dX5_digestOn_63 ?_
        refine z_aload_0 dX5_digestOn_64 ?_
        refine z_getF (h + 9) 4 rfl f_X5_21 (hh.at 5 rfl) rfl rfl dX5_digestOn_65 ?_
        refine z_iload_5 dX5_digestOn_68 ?_
        refine z_iald (hh.at 9 rfl) (by omega) (by omega) dX5_digestOn_70 ?_
        refine z_i2l dX5_digestOn_71 ?_
        refine z_ladd dX5_digestOn_72 ?_
        refine z_lstore_3 rfl dX5_digestOn_73 ?_
        refine z_ldc2 (n := 31) k_X5_50 dX5_digestOn_74 (by decide +kernel) ?_
        refine z_lload_3 dX5_digestOn_77 ?_
        refine z_lmul dX5_digestOn_78 ?_
        refine z_aload_0 dX5_digestOn_79 ?_
        refine z_getF (h + 10) 5 rfl f_X5_24 (hh.at 5 rfl) rfl rfl dX5_digestOn_80 ?_
        refine z_iload_5 dX5_digestOn_83 ?_
        refine z_iald (hh.at 10 rfl) (by omega) (by omega) dX5_digestOn_85 ?_
        refine z_i2l dX5_digestOn_86 ?_
        refine z_ladd dX5_digestOn_87 ?_
        refine z_lstore_3 rfl dX5_digestOn_88 ?_
        refine z_ldc2 (n := 31) k_X5_50 dX5_digestOn_89 (by decide +kernel) ?_
        refine z_lload_3 dX5_digestOn_92 ?_
        refine z_lmul dX5_digestOn_93 ?_
        refine z_aload_0 dX5_digestOn_94 ?_
        refine z_getF (h + 11) 6 rfl f_X5_27 (hh.at 5 rfl) rfl rfl dX5_digestOn_95 ?_
        refine z_iload_5 dX5_digestOn_98 ?_
        refine z_iald (hh.at 11 rfl) (by omega) (by omega) dX5_digestOn_100 ?_
        refine z_i2l dX5_digestOn_101 ?_
        refine z_ladd dX5_digestOn_102 ?_
        refine z_lstore_3 rfl dX5_digestOn_103 ?_
        refine z_iinc_5 rfl dX5_digestOn_104 (by omega) ?_
        refine z_goto (tgt := 5) dX5_digestOn_107 (by decide) ?_
        refine z_eqs (ih (i + 1) (by omega) (by omega)) rfl ?_ rfl rfl
        rw [zfold_s (n := i)]
        simp only [zDp6, zH, zHV_4 h0 h1, zHV_5 h0 h1, zHV_6 h0 h1, zHV_7 h0 h1, zHV_8 h0 h1, zHV_9 h0 h1, Int.natCast_add, Int.cast_ofNat_Int]
  refine z_lload_1 dX5_digestOn_0 ?_
  refine z_lstore_3 rfl dX5_digestOn_1 ?_
  refine z_iconst dX5_digestOn_2 (by decide) ?_
  refine z_istore_5 rfl dX5_digestOn_3 ?_
  exact L2 9 0 (by omega) (by omega)
set_option maxRecDepth 100000 in
set_option maxHeartbeats 4000000 in
theorem k_X9_digestOn {l : Launch} {E : zE} {h : Nat} {μ : zM} (hh : zAt zp2 h) (ok : zOK (zHV μ h)) {b : Int} : Ct l E yX9_digestOn cX9_digestOn 6 (some .long) ({ frames := 0, cells := 0, slots := 0, locals := 0 }) [zR (h + 12), zL b] μ (fun r ν => r = some (zL (zDgS (zHV μ h) b)) ∧ ν = μ) := by
  refine Ct.of RX9 [zR (h + 12), zL b, zU, zU, zU, zU] (by decide +kernel) rfl ⟨rfl, rfl⟩ rfl (Nat.le_of_ble_eq_true rfl) (fun X hX hc0 ha0 => ?_)
  subst hX
  obtain ⟨nb, nf, nd, np, ns, nr⟩ := zOK_n ok
  have L2 : ∀ (k : Nat) (i : Nat), (i : Int) ≤ μ (h + 12) 5 → μ (h + 12) 5 - i < k → MW X E cX9_digestOn RX9 ({ frames := 0, cells := 0, slots := 0, locals := 0 }) (some .long) (fun r ν => r = some (zL (zDgS (zHV μ h) b)) ∧ ν = μ) 5 [zR (h + 12), zL b, zU, zL (zfold (zDs5 (zHV μ h)) i b), zU, zI (i : Int)] [] μ := by
    intro k
    induction k with
    | zero => intro i h2 h3; omega
    | succ k ih =>
      intro i h2 h3
      refine z_iload_5 dX9_digestOn_5 ?_
      refine z_aload_0 dX9_digestOn_7 ?_
      refine z_getI 5 rfl f_X9_27 (hh.at 12 rfl) rfl dX9_digestOn_8 ?_
      refine z_icmpge (tgt := 95) dX9_digestOn_11 (by decide) (fun h_11 => ?_) (fun h_11 => ?_)
      · refine z_lload_3 dX9_digestOn_95 ?_
        exact z_lret dX9_digestOn_96 (by refine ⟨?_, rfl⟩; unfold zDgS; rw [show (zHV μ h 3 4).toNat = i by show (μ (h + 12) 5).toNat = i; omega])
      · have h0 : (0 : Int) ≤ (i : Int) := by omega
        have h1 : (i : Int) < μ (h + 12) 5 := h_11
        refine z_ldc2 (n := 31) k_X9_41 dX9_digestOn_14 (by decide +kernel) ?_
        refine z_lload_3 dX9_digestOn_17 ?_
        refine z_lmul dX9_digestOn_18 ?_
        refine z_aload_0 dX9_digestOn_19 ?_
        refine z_getF (h + 13) 1 rfl f_X9_9 (hh.at 12 rfl) rfl rfl dX9_digestOn_20 ?_
        refine z_iload_5 dX9_digestOn_23 ?_
        refine z_iald (hh.at 13 rfl) (by omega) (by omega) dX9_digestOn_25 ?_
        refine z_i2l dX9_digestOn_26 ?_
        refine z_ladd dX9_digestOn_27 ?_
        refine z_lstore_3 rfl dX9_digestOn_28 ?_
        refine z_ldc2 (n := 31) k_X9_41 dX9_digestOn_29 (by decide +kernel) ?_
        refine z_lload_3 dX9_digestOn_32 ?_
        refine z_lmul dX9_digestOn_33 ?_
        refine z_aload_0 dX9_digestOn_34 ?_
        refine z_getF (h + 14) 2 rfl f_X9_15 (hh.at 12 rfl) rfl rfl dX9_digestOn_35 ?_
        refine z_iload_5 dX9_digestOn_38 ?_
        refine z_iald (hh.at 14 rfl) (by omega) (by omega) dX9_digestOn_40 ?_
        refine z_i2l dX9_digestOn_41 ?_
        refine z_ladd dX9_digestOn_42 ?_
        refine z_lstore_3 rfl dX9_digestOn_43 ?_
        refine z_ldc2 (n := 31) k_X9_41 dX9_digestOn_44 (by decide +kernel) ?_
        refine z_lload_3 dX9_digestOn_47 ?_
        refine z_lmul dX9_digestOn_48 ?_
        refine z_aload_0 dX9_digestOn_49 ?_
        refine z_getF (h + 15) 3 rfl f_X9_18 (hh.at 12 rfl) rfl rfl dX9_digestOn_50 ?_
        refine z_iload_5 dX9_digestOn_53 ?_
        refine z_iald (hh.at 15 rfl) (by omega) (by omega) dX9_digestOn_55 ?_
        refine z_i2l dX9_digestOn_56 ?_
        refine z_ladd dX9_digestOn_57 ?_
        refine z_lstore_3 rfl dX9_digestOn_58 ?_
        refine z_ldc2 (n := 31) k_X9_41 dX9_digestOn_59 (by decide +kernel) ?_
        refine z_lload_3 dX9_digestOn_62 ?_
        refine z_lmul dX9_digestOn_63 ?_
        refine z_aload_0 dX9_digestOn_64 ?_
        refine z_getF (h + 16) 4 rfl f_X9_21 (hh.at 12 rfl) rfl rfl dX9_digestOn_65 ?_
        refine z_iload_5 dX9_digestOn_68 ?_
        refine z_iald (hh.at 16 rfl) (by omega) (by omega) dX9_digestOn_70 ?_
        refine z_i2l dX9_digestOn_71 ?_
        refine z_ladd dX9_digestOn_72 ?_
        refine z_lstore_3 rfl dX9_digestOn_73 ?_
        refine z_ldc2 (n := 31) k_X9_41 dX9_digestOn_74 (by decide +kernel) ?_
        refine z_lload_3 dX9_digestOn_77 ?_
        refine z_lmul dX9_digestOn_78 ?_
        refine z_aload_0 dX9_digestOn_79 ?_
        refine z_getF (h + 17) 5 rfl f_X9_24 (hh.at 12 rfl) rfl rfl dX9_digestOn_80 ?_
        refine z_iload_5 dX9_digestOn_83 ?_
        refine z_iald (hh.at 17 rfl) (by omega) (by omega) dX9_digestOn_85 ?_
        refine z_i2l dX9_digestOn_86 ?_
        refine z_ladd dX9_digestOn_87 ?_
        refine z_lstore_3 rfl dX9_digestOn_88 ?_
        refine z_iinc_5 rfl dX9_digestOn_89 (by omega) ?_
        refine z_goto (tgt := 5) dX9_digestOn_92 (by decide) ?_
        refine z_eqs (ih (i + 1) (by omega) (by omega)) rfl ?_ rfl rfl
        rw [zfold_s (n := i)]
        simp only [zDs5, zH, zHV_10 h0 h1, zHV_11 h0 h1, zHV_12 h0 h1, zHV_13 h0 h1, zHV_14 h0 h1, Int.natCast_add, Int.cast_ofNat_Int]
  refine z_lload_1 dX9_digestOn_0 ?_
  refine z_lstore_3 rfl dX9_digestOn_1 ?_
  refine z_iconst dX9_digestOn_2 (by decide) ?_
  refine z_istore_5 rfl dX9_digestOn_3 ?_
  exact L2 9 0 (by omega) (by omega)
set_option maxRecDepth 100000 in
set_option maxHeartbeats 4000000 in
theorem k_X7_digestOn {l : Launch} {E : zE} {h : Nat} {μ : zM} (hh : zAt zp2 h) (ok : zOK (zHV μ h)) {b : Int} : Ct l E yX7_digestOn cX7_digestOn 6 (some .long) ({ frames := 0, cells := 0, slots := 0, locals := 0 }) [zR (h + 18), zL b] μ (fun r ν => r = some (zL (zDgR (zHV μ h) b)) ∧ ν = μ) := by
  refine Ct.of RX7 [zR (h + 18), zL b, zU, zU, zU, zU] (by decide +kernel) rfl ⟨rfl, rfl⟩ rfl (Nat.le_of_ble_eq_true rfl) (fun X hX hc0 ha0 => ?_)
  subst hX
  obtain ⟨nb, nf, nd, np, ns, nr⟩ := zOK_n ok
  have L2 : ∀ (k : Nat) (i : Nat), (i : Int) ≤ μ (h + 18) 3 → μ (h + 18) 3 - i < k → MW X E cX7_digestOn RX7 ({ frames := 0, cells := 0, slots := 0, locals := 0 }) (some .long) (fun r ν => r = some (zL (zDgR (zHV μ h) b)) ∧ ν = μ) 5 [zR (h + 18), zL b, zU, zL (zfold (zDr3 (zHV μ h)) i b), zU, zI (i : Int)] [] μ := by
    intro k
    induction k with
    | zero => intro i h2 h3; omega
    | succ k ih =>
      intro i h2 h3
      refine z_iload_5 dX7_digestOn_5 ?_
      refine z_aload_0 dX7_digestOn_7 ?_
      refine z_getI 3 rfl f_X7_22 (hh.at 18 rfl) rfl dX7_digestOn_8 ?_
      refine z_icmpge (tgt := 73) dX7_digestOn_11 (by decide) (fun h_11 => ?_) (fun h_11 => ?_)
      · refine z_lload_3 dX7_digestOn_73 ?_
        exact z_lret dX7_digestOn_74 (by refine ⟨?_, rfl⟩; unfold zDgR; rw [show (zHV μ h 3 5).toNat = i by show (μ (h + 18) 3).toNat = i; omega])
      · have h0 : (0 : Int) ≤ (i : Int) := by omega
        have h1 : (i : Int) < μ (h + 18) 3 := h_11
        have rr := (ok.2.2.2.2 i h0 h1).2.2
        rw [zHV_17 h0 h1] at rr
        refine z_ldc2 (n := 31) k_X7_32 dX7_digestOn_14 (by decide +kernel) ?_
        refine z_lload_3 dX7_digestOn_17 ?_
        refine z_lmul dX7_digestOn_18 ?_
        refine z_aload_0 dX7_digestOn_19 ?_
        refine z_getF (h + 19) 1 rfl f_X7_9 (hh.at 18 rfl) rfl rfl dX7_digestOn_20 ?_
        refine z_iload_5 dX7_digestOn_23 ?_
        refine z_iald (hh.at 19 rfl) (by omega) (by omega) dX7_digestOn_25 ?_
        refine z_i2l dX7_digestOn_26 ?_
        refine z_ladd dX7_digestOn_27 ?_
        refine z_lstore_3 rfl dX7_digestOn_28 ?_
        refine z_ldc2 (n := 31) k_X7_32 dX7_digestOn_29 (by decide +kernel) ?_
        refine z_lload_3 dX7_digestOn_32 ?_
        refine z_lmul dX7_digestOn_33 ?_
        refine z_aload_0 dX7_digestOn_34 ?_
        refine z_getF (h + 20) 2 rfl f_X7_15 (hh.at 18 rfl) rfl rfl dX7_digestOn_35 ?_
        refine z_iload_5 dX7_digestOn_38 ?_
        refine z_iald (hh.at 20 rfl) (by omega) (by omega) dX7_digestOn_40 ?_
        refine z_i2l dX7_digestOn_41 ?_
        refine z_ladd dX7_digestOn_42 ?_
        refine z_lstore_3 rfl dX7_digestOn_43 ?_
        refine z_ldc2 (n := 31) k_X7_32 dX7_digestOn_44 (by decide +kernel) ?_
        refine z_lload_3 dX7_digestOn_47 ?_
        refine z_lmul dX7_digestOn_48 ?_
        refine z_aload_0 dX7_digestOn_49 ?_
        refine z_getF (h + 21) 3 rfl f_X7_18 (hh.at 18 rfl) rfl rfl dX7_digestOn_50 ?_
        refine z_iload_5 dX7_digestOn_53 ?_
        refine z_zald (hh.at 21 rfl) (by omega) (by omega) dX7_digestOn_55 ?_
        refine z_ifeq (tgt := 63) dX7_digestOn_56 (by decide) (fun h_56 => ?_) (fun h_56 => ?_)
        · have hz : μ (h + 21) i = 0 := h_56
          refine z_iconst dX7_digestOn_63 (by decide) ?_
          refine z_i2l dX7_digestOn_64 ?_
          refine z_ladd dX7_digestOn_65 ?_
          refine z_lstore_3 rfl dX7_digestOn_66 ?_
          refine z_iinc_5 rfl dX7_digestOn_67 (by omega) ?_
          refine z_goto (tgt := 5) dX7_digestOn_70 (by decide) ?_
          refine z_eqs (ih (i + 1) (by omega) (by omega)) rfl ?_ rfl rfl
          rw [zfold_s (n := i)]
          simp only [zDr3, zH, zHV_15 h0 h1, zHV_16 h0 h1, zHV_17 h0 h1, hz, Int.natCast_add, Int.cast_ofNat_Int]
        · have hz : μ (h + 21) i = 1 := by omega
          refine z_iconst dX7_digestOn_59 (by decide) ?_
          refine z_goto (tgt := 64) dX7_digestOn_60 (by decide) ?_
          refine z_i2l dX7_digestOn_64 ?_
          refine z_ladd dX7_digestOn_65 ?_
          refine z_lstore_3 rfl dX7_digestOn_66 ?_
          refine z_iinc_5 rfl dX7_digestOn_67 (by omega) ?_
          refine z_goto (tgt := 5) dX7_digestOn_70 (by decide) ?_
          refine z_eqs (ih (i + 1) (by omega) (by omega)) rfl ?_ rfl rfl
          rw [zfold_s (n := i)]
          simp only [zDr3, zH, zHV_15 h0 h1, zHV_16 h0 h1, zHV_17 h0 h1, hz, Int.natCast_add, Int.cast_ofNat_Int]
  refine z_lload_1 dX7_digestOn_0 ?_
  refine z_lstore_3 rfl dX7_digestOn_1 ?_
  refine z_iconst dX7_digestOn_2 (by decide) ?_
  refine z_istore_5 rfl dX7_digestOn_3 ?_
  exact L2 9 0 (by omega) (by omega)
set_option maxRecDepth 100000 in
set_option maxHeartbeats 4000000 in
theorem k_X1_digestOn {l : Launch} {E : zE} {h : Nat} {μ : zM} (hh : zAt zp2 h) (ok : zOK (zHV μ h)) {b : Int} : Ct l E yX1_digestOn cX1_digestOn 6 (some .long) ({ frames := 0, cells := 0, slots := 0, locals := 0 }) [zR (h + 1), zL b] μ (fun r ν => r = some (zL (zDgF (zHV μ h) b)) ∧ ν = μ) := by
  refine Ct.of RX1 [zR (h + 1), zL b, zU, zU, zU, zU] (by decide +kernel) rfl ⟨rfl, rfl⟩ rfl (Nat.le_of_ble_eq_true rfl) (fun X hX hc0 ha0 => ?_)
  subst hX
  obtain ⟨nb, nf, nd, np, ns, nr⟩ := zOK_n ok
  have L3 : ∀ (k : Nat) (i : Nat), (i : Int) ≤ μ (h + 1) 3 → μ (h + 1) 3 - i < k → MW X E cX1_digestOn RX1 ({ frames := 0, cells := 0, slots := 0, locals := 0 }) (some .long) (fun r ν => r = some (zL (zDgF (zHV μ h) b)) ∧ ν = μ) 83 [zR (h + 1), zL b, zU, zL (zfold (fun a i => zH a (zHV μ h 2 i)) i (zH (zH (zfold (zDc (zHV μ h)) 36 b) (zHV μ h 3 1)) (zHV μ h 3 2))), zU, zI (i : Int)] [] μ := by
    intro k
    induction k with
    | zero => intro i h2 h3; omega
    | succ k ih =>
      intro i h2 h3
      refine z_iload_5 dX1_digestOn_83 ?_
      refine z_aload_0 dX1_digestOn_85 ?_
      refine z_getI 3 rfl f_X1_22 (hh.at 1 rfl) rfl dX1_digestOn_86 ?_
      refine z_icmpge (tgt := 113) dX1_digestOn_89 (by decide) (fun h_89 => ?_) (fun h_89 => ?_)
      · refine z_lload_3 dX1_digestOn_113 ?_
        exact z_lret dX1_digestOn_114 (by refine ⟨?_, rfl⟩; unfold zDgF; rw [show (zHV μ h 3 0).toNat = i by show (μ (h + 1) 3).toNat = i; omega])
      · have h0 : (0 : Int) ≤ (i : Int) := by omega
        have h1 : (i : Int) < μ (h + 1) 3 := h_89
        refine z_ldc2 (n := 31) k_X1_49 dX1_digestOn_92 (by decide +kernel) ?_
        refine z_lload_3 dX1_digestOn_95 ?_
        refine z_lmul dX1_digestOn_96 ?_
        refine z_aload_0 dX1_digestOn_97 ?_
        refine z_getF (h + 4) 3 rfl f_X1_19 (hh.at 1 rfl) rfl rfl dX1_digestOn_98 ?_
        refine z_iload_5 dX1_digestOn_101 ?_
        refine z_iald (hh.at 4 rfl) (by omega) (by omega) dX1_digestOn_103 ?_
        refine z_i2l dX1_digestOn_104 ?_
        refine z_ladd dX1_digestOn_105 ?_
        refine z_lstore_3 rfl dX1_digestOn_106 ?_
        refine z_iinc_5 rfl dX1_digestOn_107 (by omega) ?_
        refine z_goto (tgt := 83) dX1_digestOn_110 (by decide) ?_
        refine z_eqs (ih (i + 1) (by omega) (by omega)) rfl ?_ rfl rfl
        rw [zfold_s (n := i)]
        simp only [zH, zHV_2 h0 h1, Int.natCast_add, Int.cast_ofNat_Int]
  have L2 : ∀ (k : Nat) (i : Nat), (i : Int) ≤ 36 → 36 - (i : Int) < k → MW X E cX1_digestOn RX1 ({ frames := 0, cells := 0, slots := 0, locals := 0 }) (some .long) (fun r ν => r = some (zL (zDgF (zHV μ h) b)) ∧ ν = μ) 5 [zR (h + 1), zL b, zU, zL (zfold (zDc (zHV μ h)) i b), zU, zI (i : Int)] [] μ := by
    intro k
    induction k with
    | zero => intro i h2 h3; omega
    | succ k ih =>
      intro i h2 h3
      refine z_iload_5 dX1_digestOn_5 ?_
      refine z_bipush dX1_digestOn_7 (by decide) ?_
      refine z_icmpge (tgt := 56) dX1_digestOn_9 (by decide) (fun h_9 => ?_) (fun h_9 => ?_)
      · refine z_ldc2 (n := 31) k_X1_49 dX1_digestOn_56 (by decide +kernel) ?_
        refine z_lload_3 dX1_digestOn_59 ?_
        refine z_lmul dX1_digestOn_60 ?_
        refine z_aload_0 dX1_digestOn_61 ?_
        refine z_getI 4 rfl f_X1_26 (hh.at 1 rfl) rfl dX1_digestOn_62 ?_
        refine z_i2l dX1_digestOn_65 ?_
        refine z_ladd dX1_digestOn_66 ?_
        refine z_lstore_3 rfl dX1_digestOn_67 ?_
        refine z_ldc2 (n := 31) k_X1_49 dX1_digestOn_68 (by decide +kernel) ?_
        refine z_lload_3 dX1_digestOn_71 ?_
        refine z_lmul dX1_digestOn_72 ?_
        refine z_aload_0 dX1_digestOn_73 ?_
        refine z_getI 5 rfl f_X1_29 (hh.at 1 rfl) rfl dX1_digestOn_74 ?_
        refine z_i2l dX1_digestOn_77 ?_
        refine z_ladd dX1_digestOn_78 ?_
        refine z_lstore_3 rfl dX1_digestOn_79 ?_
        refine z_iconst dX1_digestOn_80 (by decide) ?_
        refine z_istore_5 rfl dX1_digestOn_81 ?_
        refine z_eqs (L3 9 0 (by omega) (by omega)) rfl ?_ rfl rfl
        rw [show i = 36 by omega]
        simp only [zfold, zH, zHV_fade, zHV_door]
        rfl
      · have h0 : (0 : Int) ≤ (i : Int) := by omega
        have h1 : (i : Int) < 36 := h_9
        have rr := (ok.1.1 i h0 h1).1
        rw [zHV_0 h0 h1] at rr
        refine z_ldc2 (n := 31) k_X1_49 dX1_digestOn_12 (by decide +kernel) ?_
        refine z_lload_3 dX1_digestOn_15 ?_
        refine z_lmul dX1_digestOn_16 ?_
        refine z_aload_0 dX1_digestOn_17 ?_
        refine z_getF (h + 2) 1 rfl f_X1_9 (hh.at 1 rfl) rfl rfl dX1_digestOn_18 ?_
        refine z_iload_5 dX1_digestOn_21 ?_
        refine z_zald (hh.at 2 rfl) (by omega) (by omega) dX1_digestOn_23 ?_
        refine z_ifeq (tgt := 31) dX1_digestOn_24 (by decide) (fun h_24 => ?_) (fun h_24 => ?_)
        · have hz : μ (h + 2) i = 0 := h_24
          refine z_iconst dX1_digestOn_31 (by decide) ?_
          refine z_i2l dX1_digestOn_32 ?_
          refine z_ladd dX1_digestOn_33 ?_
          refine z_lstore_3 rfl dX1_digestOn_34 ?_
          refine z_ldc2 (n := 31) k_X1_49 dX1_digestOn_35 (by decide +kernel) ?_
          refine z_lload_3 dX1_digestOn_38 ?_
          refine z_lmul dX1_digestOn_39 ?_
          refine z_aload_0 dX1_digestOn_40 ?_
          refine z_getF (h + 3) 2 rfl f_X1_15 (hh.at 1 rfl) rfl rfl dX1_digestOn_41 ?_
          refine z_iload_5 dX1_digestOn_44 ?_
          refine z_iald (hh.at 3 rfl) (by omega) (by omega) dX1_digestOn_46 ?_
          refine z_i2l dX1_digestOn_47 ?_
          refine z_ladd dX1_digestOn_48 ?_
          refine z_lstore_3 rfl dX1_digestOn_49 ?_
          refine z_iinc_5 rfl dX1_digestOn_50 (by omega) ?_
          refine z_goto (tgt := 5) dX1_digestOn_53 (by decide) ?_
          refine z_eqs (ih (i + 1) (by omega) (by omega)) rfl ?_ rfl rfl
          rw [zfold_s (n := i)]
          simp only [zDc, zH, zHV_0 h0 h1, zHV_1 h0 h1, hz, Int.natCast_add, Int.cast_ofNat_Int]
        · have hz : μ (h + 2) i = 1 := by omega
          refine z_iconst dX1_digestOn_27 (by decide) ?_
          refine z_goto (tgt := 32) dX1_digestOn_28 (by decide) ?_
          refine z_i2l dX1_digestOn_32 ?_
          refine z_ladd dX1_digestOn_33 ?_
          refine z_lstore_3 rfl dX1_digestOn_34 ?_
          refine z_ldc2 (n := 31) k_X1_49 dX1_digestOn_35 (by decide +kernel) ?_
          refine z_lload_3 dX1_digestOn_38 ?_
          refine z_lmul dX1_digestOn_39 ?_
          refine z_aload_0 dX1_digestOn_40 ?_
          refine z_getF (h + 3) 2 rfl f_X1_15 (hh.at 1 rfl) rfl rfl dX1_digestOn_41 ?_
          refine z_iload_5 dX1_digestOn_44 ?_
          refine z_iald (hh.at 3 rfl) (by omega) (by omega) dX1_digestOn_46 ?_
          refine z_i2l dX1_digestOn_47 ?_
          refine z_ladd dX1_digestOn_48 ?_
          refine z_lstore_3 rfl dX1_digestOn_49 ?_
          refine z_iinc_5 rfl dX1_digestOn_50 (by omega) ?_
          refine z_goto (tgt := 5) dX1_digestOn_53 (by decide) ?_
          refine z_eqs (ih (i + 1) (by omega) (by omega)) rfl ?_ rfl rfl
          rw [zfold_s (n := i)]
          simp only [zDc, zH, zHV_0 h0 h1, zHV_1 h0 h1, hz, Int.natCast_add, Int.cast_ofNat_Int]
  refine z_lload_1 dX1_digestOn_0 ?_
  refine z_lstore_3 rfl dX1_digestOn_1 ?_
  refine z_iconst dX1_digestOn_2 (by decide) ?_
  refine z_istore_5 rfl dX1_digestOn_3 ?_
  exact L2 37 0 (by omega) (by omega)
theorem zsum_s {f : Int → Int} {n : Nat} : zsum f (n + 1) = zsum f n + f (n : Int) := rfl
set_option maxRecDepth 100000 in
set_option maxHeartbeats 4000000 in
theorem k_X1_wallCount {l : Launch} {E : zE} {h : Nat} {μ : zM} (hh : zAt zp2 h) (ok : zOK (zHV μ h)) : Ct l E yX1_wallCount cX1_wallCount 6 (some .int) ({ frames := 0, cells := 0, slots := 0, locals := 0 }) [zR (h + 1)] μ (fun r ν => r = some (zI (zsum (zHV μ h 0) 36)) ∧ ν = μ) := by
  refine Ct.of RX1 [zR (h + 1), zU, zU, zU, zU, zU] (by decide +kernel) rfl ⟨rfl, rfl⟩ rfl (Nat.le_of_ble_eq_true rfl) (fun X hX hc0 ha0 => ?_)
  subst hX
  obtain ⟨nb, nf, nd, np, ns, nr⟩ := zOK_n ok
  have L2 : ∀ (k : Nat) (i : Nat) (e : zAV), (i : Int) ≤ 36 → 36 - (i : Int) < k → MW X E cX1_wallCount RX1 ({ frames := 0, cells := 0, slots := 0, locals := 0 }) (some .int) (fun r ν => r = some (zI (zsum (zHV μ h 0) 36)) ∧ ν = μ) 13 [zR (h + 1), zI (zsum (zHV μ h 0) i), zR (h + 2), zI 36, zI (i : Int), e] [] μ := by
    intro k
    induction k with
    | zero => intro i e h2 h3; omega
    | succ k ih =>
      intro i e h2 h3
      refine z_iload_4 dX1_wallCount_13 ?_
      refine z_iload_3 dX1_wallCount_15 ?_
      refine z_icmpge (tgt := 44) dX1_wallCount_16 (by decide) (fun h_16 => ?_) (fun h_16 => ?_)
      · refine z_iload_1 dX1_wallCount_44 ?_
        exact z_iret dX1_wallCount_45 (by rw [show i = 36 by omega]; exact ⟨rfl, rfl⟩)
      · have h0 : (0 : Int) ≤ (i : Int) := by omega
        have h1 : (i : Int) < 36 := h_16
        have rr := (ok.1.1 i h0 h1).1
        rw [zHV_0 h0 h1] at rr
        have sb := zsum_b (f := zHV μ h 0) (B := 1) (n := i) (fun j a b => by have := (ok.1.1 j a (by omega)).1; omega)
        refine z_aload_2 dX1_wallCount_19 ?_
        refine z_iload_4 dX1_wallCount_20 ?_
        refine z_zald (hh.at 2 rfl) (by omega) (by omega) dX1_wallCount_22 ?_
        refine z_istore_5 rfl dX1_wallCount_23 ?_
        refine z_iload_1 dX1_wallCount_25 ?_
        refine z_iload_5 dX1_wallCount_26 ?_
        refine z_ifeq (tgt := 35) dX1_wallCount_28 (by decide) (fun h_28 => ?_) (fun h_28 => ?_)
        · have hz : μ (h + 2) i = 0 := h_28
          refine z_iconst dX1_wallCount_35 (by decide) ?_
          refine z_iadd dX1_wallCount_36 (by omega) ?_
          refine z_istore_1 rfl dX1_wallCount_37 ?_
          refine z_iinc_4 rfl dX1_wallCount_38 (by omega) ?_
          refine z_goto (tgt := 13) dX1_wallCount_41 (by decide) ?_
          refine z_eqs (ih (i + 1) (zI (μ (h + 2) i)) (by omega) (by omega)) rfl ?_ rfl rfl
          rw [zsum_s (n := i), zHV_0 h0 h1]
          simp only [hz, Int.natCast_add, Int.cast_ofNat_Int]
        · have hz : μ (h + 2) i = 1 := by omega
          refine z_iconst dX1_wallCount_31 (by decide) ?_
          refine z_goto (tgt := 36) dX1_wallCount_32 (by decide) ?_
          refine z_iadd dX1_wallCount_36 (by omega) ?_
          refine z_istore_1 rfl dX1_wallCount_37 ?_
          refine z_iinc_4 rfl dX1_wallCount_38 (by omega) ?_
          refine z_goto (tgt := 13) dX1_wallCount_41 (by decide) ?_
          refine z_eqs (ih (i + 1) (zI (μ (h + 2) i)) (by omega) (by omega)) rfl ?_ rfl rfl
          rw [zsum_s (n := i), zHV_0 h0 h1]
          simp only [hz, Int.natCast_add, Int.cast_ofNat_Int]
  refine z_iconst dX1_wallCount_0 (by decide) ?_
  refine z_istore_1 rfl dX1_wallCount_1 ?_
  refine z_aload_0 dX1_wallCount_2 ?_
  refine z_getF (h + 2) 1 rfl f_X1_9 (hh.at 1 rfl) rfl rfl dX1_wallCount_3 ?_
  refine z_astore_2 rfl dX1_wallCount_6 ?_
  refine z_aload_2 dX1_wallCount_7 ?_
  refine z_alen (Or.inr (hh.at 2 rfl)) (by decide) dX1_wallCount_8 ?_
  refine z_istore_3 rfl dX1_wallCount_9 ?_
  refine z_iconst dX1_wallCount_10 (by decide) ?_
  refine z_istore_4 rfl dX1_wallCount_11 ?_
  exact L2 37 0 zU (by omega) (by omega)
