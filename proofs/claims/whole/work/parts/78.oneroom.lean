set_option maxRecDepth 100000 in
set_option maxHeartbeats 4000000 in
theorem k_X11_init {l : Launch} {E : zE} {μ : zM}  (hb : ∀ x, 0 ≤ x → μ x = zBl x) : CtI l E yX11_init cX11_init 2 ({ frames := 5, cells := 392, slots := 4930, locals := 108 }) 0 μ (zPi 0 393 μ) := by
  refine CtI.of RX11 [zR 0, zU] (by decide +kernel) rfl rfl rfl (by decide) (fun X hX => ?_)
  subst hX
  have h0 : zl 0 = (11, 13) := zl_0
  have eN : zN = 420 := rfl
  refine k_aload dX11_init_0 ?_
  refine k_obj l_X11_1 (lw_m0 27 rfl rfl) (lw_m0 28 rfl rfl) (Nat.le_of_ble_eq_true rfl) ⟨(Nat.le_of_ble_eq_true rfl), (Nat.le_of_ble_eq_true rfl)⟩ dX11_init_1 ?_
  refine k_aload dX11_init_4 ?_
  refine k_new (n := 1) (ci := 2) (q := (RX2, TX2, 4)) tyX2 rfl tyX2_ok (by decide +kernel) (lw_m0 29 rfl rfl) (lw_m0 30 rfl rfl) (m_X2_init.2.2.1) zl_1 (fun j b hj => by (repeat (first | rw [zup_row (by omega)])); rw [hb (1) (by omega), zBl_o zl_1 (by decide)]; exact zBo_ok 2 j b hj) ⟨(Nat.le_of_ble_eq_true rfl), (Nat.le_of_ble_eq_true rfl)⟩ dX11_init_5 ?_
  refine k_dup dX11_init_8 rfl ?_
  refine k_call (h := 1) (k_X2_init zq2_1 (by omega) (fun x hx => by (repeat (first | rw [zup_row (by omega)])); exact hb x (by omega))) m_X2_init n_X11_9 rfl (Nat.le_of_ble_eq_true rfl) ⟨(Nat.le_of_ble_eq_true rfl), (Nat.le_of_ble_eq_true rfl)⟩ ⟨(Nat.le_of_ble_eq_true rfl), (Nat.le_of_ble_eq_true rfl)⟩ dX11_init_9 (fun m1 n1 hp => ⟨hp.1, by rw [hp.1]; omega⟩) (fun m1 n1 hp => ?_)
  obtain ⟨rfl, hm1⟩ := hp
  refine k_putF (id := 0) (j := 1) (ty := tyX11 0) 0 rfl f_X11_10 ⟨_, rfl, tyX11_ok 0 (by decide), rfl, rfl⟩ h0 rfl (by omega) (by omega) rfl rfl dX11_init_12 ?_
  refine k_aload dX11_init_15 ?_
  refine k_new (n := 23) (ci := 2) (q := (RX2, TX2, 4)) tyX2 rfl tyX2_ok (by decide +kernel) (lw_m0 29 rfl rfl) (lw_m0 30 rfl rfl) (m_X2_init.2.2.1) zl_23 (fun j b hj => by (repeat (first | rw [zup_row (by omega)] | rw [hm1, if_neg (by omega)])); rw [hb (23) (by omega), zBl_o zl_23 (by decide)]; exact zBo_ok 2 j b hj) ⟨(Nat.le_of_ble_eq_true rfl), (Nat.le_of_ble_eq_true rfl)⟩ dX11_init_16 ?_
  refine k_dup dX11_init_19 rfl ?_
  refine k_call (h := 23) (k_X2_init zq2_23 (by omega) (fun x hx => by (repeat (first | rw [zup_row (by omega)] | rw [hm1, if_neg (by omega)])); exact hb x (by omega))) m_X2_init n_X11_9 rfl (Nat.le_of_ble_eq_true rfl) ⟨(Nat.le_of_ble_eq_true rfl), (Nat.le_of_ble_eq_true rfl)⟩ ⟨(Nat.le_of_ble_eq_true rfl), (Nat.le_of_ble_eq_true rfl)⟩ dX11_init_20 (fun m2 n1 hp => ⟨hp.1, by rw [hp.1]; omega⟩) (fun m2 n1 hp => ?_)
  obtain ⟨rfl, hm2⟩ := hp
  refine k_putF (id := 0) (j := 23) (ty := tyX11 1) 1 rfl f_X11_16 ⟨_, rfl, tyX11_ok 1 (by decide), rfl, rfl⟩ h0 rfl (by omega) (by omega) rfl rfl dX11_init_23 ?_
  refine k_aload dX11_init_26 ?_
  refine k_iconst dX11_init_27 ?_
  refine k_anew (n := 45) (Z := 2) (lw_m0 29 rfl rfl) zl_45 (fun j => by (repeat (first | rw [zup_row (by omega)] | rw [hm2, if_neg (by omega)] | rw [hm1, if_neg (by omega)])); rw [hb (45) (by omega)]; rfl) (by decide) ⟨(Nat.le_of_ble_eq_true rfl), (Nat.le_of_ble_eq_true rfl)⟩ dX11_init_28 ?_
  refine k_putF (id := 0) (j := 45) (ty := tyX11 2) 2 rfl f_X11_19 ⟨_, rfl, tyX11_ok 2 (by decide), rfl, rfl⟩ h0 rfl (by omega) (by omega) rfl rfl dX11_init_31 ?_
  refine k_aload dX11_init_34 ?_
  refine k_iconst dX11_init_35 ?_
  refine k_newz (n := 46) (z := 2) (lw_m0 73 rfl rfl) zl_46 (fun j => by (repeat (first | rw [zup_row (by omega)] | rw [hm2, if_neg (by omega)] | rw [hm1, if_neg (by omega)])); rw [hb (46) (by omega), zBl_z zl_46]) (by decide) ⟨(Nat.le_of_ble_eq_true rfl), (Nat.le_of_ble_eq_true rfl)⟩ dX11_init_36 ?_
  refine k_putF (id := 0) (j := 46) (ty := tyX11 3) 3 rfl f_X11_23 ⟨_, rfl, tyX11_ok 3 (by decide), rfl, rfl⟩ h0 rfl (by omega) (by omega) rfl rfl dX11_init_38 ?_
  refine k_aload dX11_init_41 ?_
  refine k_new (n := 47) (ci := 10) (q := (RX10, TX10, 6)) tyX10 rfl tyX10_ok (by decide +kernel) (lw_m0 204 rfl rfl) (lw_m0 205 rfl rfl) (m_X10_init.2.2.1) zl_47 (fun j b hj => by (repeat (first | rw [zup_row (by omega)] | rw [hm2, if_neg (by omega)] | rw [hm1, if_neg (by omega)])); rw [hb (47) (by omega), zBl_o zl_47 (by decide)]; exact zBo_ok 10 j b hj) ⟨(Nat.le_of_ble_eq_true rfl), (Nat.le_of_ble_eq_true rfl)⟩ dX11_init_42 ?_
  refine k_dup dX11_init_45 rfl ?_
  refine k_call (h := 47) (k_X10_init  (fun x hx => by (repeat (first | rw [zup_row (by omega)] | rw [hm2, if_neg (by omega)] | rw [hm1, if_neg (by omega)])); exact hb x (by omega))) m_X10_init n_X11_29 rfl (Nat.le_of_ble_eq_true rfl) ⟨(Nat.le_of_ble_eq_true rfl), (Nat.le_of_ble_eq_true rfl)⟩ ⟨(Nat.le_of_ble_eq_true rfl), (Nat.le_of_ble_eq_true rfl)⟩ dX11_init_46 (fun m3 n1 hp => ⟨hp.1, by rw [hp.1]; omega⟩) (fun m3 n1 hp => ?_)
  obtain ⟨rfl, hm3⟩ := hp
  refine k_putF (id := 0) (j := 47) (ty := tyX11 4) 4 rfl f_X11_30 ⟨_, rfl, tyX11_ok 4 (by decide), rfl, rfl⟩ h0 rfl (by omega) (by omega) rfl rfl dX11_init_49 ?_
  refine k_aload dX11_init_52 ?_
  refine k_new (n := 111) (ci := 4) (q := (RX4, TX4, 15)) tyX4 rfl tyX4_ok (by decide +kernel) (lw_m0 235 rfl rfl) (lw_m0 236 rfl rfl) (m_X4_init.2.2.1) zl_111 (fun j b hj => by (repeat (first | rw [zup_row (by omega)] | rw [hm3, if_neg (by omega)] | rw [hm2, if_neg (by omega)] | rw [hm1, if_neg (by omega)])); rw [hb (111) (by omega), zBl_o zl_111 (by decide)]; exact zBo_ok 4 j b hj) ⟨(Nat.le_of_ble_eq_true rfl), (Nat.le_of_ble_eq_true rfl)⟩ dX11_init_53 ?_
  refine k_dup dX11_init_56 rfl ?_
  refine k_call (h := 111) (k_X4_init zq4_111 (by omega) (fun x hx => by (repeat (first | rw [zup_row (by omega)] | rw [hm3, if_neg (by omega)] | rw [hm2, if_neg (by omega)] | rw [hm1, if_neg (by omega)])); exact hb x (by omega))) m_X4_init n_X11_36 rfl (Nat.le_of_ble_eq_true rfl) ⟨(Nat.le_of_ble_eq_true rfl), (Nat.le_of_ble_eq_true rfl)⟩ ⟨(Nat.le_of_ble_eq_true rfl), (Nat.le_of_ble_eq_true rfl)⟩ dX11_init_57 (fun m4 n1 hp => ⟨hp.1, by rw [hp.1]; omega⟩) (fun m4 n1 hp => ?_)
  obtain ⟨rfl, hm4⟩ := hp
  refine k_putF (id := 0) (j := 111) (ty := tyX11 5) 5 rfl f_X11_37 ⟨_, rfl, tyX11_ok 5 (by decide), rfl, rfl⟩ h0 rfl (by omega) (by omega) rfl rfl dX11_init_60 ?_
  refine k_aload dX11_init_63 ?_
  refine k_new (n := 189) (ci := 8) (q := (RX8, TX8, 7)) tyX8 rfl tyX8_ok (by decide +kernel) (lw_m1 114 rfl rfl) (lw_m1 115 rfl rfl) (m_X8_init.2.2.1) zl_189 (fun j b hj => by (repeat (first | rw [zup_row (by omega)] | rw [hm4, if_neg (by omega)] | rw [hm3, if_neg (by omega)] | rw [hm2, if_neg (by omega)] | rw [hm1, if_neg (by omega)])); rw [hb (189) (by omega), zBl_o zl_189 (by decide)]; exact zBo_ok 8 j b hj) ⟨(Nat.le_of_ble_eq_true rfl), (Nat.le_of_ble_eq_true rfl)⟩ dX11_init_64 ?_
  refine k_dup dX11_init_67 rfl ?_
  refine k_call (h := 189) (k_X8_init  (fun x hx => by (repeat (first | rw [zup_row (by omega)] | rw [hm4, if_neg (by omega)] | rw [hm3, if_neg (by omega)] | rw [hm2, if_neg (by omega)] | rw [hm1, if_neg (by omega)])); exact hb x (by omega))) m_X8_init n_X11_43 rfl (Nat.le_of_ble_eq_true rfl) ⟨(Nat.le_of_ble_eq_true rfl), (Nat.le_of_ble_eq_true rfl)⟩ ⟨(Nat.le_of_ble_eq_true rfl), (Nat.le_of_ble_eq_true rfl)⟩ dX11_init_68 (fun m5 n1 hp => ⟨hp.1, by rw [hp.1]; omega⟩) (fun m5 n1 hp => ?_)
  obtain ⟨rfl, hm5⟩ := hp
  refine k_putF (id := 0) (j := 189) (ty := tyX11 6) 6 rfl f_X11_44 ⟨_, rfl, tyX11_ok 6 (by decide), rfl, rfl⟩ h0 rfl (by omega) (by omega) rfl rfl dX11_init_71 ?_
  refine k_aload dX11_init_74 ?_
  refine k_new (n := 292) (ci := 3) (q := (RX3, TX3, 8)) tyX3 rfl tyX3_ok (by decide +kernel) (lw_m1 148 rfl rfl) (lw_m1 149 rfl rfl) (m_X3_init.2.2.1) zl_292 (fun j b hj => by (repeat (first | rw [zup_row (by omega)] | rw [hm5, if_neg (by omega)] | rw [hm4, if_neg (by omega)] | rw [hm3, if_neg (by omega)] | rw [hm2, if_neg (by omega)] | rw [hm1, if_neg (by omega)])); rw [hb (292) (by omega), zBl_o zl_292 (by decide)]; exact zBo_ok 3 j b hj) ⟨(Nat.le_of_ble_eq_true rfl), (Nat.le_of_ble_eq_true rfl)⟩ dX11_init_75 ?_
  refine k_dup dX11_init_78 rfl ?_
  refine k_call (h := 292) (k_X3_init  (fun x hx => by (repeat (first | rw [zup_row (by omega)] | rw [hm5, if_neg (by omega)] | rw [hm4, if_neg (by omega)] | rw [hm3, if_neg (by omega)] | rw [hm2, if_neg (by omega)] | rw [hm1, if_neg (by omega)])); exact hb x (by omega))) m_X3_init n_X11_50 rfl (Nat.le_of_ble_eq_true rfl) ⟨(Nat.le_of_ble_eq_true rfl), (Nat.le_of_ble_eq_true rfl)⟩ ⟨(Nat.le_of_ble_eq_true rfl), (Nat.le_of_ble_eq_true rfl)⟩ dX11_init_79 (fun m6 n1 hp => ⟨hp.1, by rw [hp.1]; omega⟩) (fun m6 n1 hp => ?_)
  obtain ⟨rfl, hm6⟩ := hp
  refine k_putF (id := 0) (j := 292) (ty := tyX11 7) 7 rfl f_X11_51 ⟨_, rfl, tyX11_ok 7 (by decide), rfl, rfl⟩ h0 rfl (by omega) (by omega) rfl rfl dX11_init_82 ?_
  refine k_aload dX11_init_85 ?_
  refine k_new (n := 345) (ci := 6) (q := (RX6, TX6, 1)) tyX6 rfl tyX6_ok (by decide +kernel) (lw_m1 186 rfl rfl) (lw_m1 9 rfl rfl) (m_X6_init.2.2.1) zl_345 (fun j b hj => by (repeat (first | rw [zup_row (by omega)] | rw [hm6, if_neg (by omega)] | rw [hm5, if_neg (by omega)] | rw [hm4, if_neg (by omega)] | rw [hm3, if_neg (by omega)] | rw [hm2, if_neg (by omega)] | rw [hm1, if_neg (by omega)])); rw [hb (345) (by omega), zBl_o zl_345 (by decide)]; exact zBo_ok 6 j b hj) ⟨(Nat.le_of_ble_eq_true rfl), (Nat.le_of_ble_eq_true rfl)⟩ dX11_init_86 ?_
  refine k_dup dX11_init_89 rfl ?_
  refine k_call (h := 345) (k_X6_init zq6_345 (by omega) (fun x hx => by (repeat (first | rw [zup_row (by omega)] | rw [hm6, if_neg (by omega)] | rw [hm5, if_neg (by omega)] | rw [hm4, if_neg (by omega)] | rw [hm3, if_neg (by omega)] | rw [hm2, if_neg (by omega)] | rw [hm1, if_neg (by omega)])); exact hb x (by omega))) m_X6_init n_X11_57 rfl (Nat.le_of_ble_eq_true rfl) ⟨(Nat.le_of_ble_eq_true rfl), (Nat.le_of_ble_eq_true rfl)⟩ ⟨(Nat.le_of_ble_eq_true rfl), (Nat.le_of_ble_eq_true rfl)⟩ dX11_init_90 (fun m7 n1 hp => ⟨hp.1, by rw [hp.1]; omega⟩) (fun m7 n1 hp => ?_)
  obtain ⟨rfl, hm7⟩ := hp
  refine k_putF (id := 0) (j := 345) (ty := tyX11 8) 8 rfl f_X11_58 ⟨_, rfl, tyX11_ok 8 (by decide), rfl, rfl⟩ h0 rfl (by omega) (by omega) rfl rfl dX11_init_93 ?_
  refine k_aload dX11_init_96 ?_
  refine k_bipush dX11_init_97 (by decide) ?_
  refine k_newi (n := 347) (z := 36) (lw_m0 74 rfl rfl) zl_347 (fun j => by (repeat (first | rw [zup_row (by omega)] | rw [hm7, if_neg (by omega)] | rw [hm6, if_neg (by omega)] | rw [hm5, if_neg (by omega)] | rw [hm4, if_neg (by omega)] | rw [hm3, if_neg (by omega)] | rw [hm2, if_neg (by omega)] | rw [hm1, if_neg (by omega)])); rw [hb (347) (by omega), zBl_i zl_347]) (by decide) ⟨(Nat.le_of_ble_eq_true rfl), (Nat.le_of_ble_eq_true rfl)⟩ dX11_init_99 ?_
  refine k_putF (id := 0) (j := 347) (ty := tyX11 9) 9 rfl f_X11_62 ⟨_, rfl, tyX11_ok 9 (by decide), rfl, rfl⟩ h0 rfl (by omega) (by omega) rfl rfl dX11_init_101 ?_
  refine k_aload dX11_init_104 ?_
  refine k_iconst dX11_init_105 ?_
  refine k_newi (n := 348) (z := 3) (lw_m0 74 rfl rfl) zl_348 (fun j => by (repeat (first | rw [zup_row (by omega)] | rw [hm7, if_neg (by omega)] | rw [hm6, if_neg (by omega)] | rw [hm5, if_neg (by omega)] | rw [hm4, if_neg (by omega)] | rw [hm3, if_neg (by omega)] | rw [hm2, if_neg (by omega)] | rw [hm1, if_neg (by omega)])); rw [hb (348) (by omega), zBl_i zl_348]) (by decide) ⟨(Nat.le_of_ble_eq_true rfl), (Nat.le_of_ble_eq_true rfl)⟩ dX11_init_106 ?_
  refine k_putF (id := 0) (j := 348) (ty := tyX11 10) 10 rfl f_X11_66 ⟨_, rfl, tyX11_ok 10 (by decide), rfl, rfl⟩ h0 rfl (by omega) (by omega) rfl rfl dX11_init_108 ?_
  refine k_aload dX11_init_111 ?_
  refine k_iconst dX11_init_112 ?_
  refine k_putI (id := 0) 11 rfl f_X11_69 p_11_11 h0 rfl (by omega) (by omega) dX11_init_113 ?_
  refine k_aload dX11_init_116 ?_
  refine k_iconst dX11_init_117 ?_
  refine k_putI (id := 0) 12 rfl f_X11_73 p_11_12 h0 rfl (by omega) (by omega) dX11_init_118 ?_
  refine k_iconst dX11_init_121 ?_
  refine k_istore1 rfl dX11_init_122 ?_
  refine k_iload1 dX11_init_123 ?_
  refine k_iconst dX11_init_124 ?_
  refine k_icmpge (tgt := 147) (by decide) (by decide) dX11_init_125 (by decide) (fun q => absurd q (by decide)) (fun _ => ?_)
  refine k_aload dX11_init_128 ?_
  refine k_getF (k := 2) (id := 0) 45 f_X11_19 h0 rfl (by omega) (by skip; (repeat (first | rw [zup_ne (Or.inr (by decide))] | rw [(hm7 0).trans (if_neg (by omega))] | rw [(hm6 0).trans (if_neg (by omega))] | rw [(hm5 0).trans (if_neg (by omega))] | rw [(hm4 0).trans (if_neg (by omega))] | rw [(hm3 0).trans (if_neg (by omega))] | rw [(hm2 0).trans (if_neg (by omega))] | rw [(hm1 0).trans (if_neg (by omega))])); exact zup_eq) dX11_init_129 ?_
  refine k_iload1 dX11_init_132 ?_
  refine k_new (n := 349) (ci := 2) (q := (RX2, TX2, 4)) tyX2 rfl tyX2_ok (by decide +kernel) (lw_m0 29 rfl rfl) (lw_m0 30 rfl rfl) (m_X2_init.2.2.1) zl_349 (fun j b hj => by (repeat (first | rw [zup_row (by omega)] | rw [hm7, if_neg (by omega)] | rw [hm6, if_neg (by omega)] | rw [hm5, if_neg (by omega)] | rw [hm4, if_neg (by omega)] | rw [hm3, if_neg (by omega)] | rw [hm2, if_neg (by omega)] | rw [hm1, if_neg (by omega)])); rw [hb (349) (by omega), zBl_o zl_349 (by decide)]; exact zBo_ok 2 j b hj) ⟨(Nat.le_of_ble_eq_true rfl), (Nat.le_of_ble_eq_true rfl)⟩ dX11_init_133 ?_
  refine k_dup dX11_init_136 rfl ?_
  refine k_call (h := 349) (k_X2_init zq2_349 (by omega) (fun x hx => by (repeat (first | rw [zup_row (by omega)] | rw [hm7, if_neg (by omega)] | rw [hm6, if_neg (by omega)] | rw [hm5, if_neg (by omega)] | rw [hm4, if_neg (by omega)] | rw [hm3, if_neg (by omega)] | rw [hm2, if_neg (by omega)] | rw [hm1, if_neg (by omega)])); exact hb x (by omega))) m_X2_init n_X11_9 rfl (Nat.le_of_ble_eq_true rfl) ⟨(Nat.le_of_ble_eq_true rfl), (Nat.le_of_ble_eq_true rfl)⟩ ⟨(Nat.le_of_ble_eq_true rfl), (Nat.le_of_ble_eq_true rfl)⟩ dX11_init_137 (fun m8 n1 hp => ⟨hp.1, by rw [hp.1]; omega⟩) (fun m8 n1 hp => ?_)
  obtain ⟨rfl, hm8⟩ := hp
  refine k_aast (id := 45) (v := 349) (i := 0) zl_45 zl_349 (by omega) (by omega) (by omega) (by decide) (by decide) (by decide) dX11_init_140 ?_
  refine k_iinc1 rfl dX11_init_141 ?_
  refine k_goto (tgt := 123) dX11_init_144 (by decide) ?_
  refine k_iload1 dX11_init_123 ?_
  refine k_iconst dX11_init_124 ?_
  refine k_icmpge (tgt := 147) (by decide) (by decide) dX11_init_125 (by decide) (fun q => absurd q (by decide)) (fun _ => ?_)
  refine k_aload dX11_init_128 ?_
  refine k_getF (k := 2) (id := 0) 45 f_X11_19 h0 rfl (by omega) (by skip; (repeat (first | rw [zup_ne (Or.inr (by decide))] | rw [(hm8 0).trans (if_neg (by omega))] | rw [(hm7 0).trans (if_neg (by omega))] | rw [(hm6 0).trans (if_neg (by omega))] | rw [(hm5 0).trans (if_neg (by omega))] | rw [(hm4 0).trans (if_neg (by omega))] | rw [(hm3 0).trans (if_neg (by omega))] | rw [(hm2 0).trans (if_neg (by omega))] | rw [(hm1 0).trans (if_neg (by omega))])); exact zup_eq) dX11_init_129 ?_
  refine k_iload1 dX11_init_132 ?_
  refine k_new (n := 371) (ci := 2) (q := (RX2, TX2, 4)) tyX2 rfl tyX2_ok (by decide +kernel) (lw_m0 29 rfl rfl) (lw_m0 30 rfl rfl) (m_X2_init.2.2.1) zl_371 (fun j b hj => by (repeat (first | rw [zup_row (by omega)] | rw [hm8, if_neg (by omega)] | rw [hm7, if_neg (by omega)] | rw [hm6, if_neg (by omega)] | rw [hm5, if_neg (by omega)] | rw [hm4, if_neg (by omega)] | rw [hm3, if_neg (by omega)] | rw [hm2, if_neg (by omega)] | rw [hm1, if_neg (by omega)])); rw [hb (371) (by omega), zBl_o zl_371 (by decide)]; exact zBo_ok 2 j b hj) ⟨(Nat.le_of_ble_eq_true rfl), (Nat.le_of_ble_eq_true rfl)⟩ dX11_init_133 ?_
  refine k_dup dX11_init_136 rfl ?_
  refine k_call (h := 371) (k_X2_init zq2_371 (by omega) (fun x hx => by (repeat (first | rw [zup_row (by omega)] | rw [hm8, if_neg (by omega)] | rw [hm7, if_neg (by omega)] | rw [hm6, if_neg (by omega)] | rw [hm5, if_neg (by omega)] | rw [hm4, if_neg (by omega)] | rw [hm3, if_neg (by omega)] | rw [hm2, if_neg (by omega)] | rw [hm1, if_neg (by omega)])); exact hb x (by omega))) m_X2_init n_X11_9 rfl (Nat.le_of_ble_eq_true rfl) ⟨(Nat.le_of_ble_eq_true rfl), (Nat.le_of_ble_eq_true rfl)⟩ ⟨(Nat.le_of_ble_eq_true rfl), (Nat.le_of_ble_eq_true rfl)⟩ dX11_init_137 (fun m9 n1 hp => ⟨hp.1, by rw [hp.1]; omega⟩) (fun m9 n1 hp => ?_)
  obtain ⟨rfl, hm9⟩ := hp
  refine k_aast (id := 45) (v := 371) (i := 1) zl_45 zl_371 (by omega) (by omega) (by omega) (by decide) (by decide) (by decide) dX11_init_140 ?_
  refine k_iinc1 rfl dX11_init_141 ?_
  refine k_goto (tgt := 123) dX11_init_144 (by decide) ?_
  refine k_iload1 dX11_init_123 ?_
  refine k_iconst dX11_init_124 ?_
  refine k_icmpge (tgt := 147) (by decide) (by decide) dX11_init_125 (by decide) (fun _ => ?_) (fun q => absurd q (by decide))
  refine k_ret dX11_init_147 (Nat.le_of_ble_eq_true rfl) (Nat.le_of_ble_eq_true rfl) ⟨rfl, fun x => ?_⟩
  by_cases q : 0 ≤ x ∧ x < 0 + 393
  · rw [if_pos q]
    by_cases q0 : x = 0
    · rw [q0]
      rw [zFi_o h0 (by decide)]
      funext k
      (repeat (first | rw [zup_ap] | rw [(hm9 (0)).trans (if_neg (by omega))] | rw [(hm8 (0)).trans (if_neg (by omega))] | rw [(hm7 (0)).trans (if_neg (by omega))] | rw [(hm6 (0)).trans (if_neg (by omega))] | rw [(hm5 (0)).trans (if_neg (by omega))] | rw [(hm4 (0)).trans (if_neg (by omega))] | rw [(hm3 (0)).trans (if_neg (by omega))] | rw [(hm2 (0)).trans (if_neg (by omega))] | rw [(hm1 (0)).trans (if_neg (by omega))]))
      rw [hb _ (by omega), zBl_o h0 (by decide)]
      rw [zBo_11, zFo_11]
      by_cases e0 : k = 0
      · subst e0; simp
      by_cases e1 : k = 1
      · subst e1; simp
      by_cases e2 : k = 2
      · subst e2; simp
      by_cases e3 : k = 3
      · subst e3; simp
      by_cases e4 : k = 4
      · subst e4; simp
      by_cases e5 : k = 5
      · subst e5; simp
      by_cases e6 : k = 6
      · subst e6; simp
      by_cases e7 : k = 7
      · subst e7; simp
      by_cases e8 : k = 8
      · subst e8; simp
      by_cases e9 : k = 9
      · subst e9; simp
      by_cases e10 : k = 10
      · subst e10; simp
      by_cases e11 : k = 11
      · subst e11; simp
      by_cases e12 : k = 12
      · subst e12; simp
      simp [e0, e1, e2, e3, e4, e5, e6, e7, e8, e9, e10, e11, e12]
    · by_cases c45 : x = 45
      · rw [c45]
        funext k
        (repeat (first | rw [zup_ap] | rw [(hm9 45).trans (if_neg (by omega))] | rw [(hm8 45).trans (if_neg (by omega))] | rw [(hm7 45).trans (if_neg (by omega))] | rw [(hm6 45).trans (if_neg (by omega))] | rw [(hm5 45).trans (if_neg (by omega))] | rw [(hm4 45).trans (if_neg (by omega))] | rw [(hm3 45).trans (if_neg (by omega))] | rw [(hm2 45).trans (if_neg (by omega))] | rw [(hm1 45).trans (if_neg (by omega))]))
        rw [hb 45 (by omega), show zBl 45 k = -1 from rfl, show zFi 45 k = (if k = 0 then 349 else if k = 1 then 371 else -1) from rfl]
        by_cases e0 : k = 0
        · subst e0; simp
        by_cases e1 : k = 1
        · subst e1; simp
        simp [e0, e1]
      · (repeat (rw [zup_row (by omega)]))
        by_cases c9 : 371 ≤ x ∧ x < 371 + 22
        · rw [hm9, if_pos c9]
        · rw [hm9, if_neg c9]
          (repeat (rw [zup_row (by omega)]))
          by_cases c8 : 349 ≤ x ∧ x < 349 + 22
          · rw [hm8, if_pos c8]
          · rw [hm8, if_neg c8]
            (repeat (rw [zup_row (by omega)]))
            by_cases c7 : 345 ≤ x ∧ x < 345 + 2
            · rw [hm7, if_pos c7]
            · rw [hm7, if_neg c7]
              (repeat (rw [zup_row (by omega)]))
              by_cases c6 : 292 ≤ x ∧ x < 292 + 53
              · rw [hm6, if_pos c6]
              · rw [hm6, if_neg c6]
                (repeat (rw [zup_row (by omega)]))
                by_cases c5 : 189 ≤ x ∧ x < 189 + 103
                · rw [hm5, if_pos c5]
                · rw [hm5, if_neg c5]
                  (repeat (rw [zup_row (by omega)]))
                  by_cases c4 : 111 ≤ x ∧ x < 111 + 78
                  · rw [hm4, if_pos c4]
                  · rw [hm4, if_neg c4]
                    (repeat (rw [zup_row (by omega)]))
                    by_cases c3 : 47 ≤ x ∧ x < 47 + 64
                    · rw [hm3, if_pos c3]
                    · rw [hm3, if_neg c3]
                      (repeat (rw [zup_row (by omega)]))
                      by_cases c2 : 23 ≤ x ∧ x < 23 + 22
                      · rw [hm2, if_pos c2]
                      · rw [hm2, if_neg c2]
                        (repeat (rw [zup_row (by omega)]))
                        by_cases c1 : 1 ≤ x ∧ x < 1 + 22
                        · rw [hm1, if_pos c1]
                        · rw [hm1, if_neg c1]
                          (repeat (rw [zup_row (by omega)]))
                          rw [hb x (by omega)]
                          rcases (by omega : x = 46 ∨ x = 347 ∨ x = 348) with rfl | rfl | rfl
                          · exact (zFi_z zl_46).symm
                          · exact (zFi_i zl_347).symm
                          · exact (zFi_i zl_348).symm
  · rw [if_neg q]
    (repeat (first | rw [zup_row (by omega)] | rw [hm9, if_neg (by omega)] | rw [hm8, if_neg (by omega)] | rw [hm7, if_neg (by omega)] | rw [hm6, if_neg (by omega)] | rw [hm5, if_neg (by omega)] | rw [hm4, if_neg (by omega)] | rw [hm3, if_neg (by omega)] | rw [hm2, if_neg (by omega)] | rw [hm1, if_neg (by omega)]))
