theorem zBl_r {x m : Nat} (h : zl x = (22, m)) {j : Nat} (hj : j < 100000) : zBl x (j : Int) = ((x + 1 + j : Nat) : Int) := by
  have : zBl x (j : Int) = (if (j : Int) < 100000 then ((x + 1 + (j : Int).toNat : Nat) : Int) else 0) := by
    unfold zBl
    rw [h]
    dsimp only
    rw [if_neg (by decide), if_pos rfl]
  rw [this, if_pos (by omega), Int.toNat_natCast]
theorem zBo_ok (c j : Nat) (b : Bool) (h : (zrefs c)[j]? = some b) : zBo c (j : Int) = if b then -1 else 0 := by
  have key : ∀ c : Nat, c < 13 → ∀ j : Nat, j < 42 → ∀ b : Bool, (zrefs c)[j]? = some b → zBo c (j : Int) = if b then -1 else 0 := by decide +kernel
  have hc : c < 13 ∧ j < 42 := by
    have hl : j < (zrefs c).length := (List.getElem?_eq_some_iff.mp h).1
    by_cases q : c < 13
    · exact ⟨q, Nat.lt_of_lt_of_le hl ((by decide +kernel : ∀ c : Nat, c < 13 → (zrefs c).length ≤ 42) c q)⟩
    · exfalso
      have : zrefs c = [] := by
        match c, q with
        | c + 13, _ => rfl
      rw [this] at hl
      exact absurd hl (by simp)
  exact key c hc.1 j hc.2 b h
set_option maxRecDepth 100000 in
set_option maxHeartbeats 4000000 in
theorem k_X2_init {l : Launch} {E : zE} {μ : zM} {h : Nat} (hz : zAt zp2 h) (hN : h + 22 ≤ zN) (hb : ∀ x, h ≤ x → μ x = zBl x) : CtI l E yX2_init cX2_init 1 ({ frames := 2, cells := 21, slots := 183, locals := 48 }) h μ (zPi h 22 μ) := by
  refine CtI.of RX2 [zR h] (by decide +kernel) rfl rfl rfl (by decide) (fun X hX => ?_)
  subst hX
  have h0 : zl h = (2, 4) := (hz.at 0 rfl)
  have eN : zN = 420 := rfl
  refine k_aload dX2_init_0 ?_
  refine k_obj l_X2_3 (lw_m0 27 rfl rfl) (lw_m0 28 rfl rfl) (Nat.le_of_ble_eq_true rfl) ⟨(Nat.le_of_ble_eq_true rfl), (Nat.le_of_ble_eq_true rfl)⟩ dX2_init_1 ?_
  refine k_aload dX2_init_4 ?_
  refine k_new (n := h + 1) (ci := 1) (q := (RX1, TX1, 6)) tyX1 rfl tyX1_ok (by decide +kernel) (lw_m0 35 rfl rfl) (lw_m0 36 rfl rfl) (m_X1_init.2.2.1) (hz.at 1 rfl) (fun j b hj => by (repeat (first | rw [zup_row (by omega)])); rw [hb (h + 1) (by omega), zBl_o (hz.at 1 rfl) (by decide)]; exact zBo_ok 1 j b hj) ⟨(Nat.le_of_ble_eq_true rfl), (Nat.le_of_ble_eq_true rfl)⟩ dX2_init_5 ?_
  refine k_dup dX2_init_8 rfl ?_
  refine k_call (h := h + 1) (k_X1_init (hz.sub 1 rfl) (by omega) (fun x hx => by (repeat (first | rw [zup_row (by omega)])); exact hb x (by omega))) m_X1_init n_X2_11 rfl (Nat.le_of_ble_eq_true rfl) ⟨(Nat.le_of_ble_eq_true rfl), (Nat.le_of_ble_eq_true rfl)⟩ ⟨(Nat.le_of_ble_eq_true rfl), (Nat.le_of_ble_eq_true rfl)⟩ dX2_init_9 (fun m1 n1 hp => ⟨hp.1, by rw [hp.1]; omega⟩) (fun m1 n1 hp => ?_)
  obtain ⟨rfl, hm1⟩ := hp
  refine k_putF (id := h) (j := h + 1) (ty := tyX2 0) 0 rfl f_X2_12 ⟨_, rfl, tyX2_ok 0 (by decide), rfl, rfl⟩ h0 rfl (by omega) (by omega) rfl rfl dX2_init_12 ?_
  refine k_aload dX2_init_15 ?_
  refine k_new (n := h + 5) (ci := 5) (q := (RX5, TX5, 7)) tyX5 rfl tyX5_ok (by decide +kernel) (lw_m0 75 rfl rfl) (lw_m0 76 rfl rfl) (m_X5_init.2.2.1) (hz.at 5 rfl) (fun j b hj => by (repeat (first | rw [zup_row (by omega)] | rw [hm1, if_neg (by omega)])); rw [hb (h + 5) (by omega), zBl_o (hz.at 5 rfl) (by decide)]; exact zBo_ok 5 j b hj) ⟨(Nat.le_of_ble_eq_true rfl), (Nat.le_of_ble_eq_true rfl)⟩ dX2_init_16 ?_
  refine k_dup dX2_init_19 rfl ?_
  refine k_call (h := h + 5) (k_X5_init (hz.sub 5 rfl) (by omega) (fun x hx => by (repeat (first | rw [zup_row (by omega)] | rw [hm1, if_neg (by omega)])); exact hb x (by omega))) m_X5_init n_X2_20 rfl (Nat.le_of_ble_eq_true rfl) ⟨(Nat.le_of_ble_eq_true rfl), (Nat.le_of_ble_eq_true rfl)⟩ ⟨(Nat.le_of_ble_eq_true rfl), (Nat.le_of_ble_eq_true rfl)⟩ dX2_init_20 (fun m2 n1 hp => ⟨hp.1, by rw [hp.1]; omega⟩) (fun m2 n1 hp => ?_)
  obtain ⟨rfl, hm2⟩ := hp
  refine k_putF (id := h) (j := h + 5) (ty := tyX2 1) 1 rfl f_X2_21 ⟨_, rfl, tyX2_ok 1 (by decide), rfl, rfl⟩ h0 rfl (by omega) (by omega) rfl rfl dX2_init_23 ?_
  refine k_aload dX2_init_26 ?_
  refine k_new (n := h + 12) (ci := 9) (q := (RX9, TX9, 6)) tyX9 rfl tyX9_ok (by decide +kernel) (lw_m0 121 rfl rfl) (lw_m0 122 rfl rfl) (m_X9_init.2.2.1) (hz.at 12 rfl) (fun j b hj => by (repeat (first | rw [zup_row (by omega)] | rw [hm2, if_neg (by omega)] | rw [hm1, if_neg (by omega)])); rw [hb (h + 12) (by omega), zBl_o (hz.at 12 rfl) (by decide)]; exact zBo_ok 9 j b hj) ⟨(Nat.le_of_ble_eq_true rfl), (Nat.le_of_ble_eq_true rfl)⟩ dX2_init_27 ?_
  refine k_dup dX2_init_30 rfl ?_
  refine k_call (h := h + 12) (k_X9_init (hz.sub 12 rfl) (by omega) (fun x hx => by (repeat (first | rw [zup_row (by omega)] | rw [hm2, if_neg (by omega)] | rw [hm1, if_neg (by omega)])); exact hb x (by omega))) m_X9_init n_X2_27 rfl (Nat.le_of_ble_eq_true rfl) ⟨(Nat.le_of_ble_eq_true rfl), (Nat.le_of_ble_eq_true rfl)⟩ ⟨(Nat.le_of_ble_eq_true rfl), (Nat.le_of_ble_eq_true rfl)⟩ dX2_init_31 (fun m3 n1 hp => ⟨hp.1, by rw [hp.1]; omega⟩) (fun m3 n1 hp => ?_)
  obtain ⟨rfl, hm3⟩ := hp
  refine k_putF (id := h) (j := h + 12) (ty := tyX2 2) 2 rfl f_X2_28 ⟨_, rfl, tyX2_ok 2 (by decide), rfl, rfl⟩ h0 rfl (by omega) (by omega) rfl rfl dX2_init_34 ?_
  refine k_aload dX2_init_37 ?_
  refine k_new (n := h + 18) (ci := 7) (q := (RX7, TX7, 4)) tyX7 rfl tyX7_ok (by decide +kernel) (lw_m0 156 rfl rfl) (lw_m0 157 rfl rfl) (m_X7_init.2.2.1) (hz.at 18 rfl) (fun j b hj => by (repeat (first | rw [zup_row (by omega)] | rw [hm3, if_neg (by omega)] | rw [hm2, if_neg (by omega)] | rw [hm1, if_neg (by omega)])); rw [hb (h + 18) (by omega), zBl_o (hz.at 18 rfl) (by decide)]; exact zBo_ok 7 j b hj) ⟨(Nat.le_of_ble_eq_true rfl), (Nat.le_of_ble_eq_true rfl)⟩ dX2_init_38 ?_
  refine k_dup dX2_init_41 rfl ?_
  refine k_call (h := h + 18) (k_X7_init (hz.sub 18 rfl) (by omega) (fun x hx => by (repeat (first | rw [zup_row (by omega)] | rw [hm3, if_neg (by omega)] | rw [hm2, if_neg (by omega)] | rw [hm1, if_neg (by omega)])); exact hb x (by omega))) m_X7_init n_X2_34 rfl (Nat.le_of_ble_eq_true rfl) ⟨(Nat.le_of_ble_eq_true rfl), (Nat.le_of_ble_eq_true rfl)⟩ ⟨(Nat.le_of_ble_eq_true rfl), (Nat.le_of_ble_eq_true rfl)⟩ dX2_init_42 (fun m4 n1 hp => ⟨hp.1, by rw [hp.1]; omega⟩) (fun m4 n1 hp => ?_)
  obtain ⟨rfl, hm4⟩ := hp
  refine k_putF (id := h) (j := h + 18) (ty := tyX2 3) 3 rfl f_X2_35 ⟨_, rfl, tyX2_ok 3 (by decide), rfl, rfl⟩ h0 rfl (by omega) (by omega) rfl rfl dX2_init_45 ?_
  refine k_ret dX2_init_48 (Nat.le_of_ble_eq_true rfl) (Nat.le_of_ble_eq_true rfl) ⟨rfl, fun x => ?_⟩
  by_cases q : h ≤ x ∧ x < h + 22
  · rw [if_pos q]
    by_cases q0 : x = h
    · rw [q0]
      rw [zFi_o h0 (by decide)]
      funext k
      (repeat (first | rw [zup_ap] | rw [(hm4 (h)).trans (if_neg (by omega))] | rw [(hm3 (h)).trans (if_neg (by omega))] | rw [(hm2 (h)).trans (if_neg (by omega))] | rw [(hm1 (h)).trans (if_neg (by omega))]))
      rw [hb _ (by omega), zBl_o h0 (by decide)]
      rw [zBo_2, zFo_2]
      by_cases e0 : k = 0
      · subst e0; simp
      by_cases e1 : k = 1
      · subst e1; simp
      by_cases e2 : k = 2
      · subst e2; simp
      by_cases e3 : k = 3
      · subst e3; simp
      simp [e0, e1, e2, e3]
    · (repeat (rw [zup_row (by omega)]))
      by_cases c4 : h + 18 ≤ x ∧ x < h + 18 + 4
      · rw [hm4, if_pos c4]
      · rw [hm4, if_neg c4]
        (repeat (rw [zup_row (by omega)]))
        by_cases c3 : h + 12 ≤ x ∧ x < h + 12 + 6
        · rw [hm3, if_pos c3]
        · rw [hm3, if_neg c3]
          (repeat (rw [zup_row (by omega)]))
          by_cases c2 : h + 5 ≤ x ∧ x < h + 5 + 7
          · rw [hm2, if_pos c2]
          · rw [hm2, if_neg c2]
            (repeat (rw [zup_row (by omega)]))
            by_cases c1 : h + 1 ≤ x ∧ x < h + 1 + 4
            · rw [hm1, if_pos c1]
            · rw [hm1, if_neg c1]
              (repeat (rw [zup_row (by omega)]))
              rw [hb x (by omega)]
              omega
  · rw [if_neg q]
    (repeat (first | rw [zup_row (by omega)] | rw [hm4, if_neg (by omega)] | rw [hm3, if_neg (by omega)] | rw [hm2, if_neg (by omega)] | rw [hm1, if_neg (by omega)]))
set_option maxRecDepth 100000 in
set_option maxHeartbeats 4000000 in
theorem k_X0_init {l : Launch} {E : zE} {μ : zM} {h : Nat} (hz : zAt zp0 h) (hN : h + 47 ≤ zN) (hb : ∀ x, h ≤ x → μ x = zBl x) : CtI l E yX0_init cX0_init 1 ({ frames := 2, cells := 46, slots := 641, locals := 48 }) h μ (zPi h 47 μ) := by
  refine CtI.of RX0 [zR h] (by decide +kernel) rfl rfl rfl (by decide) (fun X hX => ?_)
  subst hX
  have h0 : zl h = (0, 10) := (hz.at 0 rfl)
  have eN : zN = 420 := rfl
  refine k_aload dX0_init_0 ?_
  refine k_obj l_X0_3 (lw_m0 27 rfl rfl) (lw_m0 28 rfl rfl) (Nat.le_of_ble_eq_true rfl) ⟨(Nat.le_of_ble_eq_true rfl), (Nat.le_of_ble_eq_true rfl)⟩ dX0_init_1 ?_
  refine k_aload dX0_init_4 ?_
  refine k_new (n := h + 1) (ci := 6) (q := (RX6, TX6, 1)) tyX6 rfl tyX6_ok (by decide +kernel) (lw_m1 8 rfl rfl) (lw_m1 9 rfl rfl) (m_X6_init.2.2.1) (hz.at 1 rfl) (fun j b hj => by (repeat (first | rw [zup_row (by omega)])); rw [hb (h + 1) (by omega), zBl_o (hz.at 1 rfl) (by decide)]; exact zBo_ok 6 j b hj) ⟨(Nat.le_of_ble_eq_true rfl), (Nat.le_of_ble_eq_true rfl)⟩ dX0_init_5 ?_
  refine k_dup dX0_init_8 rfl ?_
  refine k_call (h := h + 1) (k_X6_init (hz.sub 1 rfl) (by omega) (fun x hx => by (repeat (first | rw [zup_row (by omega)])); exact hb x (by omega))) m_X6_init n_X0_11 rfl (Nat.le_of_ble_eq_true rfl) ⟨(Nat.le_of_ble_eq_true rfl), (Nat.le_of_ble_eq_true rfl)⟩ ⟨(Nat.le_of_ble_eq_true rfl), (Nat.le_of_ble_eq_true rfl)⟩ dX0_init_9 (fun m1 n1 hp => ⟨hp.1, by rw [hp.1]; omega⟩) (fun m1 n1 hp => ?_)
  obtain ⟨rfl, hm1⟩ := hp
  refine k_putF (id := h) (j := h + 1) (ty := tyX0 0) 0 rfl f_X0_12 ⟨_, rfl, tyX0_ok 0 (by decide), rfl, rfl⟩ h0 rfl (by omega) (by omega) rfl rfl dX0_init_12 ?_
  refine k_aload dX0_init_15 ?_
  refine k_bipush dX0_init_16 (by decide) ?_
  refine k_bipush dX0_init_18 (by decide) ?_
  have rw3 : ∀ j, j < 6 → zl (h + 3 + 1 + j) = (20, 36) := fun j hj => by have := hz (4 + j) (20, 36) ((by decide : ∀ j, j < 6 → zp0[4 + j]? = some (20, 36)) j hj); rwa [show h + (4 + j) = h + 3 + 1 + j by omega] at this
  refine k_mna (n := h + 3) (N := 6) (K := 36) (show Cond.classLink RX0 18 "[[I" ∈ LW from lw_m1 18 rfl rfl) (lw_m0 74 rfl rfl) (hz.at 3 rfl) rw3 (fun j hj => by (repeat (first | rw [zup_row (by omega)] | rw [hm1, if_neg (by omega)])); rw [hb (h + 3) (by omega)]; exact zBl_r (hz.at 3 rfl) (by omega)) (fun j hj i => by (repeat (first | rw [zup_row (by omega)] | rw [hm1, if_neg (by omega)])); rw [hb (h + 3 + 1 + j) (by omega), zBl_i (rw3 j hj)]) (by omega) (by decide) (by decide) ⟨(Nat.le_of_ble_eq_true rfl), (Nat.le_of_ble_eq_true rfl)⟩ dX0_init_20 ?_
  refine k_putF (id := h) (j := h + 3) (ty := tyX0 1) 1 rfl f_X0_20 ⟨_, rfl, tyX0_ok 1 (by decide), rfl, rfl⟩ h0 rfl (by omega) (by omega) rfl rfl dX0_init_24 ?_
  refine k_aload dX0_init_27 ?_
  refine k_bipush dX0_init_28 (by decide) ?_
  refine k_newi (n := h + 10) (z := 36) (lw_m0 74 rfl rfl) (hz.at 10 rfl) (fun j => by (repeat (first | rw [zup_row (by omega)] | rw [hm1, if_neg (by omega)])); rw [hb (h + 10) (by omega), zBl_i (hz.at 10 rfl)]) (by decide) ⟨(Nat.le_of_ble_eq_true rfl), (Nat.le_of_ble_eq_true rfl)⟩ dX0_init_30 ?_
  refine k_putF (id := h) (j := h + 10) (ty := tyX0 2) 2 rfl f_X0_23 ⟨_, rfl, tyX0_ok 2 (by decide), rfl, rfl⟩ h0 rfl (by omega) (by omega) rfl rfl dX0_init_32 ?_
  refine k_aload dX0_init_35 ?_
  refine k_bipush dX0_init_36 (by decide) ?_
  refine k_bipush dX0_init_38 (by decide) ?_
  have rw11 : ∀ j, j < 6 → zl (h + 11 + 1 + j) = (20, 6) := fun j hj => by have := hz (12 + j) (20, 6) ((by decide : ∀ j, j < 6 → zp0[12 + j]? = some (20, 6)) j hj); rwa [show h + (12 + j) = h + 11 + 1 + j by omega] at this
  refine k_mna (n := h + 11) (N := 6) (K := 6) (show Cond.classLink RX0 18 "[[I" ∈ LW from lw_m1 18 rfl rfl) (lw_m0 74 rfl rfl) (hz.at 11 rfl) rw11 (fun j hj => by (repeat (first | rw [zup_row (by omega)] | rw [hm1, if_neg (by omega)])); rw [hb (h + 11) (by omega)]; exact zBl_r (hz.at 11 rfl) (by omega)) (fun j hj i => by (repeat (first | rw [zup_row (by omega)] | rw [hm1, if_neg (by omega)])); rw [hb (h + 11 + 1 + j) (by omega), zBl_i (rw11 j hj)]) (by omega) (by decide) (by decide) ⟨(Nat.le_of_ble_eq_true rfl), (Nat.le_of_ble_eq_true rfl)⟩ dX0_init_40 ?_
  refine k_putF (id := h) (j := h + 11) (ty := tyX0 3) 3 rfl f_X0_27 ⟨_, rfl, tyX0_ok 3 (by decide), rfl, rfl⟩ h0 rfl (by omega) (by omega) rfl rfl dX0_init_44 ?_
  refine k_aload dX0_init_47 ?_
  refine k_bipush dX0_init_48 (by decide) ?_
  refine k_bipush dX0_init_50 (by decide) ?_
  have rw18 : ∀ j, j < 6 → zl (h + 18 + 1 + j) = (20, 6) := fun j hj => by have := hz (19 + j) (20, 6) ((by decide : ∀ j, j < 6 → zp0[19 + j]? = some (20, 6)) j hj); rwa [show h + (19 + j) = h + 18 + 1 + j by omega] at this
  refine k_mna (n := h + 18) (N := 6) (K := 6) (show Cond.classLink RX0 18 "[[I" ∈ LW from lw_m1 18 rfl rfl) (lw_m0 74 rfl rfl) (hz.at 18 rfl) rw18 (fun j hj => by (repeat (first | rw [zup_row (by omega)] | rw [hm1, if_neg (by omega)])); rw [hb (h + 18) (by omega)]; exact zBl_r (hz.at 18 rfl) (by omega)) (fun j hj i => by (repeat (first | rw [zup_row (by omega)] | rw [hm1, if_neg (by omega)])); rw [hb (h + 18 + 1 + j) (by omega), zBl_i (rw18 j hj)]) (by omega) (by decide) (by decide) ⟨(Nat.le_of_ble_eq_true rfl), (Nat.le_of_ble_eq_true rfl)⟩ dX0_init_52 ?_
  refine k_putF (id := h) (j := h + 18) (ty := tyX0 4) 4 rfl f_X0_30 ⟨_, rfl, tyX0_ok 4 (by decide), rfl, rfl⟩ h0 rfl (by omega) (by omega) rfl rfl dX0_init_56 ?_
  refine k_aload dX0_init_59 ?_
  refine k_bipush dX0_init_60 (by decide) ?_
  refine k_bipush dX0_init_62 (by decide) ?_
  have rw25 : ∀ j, j < 8 → zl (h + 25 + 1 + j) = (20, 6) := fun j hj => by have := hz (26 + j) (20, 6) ((by decide : ∀ j, j < 8 → zp0[26 + j]? = some (20, 6)) j hj); rwa [show h + (26 + j) = h + 25 + 1 + j by omega] at this
  refine k_mna (n := h + 25) (N := 8) (K := 6) (show Cond.classLink RX0 18 "[[I" ∈ LW from lw_m1 18 rfl rfl) (lw_m0 74 rfl rfl) (hz.at 25 rfl) rw25 (fun j hj => by (repeat (first | rw [zup_row (by omega)] | rw [hm1, if_neg (by omega)])); rw [hb (h + 25) (by omega)]; exact zBl_r (hz.at 25 rfl) (by omega)) (fun j hj i => by (repeat (first | rw [zup_row (by omega)] | rw [hm1, if_neg (by omega)])); rw [hb (h + 25 + 1 + j) (by omega), zBl_i (rw25 j hj)]) (by omega) (by decide) (by decide) ⟨(Nat.le_of_ble_eq_true rfl), (Nat.le_of_ble_eq_true rfl)⟩ dX0_init_64 ?_
  refine k_putF (id := h) (j := h + 25) (ty := tyX0 5) 5 rfl f_X0_33 ⟨_, rfl, tyX0_ok 5 (by decide), rfl, rfl⟩ h0 rfl (by omega) (by omega) rfl rfl dX0_init_68 ?_
  refine k_aload dX0_init_71 ?_
  refine k_bipush dX0_init_72 (by decide) ?_
  refine k_newi (n := h + 34) (z := 40) (lw_m0 74 rfl rfl) (hz.at 34 rfl) (fun j => by (repeat (first | rw [zup_row (by omega)] | rw [hm1, if_neg (by omega)])); rw [hb (h + 34) (by omega), zBl_i (hz.at 34 rfl)]) (by decide) ⟨(Nat.le_of_ble_eq_true rfl), (Nat.le_of_ble_eq_true rfl)⟩ dX0_init_74 ?_
  refine k_putF (id := h) (j := h + 34) (ty := tyX0 6) 6 rfl f_X0_36 ⟨_, rfl, tyX0_ok 6 (by decide), rfl, rfl⟩ h0 rfl (by omega) (by omega) rfl rfl dX0_init_76 ?_
  refine k_aload dX0_init_79 ?_
  refine k_bipush dX0_init_80 (by decide) ?_
  refine k_newi (n := h + 35) (z := 40) (lw_m0 74 rfl rfl) (hz.at 35 rfl) (fun j => by (repeat (first | rw [zup_row (by omega)] | rw [hm1, if_neg (by omega)])); rw [hb (h + 35) (by omega), zBl_i (hz.at 35 rfl)]) (by decide) ⟨(Nat.le_of_ble_eq_true rfl), (Nat.le_of_ble_eq_true rfl)⟩ dX0_init_82 ?_
  refine k_putF (id := h) (j := h + 35) (ty := tyX0 7) 7 rfl f_X0_39 ⟨_, rfl, tyX0_ok 7 (by decide), rfl, rfl⟩ h0 rfl (by omega) (by omega) rfl rfl dX0_init_84 ?_
  refine k_aload dX0_init_87 ?_
  refine k_bipush dX0_init_88 (by decide) ?_
  refine k_bipush dX0_init_90 (by decide) ?_
  have rw36 : ∀ j, j < 6 → zl (h + 36 + 1 + j) = (20, 6) := fun j hj => by have := hz (37 + j) (20, 6) ((by decide : ∀ j, j < 6 → zp0[37 + j]? = some (20, 6)) j hj); rwa [show h + (37 + j) = h + 36 + 1 + j by omega] at this
  refine k_mna (n := h + 36) (N := 6) (K := 6) (show Cond.classLink RX0 18 "[[I" ∈ LW from lw_m1 18 rfl rfl) (lw_m0 74 rfl rfl) (hz.at 36 rfl) rw36 (fun j hj => by (repeat (first | rw [zup_row (by omega)] | rw [hm1, if_neg (by omega)])); rw [hb (h + 36) (by omega)]; exact zBl_r (hz.at 36 rfl) (by omega)) (fun j hj i => by (repeat (first | rw [zup_row (by omega)] | rw [hm1, if_neg (by omega)])); rw [hb (h + 36 + 1 + j) (by omega), zBl_i (rw36 j hj)]) (by omega) (by decide) (by decide) ⟨(Nat.le_of_ble_eq_true rfl), (Nat.le_of_ble_eq_true rfl)⟩ dX0_init_92 ?_
  refine k_putF (id := h) (j := h + 36) (ty := tyX0 8) 8 rfl f_X0_42 ⟨_, rfl, tyX0_ok 8 (by decide), rfl, rfl⟩ h0 rfl (by omega) (by omega) rfl rfl dX0_init_96 ?_
  refine k_aload dX0_init_99 ?_
  refine k_new (n := h + 43) (ci := 1) (q := (RX1, TX1, 6)) tyX1 rfl tyX1_ok (by decide +kernel) (lw_m1 19 rfl rfl) (lw_m0 36 rfl rfl) (m_X1_init.2.2.1) (hz.at 43 rfl) (fun j b hj => by (repeat (first | rw [zup_row (by omega)] | rw [hm1, if_neg (by omega)])); rw [hb (h + 43) (by omega), zBl_o (hz.at 43 rfl) (by decide)]; exact zBo_ok 1 j b hj) ⟨(Nat.le_of_ble_eq_true rfl), (Nat.le_of_ble_eq_true rfl)⟩ dX0_init_100 ?_
  refine k_dup dX0_init_103 rfl ?_
  refine k_call (h := h + 43) (k_X1_init (hz.sub 43 rfl) (by omega) (fun x hx => by (repeat (first | rw [zup_row (by omega)] | rw [hm1, if_neg (by omega)])); exact hb x (by omega))) m_X1_init n_X0_47 rfl (Nat.le_of_ble_eq_true rfl) ⟨(Nat.le_of_ble_eq_true rfl), (Nat.le_of_ble_eq_true rfl)⟩ ⟨(Nat.le_of_ble_eq_true rfl), (Nat.le_of_ble_eq_true rfl)⟩ dX0_init_104 (fun m2 n1 hp => ⟨hp.1, by rw [hp.1]; omega⟩) (fun m2 n1 hp => ?_)
  obtain ⟨rfl, hm2⟩ := hp
  refine k_putR (id := h) (j := h + 43) 9 rfl f_X0_48 p_0_9 h0 rfl (by omega) (by omega) dX0_init_107 ?_
  refine k_ret dX0_init_110 (Nat.le_of_ble_eq_true rfl) (Nat.le_of_ble_eq_true rfl) ⟨rfl, fun x => ?_⟩
  by_cases q : h ≤ x ∧ x < h + 47
  · rw [if_pos q]
    by_cases q0 : x = h
    · rw [q0]
      rw [zFi_o h0 (by decide)]
      funext k
      (repeat (first | rw [zup_ap] | rw [(hm2 (h)).trans (if_neg (by omega))] | rw [(hm1 (h)).trans (if_neg (by omega))]))
      rw [hb _ (by omega), zBl_o h0 (by decide)]
      rw [zBo_0, zFo_0]
      by_cases e0 : k = 0
      · subst e0; simp
      by_cases e1 : k = 1
      · subst e1; simp
      by_cases e2 : k = 2
      · subst e2; simp
      by_cases e3 : k = 3
      · subst e3; simp
      by_cases e4 : k = 4
      · subst e4; simp
      by_cases e5 : k = 5
      · subst e5; simp
      by_cases e6 : k = 6
      · subst e6; simp
      by_cases e7 : k = 7
      · subst e7; simp
      by_cases e8 : k = 8
      · subst e8; simp
      by_cases e9 : k = 9
      · subst e9; simp
      simp [e0, e1, e2, e3, e4, e5, e6, e7, e8, e9]
    · (repeat (rw [zup_row (by omega)]))
      by_cases c2 : h + 43 ≤ x ∧ x < h + 43 + 4
      · rw [hm2, if_pos c2]
      · rw [hm2, if_neg c2]
        (repeat (rw [zup_row (by omega)]))
        by_cases c1 : h + 1 ≤ x ∧ x < h + 1 + 2
        · rw [hm1, if_pos c1]
        · rw [hm1, if_neg c1]
          (repeat (rw [zup_row (by omega)]))
          rw [hb x (by omega)]
          rcases (by omega : x = h + 10 ∨ x = h + 34 ∨ x = h + 35 ∨ x = h + 3 ∨ (h + 3 < x ∧ x < h + 3 + 1 + 6) ∨ x = h + 11 ∨ (h + 11 < x ∧ x < h + 11 + 1 + 6) ∨ x = h + 18 ∨ (h + 18 < x ∧ x < h + 18 + 1 + 6) ∨ x = h + 25 ∨ (h + 25 < x ∧ x < h + 25 + 1 + 8) ∨ x = h + 36 ∨ (h + 36 < x ∧ x < h + 36 + 1 + 6)) with rfl | rfl | rfl | rfl | ⟨r1, r2⟩ | rfl | ⟨r1, r2⟩ | rfl | ⟨r1, r2⟩ | rfl | ⟨r1, r2⟩ | rfl | ⟨r1, r2⟩
          · exact (zFi_i (hz.at 10 rfl)).symm
          · exact (zFi_i (hz.at 34 rfl)).symm
          · exact (zFi_i (hz.at 35 rfl)).symm
          · exact (zFi_r (hz.at 3 rfl)).symm
          · obtain ⟨j, rfl⟩ : ∃ j, x = h + 3 + 1 + j := ⟨x - (h + 3 + 1), by omega⟩
            exact (zFi_i (rw3 j (by omega))).symm
          · exact (zFi_r (hz.at 11 rfl)).symm
          · obtain ⟨j, rfl⟩ : ∃ j, x = h + 11 + 1 + j := ⟨x - (h + 11 + 1), by omega⟩
            exact (zFi_i (rw11 j (by omega))).symm
          · exact (zFi_r (hz.at 18 rfl)).symm
          · obtain ⟨j, rfl⟩ : ∃ j, x = h + 18 + 1 + j := ⟨x - (h + 18 + 1), by omega⟩
            exact (zFi_i (rw18 j (by omega))).symm
          · exact (zFi_r (hz.at 25 rfl)).symm
          · obtain ⟨j, rfl⟩ : ∃ j, x = h + 25 + 1 + j := ⟨x - (h + 25 + 1), by omega⟩
            exact (zFi_i (rw25 j (by omega))).symm
          · exact (zFi_r (hz.at 36 rfl)).symm
          · obtain ⟨j, rfl⟩ : ∃ j, x = h + 36 + 1 + j := ⟨x - (h + 36 + 1), by omega⟩
            exact (zFi_i (rw36 j (by omega))).symm
  · rw [if_neg q]
    (repeat (first | rw [zup_row (by omega)] | rw [hm2, if_neg (by omega)] | rw [hm1, if_neg (by omega)]))
set_option maxRecDepth 100000 in
set_option maxHeartbeats 4000000 in
theorem k_X4_init {l : Launch} {E : zE} {μ : zM} {h : Nat} (hz : zAt zp4 h) (hN : h + 78 ≤ zN) (hb : ∀ x, h ≤ x → μ x = zBl x) : CtI l E yX4_init cX4_init 1 ({ frames := 3, cells := 77, slots := 1169, locals := 68 }) h μ (zPi h 78 μ) := by
  refine CtI.of RX4 [zR h] (by decide +kernel) rfl rfl rfl (by decide) (fun X hX => ?_)
  subst hX
  have h0 : zl h = (4, 15) := (hz.at 0 rfl)
  have eN : zN = 420 := rfl
  refine k_aload dX4_init_0 ?_
  refine k_obj l_X4_3 (lw_m0 27 rfl rfl) (lw_m0 28 rfl rfl) (Nat.le_of_ble_eq_true rfl) ⟨(Nat.le_of_ble_eq_true rfl), (Nat.le_of_ble_eq_true rfl)⟩ dX4_init_1 ?_
  refine k_aload dX4_init_4 ?_
  refine k_iconst dX4_init_5 ?_
  refine k_newi (n := h + 1) (z := 5) (lw_m0 74 rfl rfl) (hz.at 1 rfl) (fun j => by (repeat (first | rw [zup_row (by omega)])); rw [hb (h + 1) (by omega), zBl_i (hz.at 1 rfl)]) (by decide) ⟨(Nat.le_of_ble_eq_true rfl), (Nat.le_of_ble_eq_true rfl)⟩ dX4_init_6 ?_
  refine k_putF (id := h) (j := h + 1) (ty := tyX4 0) 0 rfl f_X4_9 ⟨_, rfl, tyX4_ok 0 (by decide), rfl, rfl⟩ h0 rfl (by omega) (by omega) rfl rfl dX4_init_8 ?_
  refine k_aload dX4_init_11 ?_
  refine k_iconst dX4_init_12 ?_
  refine k_newi (n := h + 2) (z := 5) (lw_m0 74 rfl rfl) (hz.at 2 rfl) (fun j => by (repeat (first | rw [zup_row (by omega)])); rw [hb (h + 2) (by omega), zBl_i (hz.at 2 rfl)]) (by decide) ⟨(Nat.le_of_ble_eq_true rfl), (Nat.le_of_ble_eq_true rfl)⟩ dX4_init_13 ?_
  refine k_putF (id := h) (j := h + 2) (ty := tyX4 1) 1 rfl f_X4_15 ⟨_, rfl, tyX4_ok 1 (by decide), rfl, rfl⟩ h0 rfl (by omega) (by omega) rfl rfl dX4_init_15 ?_
  refine k_aload dX4_init_18 ?_
  refine k_iconst dX4_init_19 ?_
  refine k_bipush dX4_init_20 (by decide) ?_
  have rw3 : ∀ j, j < 5 → zl (h + 3 + 1 + j) = (20, 40) := fun j hj => by have := hz (4 + j) (20, 40) ((by decide : ∀ j, j < 5 → zp4[4 + j]? = some (20, 40)) j hj); rwa [show h + (4 + j) = h + 3 + 1 + j by omega] at this
  refine k_mna (n := h + 3) (N := 5) (K := 40) (show Cond.classLink RX4 18 "[[I" ∈ LW from lw_m1 1 rfl rfl) (lw_m0 74 rfl rfl) (hz.at 3 rfl) rw3 (fun j hj => by (repeat (first | rw [zup_row (by omega)])); rw [hb (h + 3) (by omega)]; exact zBl_r (hz.at 3 rfl) (by omega)) (fun j hj i => by (repeat (first | rw [zup_row (by omega)])); rw [hb (h + 3 + 1 + j) (by omega), zBl_i (rw3 j hj)]) (by omega) (by decide) (by decide) ⟨(Nat.le_of_ble_eq_true rfl), (Nat.le_of_ble_eq_true rfl)⟩ dX4_init_22 ?_
  refine k_putF (id := h) (j := h + 3) (ty := tyX4 2) 2 rfl f_X4_20 ⟨_, rfl, tyX4_ok 2 (by decide), rfl, rfl⟩ h0 rfl (by omega) (by omega) rfl rfl dX4_init_26 ?_
  refine k_aload dX4_init_29 ?_
  refine k_iconst dX4_init_30 ?_
  refine k_bipush dX4_init_31 (by decide) ?_
  have rw9 : ∀ j, j < 5 → zl (h + 9 + 1 + j) = (20, 40) := fun j hj => by have := hz (10 + j) (20, 40) ((by decide : ∀ j, j < 5 → zp4[10 + j]? = some (20, 40)) j hj); rwa [show h + (10 + j) = h + 9 + 1 + j by omega] at this
  refine k_mna (n := h + 9) (N := 5) (K := 40) (show Cond.classLink RX4 18 "[[I" ∈ LW from lw_m1 1 rfl rfl) (lw_m0 74 rfl rfl) (hz.at 9 rfl) rw9 (fun j hj => by (repeat (first | rw [zup_row (by omega)])); rw [hb (h + 9) (by omega)]; exact zBl_r (hz.at 9 rfl) (by omega)) (fun j hj i => by (repeat (first | rw [zup_row (by omega)])); rw [hb (h + 9 + 1 + j) (by omega), zBl_i (rw9 j hj)]) (by omega) (by decide) (by decide) ⟨(Nat.le_of_ble_eq_true rfl), (Nat.le_of_ble_eq_true rfl)⟩ dX4_init_33 ?_
  refine k_putF (id := h) (j := h + 9) (ty := tyX4 3) 3 rfl f_X4_23 ⟨_, rfl, tyX4_ok 3 (by decide), rfl, rfl⟩ h0 rfl (by omega) (by omega) rfl rfl dX4_init_37 ?_
  refine k_aload dX4_init_40 ?_
  refine k_new (n := h + 15) (ci := 0) (q := (RX0, TX0, 10)) tyX0 rfl tyX0_ok (by decide +kernel) (lw_m1 2 rfl rfl) (lw_m1 3 rfl rfl) (m_X0_init.2.2.1) (hz.at 15 rfl) (fun j b hj => by (repeat (first | rw [zup_row (by omega)])); rw [hb (h + 15) (by omega), zBl_o (hz.at 15 rfl) (by decide)]; exact zBo_ok 0 j b hj) ⟨(Nat.le_of_ble_eq_true rfl), (Nat.le_of_ble_eq_true rfl)⟩ dX4_init_41 ?_
  refine k_dup dX4_init_44 rfl ?_
  refine k_call (h := h + 15) (k_X0_init (hz.sub 15 rfl) (by omega) (fun x hx => by (repeat (first | rw [zup_row (by omega)])); exact hb x (by omega))) m_X0_init n_X4_28 rfl (Nat.le_of_ble_eq_true rfl) ⟨(Nat.le_of_ble_eq_true rfl), (Nat.le_of_ble_eq_true rfl)⟩ ⟨(Nat.le_of_ble_eq_true rfl), (Nat.le_of_ble_eq_true rfl)⟩ dX4_init_45 (fun m1 n1 hp => ⟨hp.1, by rw [hp.1]; omega⟩) (fun m1 n1 hp => ?_)
  obtain ⟨rfl, hm1⟩ := hp
  refine k_putF (id := h) (j := h + 15) (ty := tyX4 4) 4 rfl f_X4_29 ⟨_, rfl, tyX4_ok 4 (by decide), rfl, rfl⟩ h0 rfl (by omega) (by omega) rfl rfl dX4_init_48 ?_
  refine k_aload dX4_init_51 ?_
  refine k_iconst dX4_init_52 ?_
  refine k_newi (n := h + 62) (z := 5) (lw_m0 74 rfl rfl) (hz.at 62 rfl) (fun j => by (repeat (first | rw [zup_row (by omega)] | rw [hm1, if_neg (by omega)])); rw [hb (h + 62) (by omega), zBl_i (hz.at 62 rfl)]) (by decide) ⟨(Nat.le_of_ble_eq_true rfl), (Nat.le_of_ble_eq_true rfl)⟩ dX4_init_53 ?_
  refine k_putF (id := h) (j := h + 62) (ty := tyX4 5) 5 rfl f_X4_33 ⟨_, rfl, tyX4_ok 5 (by decide), rfl, rfl⟩ h0 rfl (by omega) (by omega) rfl rfl dX4_init_55 ?_
  refine k_aload dX4_init_58 ?_
  refine k_iconst dX4_init_59 ?_
  refine k_newi (n := h + 63) (z := 5) (lw_m0 74 rfl rfl) (hz.at 63 rfl) (fun j => by (repeat (first | rw [zup_row (by omega)] | rw [hm1, if_neg (by omega)])); rw [hb (h + 63) (by omega), zBl_i (hz.at 63 rfl)]) (by decide) ⟨(Nat.le_of_ble_eq_true rfl), (Nat.le_of_ble_eq_true rfl)⟩ dX4_init_60 ?_
  refine k_putF (id := h) (j := h + 63) (ty := tyX4 6) 6 rfl f_X4_36 ⟨_, rfl, tyX4_ok 6 (by decide), rfl, rfl⟩ h0 rfl (by omega) (by omega) rfl rfl dX4_init_62 ?_
  refine k_aload dX4_init_65 ?_
  refine k_iconst dX4_init_66 ?_
  refine k_newi (n := h + 64) (z := 5) (lw_m0 74 rfl rfl) (hz.at 64 rfl) (fun j => by (repeat (first | rw [zup_row (by omega)] | rw [hm1, if_neg (by omega)])); rw [hb (h + 64) (by omega), zBl_i (hz.at 64 rfl)]) (by decide) ⟨(Nat.le_of_ble_eq_true rfl), (Nat.le_of_ble_eq_true rfl)⟩ dX4_init_67 ?_
  refine k_putF (id := h) (j := h + 64) (ty := tyX4 7) 7 rfl f_X4_39 ⟨_, rfl, tyX4_ok 7 (by decide), rfl, rfl⟩ h0 rfl (by omega) (by omega) rfl rfl dX4_init_69 ?_
  refine k_aload dX4_init_72 ?_
  refine k_new (n := h + 65) (ci := 5) (q := (RX5, TX5, 7)) tyX5 rfl tyX5_ok (by decide +kernel) (lw_m1 58 rfl rfl) (lw_m0 76 rfl rfl) (m_X5_init.2.2.1) (hz.at 65 rfl) (fun j b hj => by (repeat (first | rw [zup_row (by omega)] | rw [hm1, if_neg (by omega)])); rw [hb (h + 65) (by omega), zBl_o (hz.at 65 rfl) (by decide)]; exact zBo_ok 5 j b hj) ⟨(Nat.le_of_ble_eq_true rfl), (Nat.le_of_ble_eq_true rfl)⟩ dX4_init_73 ?_
  refine k_dup dX4_init_76 rfl ?_
  refine k_call (h := h + 65) (k_X5_init (hz.sub 65 rfl) (by omega) (fun x hx => by (repeat (first | rw [zup_row (by omega)] | rw [hm1, if_neg (by omega)])); exact hb x (by omega))) m_X5_init n_X4_44 rfl (Nat.le_of_ble_eq_true rfl) ⟨(Nat.le_of_ble_eq_true rfl), (Nat.le_of_ble_eq_true rfl)⟩ ⟨(Nat.le_of_ble_eq_true rfl), (Nat.le_of_ble_eq_true rfl)⟩ dX4_init_77 (fun m2 n1 hp => ⟨hp.1, by rw [hp.1]; omega⟩) (fun m2 n1 hp => ?_)
  obtain ⟨rfl, hm2⟩ := hp
  refine k_putR (id := h) (j := h + 65) 8 rfl f_X4_45 p_4_8 h0 rfl (by omega) (by omega) dX4_init_80 ?_
  refine k_aload dX4_init_83 ?_
  refine k_new (n := h + 72) (ci := 9) (q := (RX9, TX9, 6)) tyX9 rfl tyX9_ok (by decide +kernel) (lw_m1 60 rfl rfl) (lw_m0 122 rfl rfl) (m_X9_init.2.2.1) (hz.at 72 rfl) (fun j b hj => by (repeat (first | rw [zup_row (by omega)] | rw [hm2, if_neg (by omega)] | rw [hm1, if_neg (by omega)])); rw [hb (h + 72) (by omega), zBl_o (hz.at 72 rfl) (by decide)]; exact zBo_ok 9 j b hj) ⟨(Nat.le_of_ble_eq_true rfl), (Nat.le_of_ble_eq_true rfl)⟩ dX4_init_84 ?_
  refine k_dup dX4_init_87 rfl ?_
  refine k_call (h := h + 72) (k_X9_init (hz.sub 72 rfl) (by omega) (fun x hx => by (repeat (first | rw [zup_row (by omega)] | rw [hm2, if_neg (by omega)] | rw [hm1, if_neg (by omega)])); exact hb x (by omega))) m_X9_init n_X4_51 rfl (Nat.le_of_ble_eq_true rfl) ⟨(Nat.le_of_ble_eq_true rfl), (Nat.le_of_ble_eq_true rfl)⟩ ⟨(Nat.le_of_ble_eq_true rfl), (Nat.le_of_ble_eq_true rfl)⟩ dX4_init_88 (fun m3 n1 hp => ⟨hp.1, by rw [hp.1]; omega⟩) (fun m3 n1 hp => ?_)
  obtain ⟨rfl, hm3⟩ := hp
  refine k_putR (id := h) (j := h + 72) 9 rfl f_X4_52 p_4_9 h0 rfl (by omega) (by omega) dX4_init_91 ?_
  refine k_ret dX4_init_94 (Nat.le_of_ble_eq_true rfl) (Nat.le_of_ble_eq_true rfl) ⟨rfl, fun x => ?_⟩
  by_cases q : h ≤ x ∧ x < h + 78
  · rw [if_pos q]
    by_cases q0 : x = h
    · rw [q0]
      rw [zFi_o h0 (by decide)]
      funext k
      (repeat (first | rw [zup_ap] | rw [(hm3 (h)).trans (if_neg (by omega))] | rw [(hm2 (h)).trans (if_neg (by omega))] | rw [(hm1 (h)).trans (if_neg (by omega))]))
      rw [hb _ (by omega), zBl_o h0 (by decide)]
      rw [zBo_4, zFo_4]
      by_cases e0 : k = 0
      · subst e0; simp
      by_cases e1 : k = 1
      · subst e1; simp
      by_cases e2 : k = 2
      · subst e2; simp
      by_cases e3 : k = 3
      · subst e3; simp
      by_cases e4 : k = 4
      · subst e4; simp
      by_cases e5 : k = 5
      · subst e5; simp
      by_cases e6 : k = 6
      · subst e6; simp
      by_cases e7 : k = 7
      · subst e7; simp
      by_cases e8 : k = 8
      · subst e8; simp
      by_cases e9 : k = 9
      · subst e9; simp
      by_cases e10 : k = 10
      · subst e10; simp
      by_cases e11 : k = 11
      · subst e11; simp
      by_cases e12 : k = 12
      · subst e12; simp
      by_cases e13 : k = 13
      · subst e13; simp
      by_cases e14 : k = 14
      · subst e14; simp
      simp [e0, e1, e2, e3, e4, e5, e6, e7, e8, e9, e10, e11, e12, e13, e14]
    · (repeat (rw [zup_row (by omega)]))
      by_cases c3 : h + 72 ≤ x ∧ x < h + 72 + 6
      · rw [hm3, if_pos c3]
      · rw [hm3, if_neg c3]
        (repeat (rw [zup_row (by omega)]))
        by_cases c2 : h + 65 ≤ x ∧ x < h + 65 + 7
        · rw [hm2, if_pos c2]
        · rw [hm2, if_neg c2]
          (repeat (rw [zup_row (by omega)]))
          by_cases c1 : h + 15 ≤ x ∧ x < h + 15 + 47
          · rw [hm1, if_pos c1]
          · rw [hm1, if_neg c1]
            (repeat (rw [zup_row (by omega)]))
            rw [hb x (by omega)]
            rcases (by omega : x = h + 1 ∨ x = h + 2 ∨ x = h + 62 ∨ x = h + 63 ∨ x = h + 64 ∨ x = h + 3 ∨ (h + 3 < x ∧ x < h + 3 + 1 + 5) ∨ x = h + 9 ∨ (h + 9 < x ∧ x < h + 9 + 1 + 5)) with rfl | rfl | rfl | rfl | rfl | rfl | ⟨r1, r2⟩ | rfl | ⟨r1, r2⟩
            · exact (zFi_i (hz.at 1 rfl)).symm
            · exact (zFi_i (hz.at 2 rfl)).symm
            · exact (zFi_i (hz.at 62 rfl)).symm
            · exact (zFi_i (hz.at 63 rfl)).symm
            · exact (zFi_i (hz.at 64 rfl)).symm
            · exact (zFi_r (hz.at 3 rfl)).symm
            · obtain ⟨j, rfl⟩ : ∃ j, x = h + 3 + 1 + j := ⟨x - (h + 3 + 1), by omega⟩
              exact (zFi_i (rw3 j (by omega))).symm
            · exact (zFi_r (hz.at 9 rfl)).symm
            · obtain ⟨j, rfl⟩ : ∃ j, x = h + 9 + 1 + j := ⟨x - (h + 9 + 1), by omega⟩
              exact (zFi_i (rw9 j (by omega))).symm
  · rw [if_neg q]
    (repeat (first | rw [zup_row (by omega)] | rw [hm3, if_neg (by omega)] | rw [hm2, if_neg (by omega)] | rw [hm1, if_neg (by omega)]))
set_option maxRecDepth 100000 in
set_option maxHeartbeats 4000000 in
theorem k_X3_init {l : Launch} {E : zE} {μ : zM}  (hb : ∀ x, 292 ≤ x → μ x = zBl x) : CtI l E yX3_init cX3_init 1 ({ frames := 3, cells := 52, slots := 796, locals := 68 }) 292 μ (zPi 292 53 μ) := by
  refine CtI.of RX3 [zR 292] (by decide +kernel) rfl rfl rfl (by decide) (fun X hX => ?_)
  subst hX
  have h0 : zl 292 = (3, 8) := zl_292
  have eN : zN = 420 := rfl
  refine k_aload dX3_init_0 ?_
  refine k_obj l_X3_3 (lw_m0 27 rfl rfl) (lw_m0 28 rfl rfl) (Nat.le_of_ble_eq_true rfl) ⟨(Nat.le_of_ble_eq_true rfl), (Nat.le_of_ble_eq_true rfl)⟩ dX3_init_1 ?_
  refine k_aload dX3_init_4 ?_
  refine k_new (n := 293) (ci := 0) (q := (RX0, TX0, 10)) tyX0 rfl tyX0_ok (by decide +kernel) (lw_m1 154 rfl rfl) (lw_m1 3 rfl rfl) (m_X0_init.2.2.1) zl_293 (fun j b hj => by (repeat (first | rw [zup_row (by omega)])); rw [hb (293) (by omega), zBl_o zl_293 (by decide)]; exact zBo_ok 0 j b hj) ⟨(Nat.le_of_ble_eq_true rfl), (Nat.le_of_ble_eq_true rfl)⟩ dX3_init_5 ?_
  refine k_dup dX3_init_8 rfl ?_
  refine k_call (h := 293) (k_X0_init zq0_293 (by omega) (fun x hx => by (repeat (first | rw [zup_row (by omega)])); exact hb x (by omega))) m_X0_init n_X3_11 rfl (Nat.le_of_ble_eq_true rfl) ⟨(Nat.le_of_ble_eq_true rfl), (Nat.le_of_ble_eq_true rfl)⟩ ⟨(Nat.le_of_ble_eq_true rfl), (Nat.le_of_ble_eq_true rfl)⟩ dX3_init_9 (fun m1 n1 hp => ⟨hp.1, by rw [hp.1]; omega⟩) (fun m1 n1 hp => ?_)
  obtain ⟨rfl, hm1⟩ := hp
  refine k_putF (id := 292) (j := 293) (ty := tyX3 3) 3 rfl f_X3_12 ⟨_, rfl, tyX3_ok 3 (by decide), rfl, rfl⟩ h0 rfl (by omega) (by omega) rfl rfl dX3_init_12 ?_
  refine k_aload dX3_init_15 ?_
  refine k_new (n := 340) (ci := 6) (q := (RX6, TX6, 1)) tyX6 rfl tyX6_ok (by decide +kernel) (lw_m1 156 rfl rfl) (lw_m1 9 rfl rfl) (m_X6_init.2.2.1) zl_340 (fun j b hj => by (repeat (first | rw [zup_row (by omega)] | rw [hm1, if_neg (by omega)])); rw [hb (340) (by omega), zBl_o zl_340 (by decide)]; exact zBo_ok 6 j b hj) ⟨(Nat.le_of_ble_eq_true rfl), (Nat.le_of_ble_eq_true rfl)⟩ dX3_init_16 ?_
  refine k_dup dX3_init_19 rfl ?_
  refine k_call (h := 340) (k_X6_init zq6_340 (by omega) (fun x hx => by (repeat (first | rw [zup_row (by omega)] | rw [hm1, if_neg (by omega)])); exact hb x (by omega))) m_X6_init n_X3_20 rfl (Nat.le_of_ble_eq_true rfl) ⟨(Nat.le_of_ble_eq_true rfl), (Nat.le_of_ble_eq_true rfl)⟩ ⟨(Nat.le_of_ble_eq_true rfl), (Nat.le_of_ble_eq_true rfl)⟩ dX3_init_20 (fun m2 n1 hp => ⟨hp.1, by rw [hp.1]; omega⟩) (fun m2 n1 hp => ?_)
  obtain ⟨rfl, hm2⟩ := hp
  refine k_putF (id := 292) (j := 340) (ty := tyX3 4) 4 rfl f_X3_21 ⟨_, rfl, tyX3_ok 4 (by decide), rfl, rfl⟩ h0 rfl (by omega) (by omega) rfl rfl dX3_init_23 ?_
  refine k_aload dX3_init_26 ?_
  refine k_bipush dX3_init_27 (by decide) ?_
  refine k_newi (n := 342) (z := 36) (lw_m0 74 rfl rfl) zl_342 (fun j => by (repeat (first | rw [zup_row (by omega)] | rw [hm2, if_neg (by omega)] | rw [hm1, if_neg (by omega)])); rw [hb (342) (by omega), zBl_i zl_342]) (by decide) ⟨(Nat.le_of_ble_eq_true rfl), (Nat.le_of_ble_eq_true rfl)⟩ dX3_init_29 ?_
  refine k_putF (id := 292) (j := 342) (ty := tyX3 5) 5 rfl f_X3_25 ⟨_, rfl, tyX3_ok 5 (by decide), rfl, rfl⟩ h0 rfl (by omega) (by omega) rfl rfl dX3_init_31 ?_
  refine k_aload dX3_init_34 ?_
  refine k_bipush dX3_init_35 (by decide) ?_
  refine k_newz (n := 343) (z := 36) (lw_m0 73 rfl rfl) zl_343 (fun j => by (repeat (first | rw [zup_row (by omega)] | rw [hm2, if_neg (by omega)] | rw [hm1, if_neg (by omega)])); rw [hb (343) (by omega), zBl_z zl_343]) (by decide) ⟨(Nat.le_of_ble_eq_true rfl), (Nat.le_of_ble_eq_true rfl)⟩ dX3_init_37 ?_
  refine k_putF (id := 292) (j := 343) (ty := tyX3 6) 6 rfl f_X3_29 ⟨_, rfl, tyX3_ok 6 (by decide), rfl, rfl⟩ h0 rfl (by omega) (by omega) rfl rfl dX3_init_39 ?_
  refine k_aload dX3_init_42 ?_
  refine k_bipush dX3_init_43 (by decide) ?_
  refine k_newi (n := 344) (z := 36) (lw_m0 74 rfl rfl) zl_344 (fun j => by (repeat (first | rw [zup_row (by omega)] | rw [hm2, if_neg (by omega)] | rw [hm1, if_neg (by omega)])); rw [hb (344) (by omega), zBl_i zl_344]) (by decide) ⟨(Nat.le_of_ble_eq_true rfl), (Nat.le_of_ble_eq_true rfl)⟩ dX3_init_45 ?_
  refine k_putF (id := 292) (j := 344) (ty := tyX3 7) 7 rfl f_X3_33 ⟨_, rfl, tyX3_ok 7 (by decide), rfl, rfl⟩ h0 rfl (by omega) (by omega) rfl rfl dX3_init_47 ?_
  refine k_ret dX3_init_50 (Nat.le_of_ble_eq_true rfl) (Nat.le_of_ble_eq_true rfl) ⟨rfl, fun x => ?_⟩
  by_cases q : 292 ≤ x ∧ x < 292 + 53
  · rw [if_pos q]
    by_cases q0 : x = 292
    · rw [q0]
      rw [zFi_o h0 (by decide)]
      funext k
      (repeat (first | rw [zup_ap] | rw [(hm2 (292)).trans (if_neg (by omega))] | rw [(hm1 (292)).trans (if_neg (by omega))]))
      rw [hb _ (by omega), zBl_o h0 (by decide)]
      rw [zBo_3, zFo_3]
      by_cases e0 : k = 0
      · subst e0; simp
      by_cases e1 : k = 1
      · subst e1; simp
      by_cases e2 : k = 2
      · subst e2; simp
      by_cases e3 : k = 3
      · subst e3; simp
      by_cases e4 : k = 4
      · subst e4; simp
      by_cases e5 : k = 5
      · subst e5; simp
      by_cases e6 : k = 6
      · subst e6; simp
      by_cases e7 : k = 7
      · subst e7; simp
      simp [e0, e1, e2, e3, e4, e5, e6, e7]
    · (repeat (rw [zup_row (by omega)]))
      by_cases c2 : 340 ≤ x ∧ x < 340 + 2
      · rw [hm2, if_pos c2]
      · rw [hm2, if_neg c2]
        (repeat (rw [zup_row (by omega)]))
        by_cases c1 : 293 ≤ x ∧ x < 293 + 47
        · rw [hm1, if_pos c1]
        · rw [hm1, if_neg c1]
          (repeat (rw [zup_row (by omega)]))
          rw [hb x (by omega)]
          rcases (by omega : x = 342 ∨ x = 343 ∨ x = 344) with rfl | rfl | rfl
          · exact (zFi_i zl_342).symm
          · exact (zFi_z zl_343).symm
          · exact (zFi_i zl_344).symm
  · rw [if_neg q]
    (repeat (first | rw [zup_row (by omega)] | rw [hm2, if_neg (by omega)] | rw [hm1, if_neg (by omega)]))
set_option maxRecDepth 100000 in
set_option maxHeartbeats 4000000 in
theorem k_X8_init {l : Launch} {E : zE} {μ : zM}  (hb : ∀ x, 189 ≤ x → μ x = zBl x) : CtI l E yX8_init cX8_init 1 ({ frames := 4, cells := 102, slots := 1381, locals := 88 }) 189 μ (zPi 189 103 μ) := by
  refine CtI.of RX8 [zR 189] (by decide +kernel) rfl rfl rfl (by decide) (fun X hX => ?_)
  subst hX
  have h0 : zl 189 = (8, 7) := zl_189
  have eN : zN = 420 := rfl
  refine k_aload dX8_init_0 ?_
  refine k_obj l_X8_3 (lw_m0 27 rfl rfl) (lw_m0 28 rfl rfl) (Nat.le_of_ble_eq_true rfl) ⟨(Nat.le_of_ble_eq_true rfl), (Nat.le_of_ble_eq_true rfl)⟩ dX8_init_1 ?_
  refine k_aload dX8_init_4 ?_
  refine k_iconst dX8_init_5 ?_
  refine k_newi (n := 190) (z := 5) (lw_m0 74 rfl rfl) zl_190 (fun j => by (repeat (first | rw [zup_row (by omega)])); rw [hb (190) (by omega), zBl_i zl_190]) (by decide) ⟨(Nat.le_of_ble_eq_true rfl), (Nat.le_of_ble_eq_true rfl)⟩ dX8_init_6 ?_
  refine k_putF (id := 189) (j := 190) (ty := tyX8 0) 0 rfl f_X8_9 ⟨_, rfl, tyX8_ok 0 (by decide), rfl, rfl⟩ h0 rfl (by omega) (by omega) rfl rfl dX8_init_8 ?_
  refine k_aload dX8_init_11 ?_
  refine k_iconst dX8_init_12 ?_
  refine k_newi (n := 191) (z := 5) (lw_m0 74 rfl rfl) zl_191 (fun j => by (repeat (first | rw [zup_row (by omega)])); rw [hb (191) (by omega), zBl_i zl_191]) (by decide) ⟨(Nat.le_of_ble_eq_true rfl), (Nat.le_of_ble_eq_true rfl)⟩ dX8_init_13 ?_
  refine k_putF (id := 189) (j := 191) (ty := tyX8 4) 4 rfl f_X8_15 ⟨_, rfl, tyX8_ok 4 (by decide), rfl, rfl⟩ h0 rfl (by omega) (by omega) rfl rfl dX8_init_15 ?_
  refine k_aload dX8_init_18 ?_
  refine k_new (n := 192) (ci := 2) (q := (RX2, TX2, 4)) tyX2 rfl tyX2_ok (by decide +kernel) (lw_m1 120 rfl rfl) (lw_m0 30 rfl rfl) (m_X2_init.2.2.1) zl_192 (fun j b hj => by (repeat (first | rw [zup_row (by omega)])); rw [hb (192) (by omega), zBl_o zl_192 (by decide)]; exact zBo_ok 2 j b hj) ⟨(Nat.le_of_ble_eq_true rfl), (Nat.le_of_ble_eq_true rfl)⟩ dX8_init_19 ?_
  refine k_dup dX8_init_22 rfl ?_
  refine k_call (h := 192) (k_X2_init zq2_192 (by omega) (fun x hx => by (repeat (first | rw [zup_row (by omega)])); exact hb x (by omega))) m_X2_init n_X8_20 rfl (Nat.le_of_ble_eq_true rfl) ⟨(Nat.le_of_ble_eq_true rfl), (Nat.le_of_ble_eq_true rfl)⟩ ⟨(Nat.le_of_ble_eq_true rfl), (Nat.le_of_ble_eq_true rfl)⟩ dX8_init_23 (fun m1 n1 hp => ⟨hp.1, by rw [hp.1]; omega⟩) (fun m1 n1 hp => ?_)
  obtain ⟨rfl, hm1⟩ := hp
  refine k_putF (id := 189) (j := 192) (ty := tyX8 5) 5 rfl f_X8_21 ⟨_, rfl, tyX8_ok 5 (by decide), rfl, rfl⟩ h0 rfl (by omega) (by omega) rfl rfl dX8_init_26 ?_
  refine k_aload dX8_init_29 ?_
  refine k_new (n := 214) (ci := 4) (q := (RX4, TX4, 15)) tyX4 rfl tyX4_ok (by decide +kernel) (lw_m1 122 rfl rfl) (lw_m0 236 rfl rfl) (m_X4_init.2.2.1) zl_214 (fun j b hj => by (repeat (first | rw [zup_row (by omega)] | rw [hm1, if_neg (by omega)])); rw [hb (214) (by omega), zBl_o zl_214 (by decide)]; exact zBo_ok 4 j b hj) ⟨(Nat.le_of_ble_eq_true rfl), (Nat.le_of_ble_eq_true rfl)⟩ dX8_init_30 ?_
  refine k_dup dX8_init_33 rfl ?_
  refine k_call (h := 214) (k_X4_init zq4_214 (by omega) (fun x hx => by (repeat (first | rw [zup_row (by omega)] | rw [hm1, if_neg (by omega)])); exact hb x (by omega))) m_X4_init n_X8_27 rfl (Nat.le_of_ble_eq_true rfl) ⟨(Nat.le_of_ble_eq_true rfl), (Nat.le_of_ble_eq_true rfl)⟩ ⟨(Nat.le_of_ble_eq_true rfl), (Nat.le_of_ble_eq_true rfl)⟩ dX8_init_34 (fun m2 n1 hp => ⟨hp.1, by rw [hp.1]; omega⟩) (fun m2 n1 hp => ?_)
  obtain ⟨rfl, hm2⟩ := hp
  refine k_putF (id := 189) (j := 214) (ty := tyX8 6) 6 rfl f_X8_28 ⟨_, rfl, tyX8_ok 6 (by decide), rfl, rfl⟩ h0 rfl (by omega) (by omega) rfl rfl dX8_init_37 ?_
  refine k_ret dX8_init_40 (Nat.le_of_ble_eq_true rfl) (Nat.le_of_ble_eq_true rfl) ⟨rfl, fun x => ?_⟩
  by_cases q : 189 ≤ x ∧ x < 189 + 103
  · rw [if_pos q]
    by_cases q0 : x = 189
    · rw [q0]
      rw [zFi_o h0 (by decide)]
      funext k
      (repeat (first | rw [zup_ap] | rw [(hm2 (189)).trans (if_neg (by omega))] | rw [(hm1 (189)).trans (if_neg (by omega))]))
      rw [hb _ (by omega), zBl_o h0 (by decide)]
      rw [zBo_8, zFo_8]
      by_cases e0 : k = 0
      · subst e0; simp
      by_cases e1 : k = 1
      · subst e1; simp
      by_cases e2 : k = 2
      · subst e2; simp
      by_cases e3 : k = 3
      · subst e3; simp
      by_cases e4 : k = 4
      · subst e4; simp
      by_cases e5 : k = 5
      · subst e5; simp
      by_cases e6 : k = 6
      · subst e6; simp
      simp [e0, e1, e2, e3, e4, e5, e6]
    · (repeat (rw [zup_row (by omega)]))
      by_cases c2 : 214 ≤ x ∧ x < 214 + 78
      · rw [hm2, if_pos c2]
      · rw [hm2, if_neg c2]
        (repeat (rw [zup_row (by omega)]))
        by_cases c1 : 192 ≤ x ∧ x < 192 + 22
        · rw [hm1, if_pos c1]
        · rw [hm1, if_neg c1]
          (repeat (rw [zup_row (by omega)]))
          rw [hb x (by omega)]
          rcases (by omega : x = 190 ∨ x = 191) with rfl | rfl
          · exact (zFi_i zl_190).symm
          · exact (zFi_i zl_191).symm
  · rw [if_neg q]
    (repeat (first | rw [zup_row (by omega)] | rw [hm2, if_neg (by omega)] | rw [hm1, if_neg (by omega)]))
set_option maxRecDepth 100000 in
set_option maxHeartbeats 4000000 in
theorem k_X10_init {l : Launch} {E : zE} {μ : zM}  (hb : ∀ x, 47 ≤ x → μ x = zBl x) : CtI l E yX10_init cX10_init 1 ({ frames := 1, cells := 63, slots := 720, locals := 28 }) 47 μ (zPi 47 64 μ) := by
  refine CtI.of RX10 [zR 47] (by decide +kernel) rfl rfl rfl (by decide) (fun X hX => ?_)
  subst hX
  have h0 : zl 47 = (10, 6) := zl_47
  have eN : zN = 420 := rfl
  refine k_aload dX10_init_0 ?_
  refine k_obj l_X10_3 (lw_m0 27 rfl rfl) (lw_m0 28 rfl rfl) (Nat.le_of_ble_eq_true rfl) ⟨(Nat.le_of_ble_eq_true rfl), (Nat.le_of_ble_eq_true rfl)⟩ dX10_init_1 ?_
  refine k_aload dX10_init_4 ?_
  refine k_iconst dX10_init_5 ?_
  refine k_putI (id := 47) 0 rfl f_X10_9 p_10_0 h0 rfl (by omega) (by omega) dX10_init_6 ?_
  refine k_aload dX10_init_9 ?_
  refine k_iconst dX10_init_10 ?_
  refine k_putI (id := 47) 1 rfl f_X10_15 p_10_1 h0 rfl (by omega) (by omega) dX10_init_11 ?_
  refine k_aload dX10_init_14 ?_
  refine k_bipush dX10_init_15 (by decide) ?_
  refine k_newi (n := 48) (z := 60) (lw_m0 74 rfl rfl) zl_48 (fun j => by (repeat (first | rw [zup_row (by omega)])); rw [hb (48) (by omega), zBl_i zl_48]) (by decide) ⟨(Nat.le_of_ble_eq_true rfl), (Nat.le_of_ble_eq_true rfl)⟩ dX10_init_17 ?_
  refine k_putF (id := 47) (j := 48) (ty := tyX10 2) 2 rfl f_X10_18 ⟨_, rfl, tyX10_ok 2 (by decide), rfl, rfl⟩ h0 rfl (by omega) (by omega) rfl rfl dX10_init_19 ?_
  refine k_aload dX10_init_22 ?_
  refine k_bipush dX10_init_23 (by decide) ?_
  refine k_iconst dX10_init_25 ?_
  have rw2 : ∀ j, j < 60 → zl (49 + 1 + j) = (20, 5) := fun j hj => (by decide +kernel : ∀ j, j < 60 → zl (49 + 1 + j) = (20, 5)) j hj
  refine k_mna (n := 49) (N := 60) (K := 5) (show Cond.classLink RX10 22 "[[I" ∈ LW from lw_m0 210 rfl rfl) (lw_m0 74 rfl rfl) zl_49 rw2 (fun j hj => by (repeat (first | rw [zup_row (by omega)])); rw [hb (49) (by omega)]; exact zBl_r zl_49 (by omega)) (fun j hj i => by (repeat (first | rw [zup_row (by omega)])); rw [hb (49 + 1 + j) (by omega), zBl_i (rw2 j hj)]) (by omega) (by decide) (by decide) ⟨(Nat.le_of_ble_eq_true rfl), (Nat.le_of_ble_eq_true rfl)⟩ dX10_init_26 ?_
  refine k_putF (id := 47) (j := 49) (ty := tyX10 3) 3 rfl f_X10_24 ⟨_, rfl, tyX10_ok 3 (by decide), rfl, rfl⟩ h0 rfl (by omega) (by omega) rfl rfl dX10_init_30 ?_
  refine k_aload dX10_init_33 ?_
  refine k_sipush dX10_init_34 (by decide) ?_
  refine k_newi (n := 110) (z := 300) (lw_m0 74 rfl rfl) zl_110 (fun j => by (repeat (first | rw [zup_row (by omega)])); rw [hb (110) (by omega), zBl_i zl_110]) (by decide) ⟨(Nat.le_of_ble_eq_true rfl), (Nat.le_of_ble_eq_true rfl)⟩ dX10_init_37 ?_
  refine k_putF (id := 47) (j := 110) (ty := tyX10 4) 4 rfl f_X10_27 ⟨_, rfl, tyX10_ok 4 (by decide), rfl, rfl⟩ h0 rfl (by omega) (by omega) rfl rfl dX10_init_39 ?_
  refine k_ret dX10_init_42 (Nat.le_of_ble_eq_true rfl) (Nat.le_of_ble_eq_true rfl) ⟨rfl, fun x => ?_⟩
  by_cases q : 47 ≤ x ∧ x < 47 + 64
  · rw [if_pos q]
    by_cases q0 : x = 47
    · rw [q0]
      rw [zFi_o h0 (by decide)]
      funext k
      (repeat (first | rw [zup_ap]))
      rw [hb _ (by omega), zBl_o h0 (by decide)]
      rw [zBo_10, zFo_10]
      by_cases e0 : k = 0
      · subst e0; simp
      by_cases e1 : k = 1
      · subst e1; simp
      by_cases e2 : k = 2
      · subst e2; simp
      by_cases e3 : k = 3
      · subst e3; simp
      by_cases e4 : k = 4
      · subst e4; simp
      by_cases e5 : k = 5
      · subst e5; simp
      simp [e0, e1, e2, e3, e4, e5]
    · (repeat (rw [zup_row (by omega)]))
      rw [hb x (by omega)]
      rcases (by omega : x = 48 ∨ x = 110 ∨ x = 49 ∨ (49 < x ∧ x < 49 + 1 + 60)) with rfl | rfl | rfl | ⟨r1, r2⟩
      · exact (zFi_i zl_48).symm
      · exact (zFi_i zl_110).symm
      · exact (zFi_r zl_49).symm
      · obtain ⟨j, rfl⟩ : ∃ j, x = 49 + 1 + j := ⟨x - (49 + 1), by omega⟩
        exact (zFi_i (rw2 j (by omega))).symm
  · rw [if_neg q]
    (repeat (first | rw [zup_row (by omega)]))
