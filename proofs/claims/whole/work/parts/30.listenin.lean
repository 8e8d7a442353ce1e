set_option maxRecDepth 100000 in
set_option maxHeartbeats 4000000 in
theorem k_X0_listenIn {l : Launch} {E : zE} {e h : Nat} {μ : zM} (he : zAt zp0 e) (hh : zAt zp2 h) (hd : h + 22 ≤ e ∨ e + 47 ≤ h) (ok : zOK (zHV μ h)) {fan : Int} (hfan : 0 ≤ fan ∧ fan ≤ 100) : Ct l E yX0_listenIn cX0_listenIn 4 none ({ frames := 4, cells := 0, slots := 0, locals := 92 }) [zR e, zR h, zI fan] μ (fun r ν => r = none ∧ zEr (zHV μ h) fan ν e ∧ ν e 9 = ((h + 1 : Nat) : Int) ∧ ∀ a, (a < e ∨ e + 43 ≤ a) → ν a = μ a) := by
  refine Ct.of RX0 [zR e, zR h, zI fan, zU] (by decide +kernel) rfl ⟨rfl, rfl⟩ rfl (Nat.le_of_ble_eq_true rfl) (fun X hX hc0 ha0 => ?_)
  subst hX
  obtain ⟨nb, nf, nd, np, ns, nr⟩ := zOK_n ok
  have hN : h < 420 := zl_lt (hh.at 0 rfl) (by decide)
  have L141 : ∀ (k : Nat) (ξ : zM) (i : Nat), (i : Int) ≤ μ (h + 12) 5 → zEa (zHV μ h) ξ e → zEb (zHV μ h) ξ e (μ (h + 1) 3) → zEc (zHV μ h) fan ξ e 40 → zEd (zHV μ h) ξ e i → ξ e 9 = ((h + 1 : Nat) : Int) → (∀ a, (a < e ∨ e + 43 ≤ a) → ξ a = μ a) → μ (h + 12) 5 - i < k → MW X E cX0_listenIn RX0 ({ frames := 4, cells := 0, slots := 0, locals := 92 }) none (fun r ν => r = none ∧ zEr (zHV μ h) fan ν e ∧ ν e 9 = ((h + 1 : Nat) : Int) ∧ ∀ a, (a < e ∨ e + 43 ≤ a) → ν a = μ a) 141 [zR e, zR h, zI fan, zI (i : Int)] [] ξ := by
    intro k
    induction k with
    | zero => intro ξ i hi1 hA hB hC hD h9 hfr h3; omega
    | succ k ih =>
      intro ξ i hi1 hA hB hC hD h9 hfr h3
      have hf := h9
      have hV : zHV ξ h = zHV μ h := zHV_fr (a := e) (n := 43) hfr (by omega)
      have hok : zOK (zHV ξ h) := by rw [hV]; exact ok
      have hc3 : ξ (h + 1) 3 = μ (h + 1) 3 := by rw [hfr (h + 1) (by omega)]
      have hc5 : ξ (h + 12) 5 = μ (h + 12) 5 := by rw [hfr (h + 12) (by omega)]
      refine z_iload_3 dX0_listenIn_141 ?_
      refine z_aload_1 dX0_listenIn_142 ?_
      refine z_getF (h + 12) 12 rfl f_X0_87 (hh.at 0 rfl) rfl rfl dX0_listenIn_143 ?_
      refine z_getI 5 rfl f_X0_97 (hh.at 12 rfl) rfl dX0_listenIn_146 ?_
      refine z_icmpge (tgt := 167) dX0_listenIn_149 (by decide) (fun h_149 => ?_) (fun h_149 => ?_)
      · exact z_vret dX0_listenIn_167 (⟨rfl, ⟨hA, hB, hC, by rw [zHV_sc, show (μ (h + 12) 5).toNat = i by omega]; exact hD⟩, h9, hfr⟩)
      · refine z_aload_0 dX0_listenIn_152 ?_
        refine z_aload_1 dX0_listenIn_153 ?_
        refine z_getF (h + 12) 12 rfl f_X0_87 (hh.at 0 rfl) rfl rfl dX0_listenIn_154 ?_
        refine z_iload_3 dX0_listenIn_157 ?_
        refine z_callV2 (k_X0_listenTo he hh hd hok hf (by rw [hV, hc3]; exact hA.1) h_149 (by rw [hV]; exact hD.1)) m_X0_listenTo (he.at 0 rfl) l_X0_100 (Nat.le_of_ble_eq_true rfl) ⟨Nat.le_of_ble_eq_true rfl, Nat.le_of_ble_eq_true rfl⟩ ⟨rfl, rfl⟩ dX0_listenIn_158 (fun r μ1 hp => ?_)
        obtain ⟨rfl, w1, w2, fr⟩ := hp
        rw [hV] at w1 w2
        rw [hc3] at w2
        have hi2 : (i : Int) < 8 := by omega
        refine z_iinc_3 rfl dX0_listenIn_161 (by omega) ?_
        refine z_goto (tgt := 141) dX0_listenIn_164 (by decide) ?_
        exact ih μ1 (i + 1) (by omega) (zEa_fr hA nb.2 (fun a a0 a1 => fr a (by omega) (by omega)) (fun a a0 a1 => fr a (by omega) (by omega))) (zEb_fr hB nb.2 (fun a a0 a1 => fr a (by omega) (by omega)) (fun a a0 a1 => fr a (by omega) (by omega))) (fun y y0 y1 => by rw [fr (e + 34) (by omega) (by omega)]; exact hC y y0 y1) ⟨w1, fun j jj k0 l l0 l1 => by by_cases q : j = i; (subst q; exact w2 k0 l l0 l1); (rw [fr (e + 26 + j) (by omega) (by omega)]; exact hD.2 j (by omega) k0 l l0 l1)⟩ (by rw [fr e (by omega) (by omega)]; exact h9) (fun a ha => by rw [fr a (by omega) (by omega)]; exact hfr a ha) (by omega)
  have L104 : ∀ (k : Nat) (ξ : zM) (t : Int), 0 ≤ t → t ≤ 40 → zEa (zHV μ h) ξ e → zEb (zHV μ h) ξ e (μ (h + 1) 3) → zEc (zHV μ h) fan ξ e t → (∀ y, 0 ≤ y → y < t → ξ (e + 35) y = 0) → ξ e 9 = ((h + 1 : Nat) : Int) → (∀ a, (a < e ∨ e + 43 ≤ a) → ξ a = μ a) → 40 - t < k → MW X E cX0_listenIn RX0 ({ frames := 4, cells := 0, slots := 0, locals := 92 }) none (fun r ν => r = none ∧ zEr (zHV μ h) fan ν e ∧ ν e 9 = ((h + 1 : Nat) : Int) ∧ ∀ a, (a < e ∨ e + 43 ≤ a) → ν a = μ a) 104 [zR e, zR h, zI fan, zI t] [] ξ := by
    intro k
    induction k with
    | zero => intro ξ t t0 ht1 hA hB hC hZ h9 hfr h3; omega
    | succ k ih =>
      intro ξ t t0 ht1 hA hB hC hZ h9 hfr h3
      have hf := h9
      have hV : zHV ξ h = zHV μ h := zHV_fr (a := e) (n := 43) hfr (by omega)
      have hok : zOK (zHV ξ h) := by rw [hV]; exact ok
      have hc3 : ξ (h + 1) 3 = μ (h + 1) 3 := by rw [hfr (h + 1) (by omega)]
      refine z_iload_3 dX0_listenIn_104 ?_
      refine z_bipush dX0_listenIn_105 (by decide) ?_
      refine z_icmpge (tgt := 139) dX0_listenIn_107 (by decide) (fun h_107 => ?_) (fun h_107 => ?_)
      · refine z_iconst dX0_listenIn_139 (by decide) ?_
        refine z_istore_3 rfl dX0_listenIn_140 ?_
        exact L141 9 ξ 0 (by omega) hA hB (fun y y0 y1 => hC y y0 (by omega)) ⟨fun y y0 y1 => by rw [hZ y y0 (by omega)]; exact zBt_0, fun i hi => by omega⟩ h9 hfr (by omega)
      · refine z_aload_0 dX0_listenIn_110 ?_
        refine z_getF (e + 34) 34 rfl f_X0_36 (he.at 0 rfl) rfl rfl dX0_listenIn_111 ?_
        refine z_iload_3 dX0_listenIn_114 ?_
        refine z_iload_2 dX0_listenIn_115 ?_
        refine z_aload_1 dX0_listenIn_116 ?_
        refine z_getF (h + 12) 12 rfl f_X0_87 (hh.at 0 rfl) rfl rfl dX0_listenIn_117 ?_
        refine z_iload_3 dX0_listenIn_120 ?_
        refine z_callV1 (k_X9_coverIn hh hok (by omega)) m_X9_coverIn (hh.at 12 rfl) l_X0_91 (Nat.le_of_ble_eq_true rfl) ⟨Nat.le_of_ble_eq_true rfl, Nat.le_of_ble_eq_true rfl⟩ ⟨rfl, rfl⟩ dX0_listenIn_121 (fun r μ1 hp => ?_)
        obtain ⟨rfl, hv⟩ := hp
        replace hv := hv.symm
        subst hv
        rw [hV]
        have hcv := zCv_b (t := t) ok
        refine z_iadd dX0_listenIn_124 (by omega) ?_
        refine z_iast (he.at 34 rfl) (by omega) (by omega) dX0_listenIn_125 ?_
        refine z_aload_0 dX0_listenIn_126 ?_
        refine z_getF (e + 35) 35 rfl f_X0_39 (he.at 0 rfl) rfl rfl dX0_listenIn_127 ?_
        refine z_iload_3 dX0_listenIn_130 ?_
        refine z_iconst dX0_listenIn_131 (by decide) ?_
        refine z_iast (he.at 35 rfl) (by omega) (by omega) dX0_listenIn_132 ?_
        refine z_iinc_3 rfl dX0_listenIn_133 (by omega) ?_
        refine z_goto (tgt := 104) dX0_listenIn_136 (by decide) ?_
        exact ih (zup (zup ξ (e + 34) t (fan + zCv (zHV μ h) t)) (e + 35) t 0) (t + 1) (by omega) (by omega) (zEa_fr hA nb.2 (fun a a0 a1 => by rw [zup_row (by omega), zup_row (by omega)]) (fun a a0 a1 => by rw [zup_row (by omega), zup_row (by omega)])) (zEb_fr hB nb.2 (fun a a0 a1 => by rw [zup_row (by omega), zup_row (by omega)]) (fun a a0 a1 => by rw [zup_row (by omega), zup_row (by omega)])) (fun y y0 y1 => by rw [zup_row (by omega)]; by_cases q : y = t; (subst q; rw [zup_eq]); (rw [zup_ne (Or.inr q)]; exact hC y y0 (by omega))) (fun y y0 y1 => by by_cases q : y = t; (subst q; rw [zup_eq]); (rw [zup_ne (Or.inr q), zup_row (by omega)]; exact hZ y y0 (by omega))) (by rw [zup_row (by omega), zup_row (by omega)]; exact h9) (fun a ha => by rw [zup_row (by omega), zup_row (by omega)]; exact hfr a ha) (by omega)
  have L39 : ∀ (k : Nat) (ξ : zM) (b : Int), 0 ≤ b → b ≤ μ (h + 1) 3 → zEa (zHV μ h) ξ e → zEb (zHV μ h) ξ e b → ξ e 9 = ((h + 1 : Nat) : Int) → (∀ a, (a < e ∨ e + 43 ≤ a) → ξ a = μ a) → μ (h + 1) 3 - b < k → MW X E cX0_listenIn RX0 ({ frames := 4, cells := 0, slots := 0, locals := 92 }) none (fun r ν => r = none ∧ zEr (zHV μ h) fan ν e ∧ ν e 9 = ((h + 1 : Nat) : Int) ∧ ∀ a, (a < e ∨ e + 43 ≤ a) → ν a = μ a) 39 [zR e, zR h, zI fan, zI b] [] ξ := by
    intro k
    induction k with
    | zero => intro ξ b b0 hb1 hA hB h9 hfr h3; omega
    | succ k ih =>
      intro ξ b b0 hb1 hA hB h9 hfr h3
      have hf := h9
      have hV : zHV ξ h = zHV μ h := zHV_fr (a := e) (n := 43) hfr (by omega)
      have hok : zOK (zHV ξ h) := by rw [hV]; exact ok
      have hc3 : ξ (h + 1) 3 = μ (h + 1) 3 := by rw [hfr (h + 1) (by omega)]
      refine z_iload_3 dX0_listenIn_39 ?_
      refine z_aload_0 dX0_listenIn_40 ?_
      refine z_getM 9 rfl (h + 1) f_X0_48 (he.at 0 rfl) rfl hf dX0_listenIn_41 ?_
      refine z_getI 3 rfl f_X0_52 (hh.at 1 rfl) rfl dX0_listenIn_44 ?_
      refine z_icmpge (tgt := 102) dX0_listenIn_47 (by decide) (fun h_47 => ?_) (fun h_47 => ?_)
      · refine z_iconst dX0_listenIn_102 (by decide) ?_
        refine z_istore_3 rfl dX0_listenIn_103 ?_
        exact L104 41 ξ 0 (by omega) (by omega) hA (by rw [show μ (h + 1) 3 = b by omega]; exact hB) (fun y y0 y1 => by omega) (fun y y0 y1 => by omega) h9 hfr (by omega)
      · have b1 : b < μ (h + 1) 3 := by rw [← hc3]; exact h_47
        have hbc := zOK_bed ok b0 b1
        have hdo := ok.1.2.2.2.2
        have e5 : ξ (h + 1) 5 = zHV μ h 3 2 := by rw [hfr (h + 1) (by omega)]; rfl
        have e2 : ξ (h + 4) b = zHV μ h 2 b := by rw [zHV_2 b0 b1, hfr (h + 4) (by omega)]
        refine z_aload_0 dX0_listenIn_50 ?_
        refine z_aload_0 dX0_listenIn_51 ?_
        refine z_getM 9 rfl (h + 1) f_X0_48 (he.at 0 rfl) rfl hf dX0_listenIn_52 ?_
        refine z_getI 5 rfl f_X0_80 (hh.at 1 rfl) rfl dX0_listenIn_55 ?_
        refine z_aload_0 dX0_listenIn_58 ?_
        refine z_getF (e + 3) 3 rfl f_X0_20 (he.at 0 rfl) rfl rfl dX0_listenIn_59 ?_
        refine z_iload_3 dX0_listenIn_62 ?_
        refine z_row (e + 4 + b.toNat) (by omega) (he.at 3 rfl) (by omega) (by omega) dX0_listenIn_63 ?_
        refine z_aload_0 dX0_listenIn_64 ?_
        refine z_getF (e + 11) 11 rfl f_X0_27 (he.at 0 rfl) rfl rfl dX0_listenIn_65 ?_
        refine z_iload_3 dX0_listenIn_68 ?_
        refine z_row (e + 12 + b.toNat) (by omega) (he.at 11 rfl) (by omega) (by omega) dX0_listenIn_69 ?_
        refine z_callV3 (k_X0_walk (d := zHV μ h 2 b) he hh hd hok hf (by rw [hV, hc3]; exact hA.1) (by rw [hV]; exact hA.1 b b0 b1) hbc.1 hbc.2 (by rw [e5]; exact hdo.1) (by rw [e5]; exact hdo.2.1) (zE_far he (by omega) (by omega)) (zE_com he (by omega) (by omega)) (by omega) (by omega)) m_X0_walk (he.at 0 rfl) l_X0_83 (Nat.le_of_ble_eq_true rfl) ⟨Nat.le_of_ble_eq_true rfl, Nat.le_of_ble_eq_true rfl⟩ ⟨rfl, rfl⟩ dX0_listenIn_70 (fun r μ1 hp => ?_)
        obtain ⟨rfl, w1, fr1⟩ := hp
        rw [hV, hc3, e5] at w1
        have hζ : ∃ ζ, ζ = μ1 := ⟨_, rfl⟩
        obtain ⟨ζ, hζ⟩ := hζ
        subst hζ
        have hf : ζ e 9 = ((h + 1 : Nat) : Int) := by rw [fr1 e (by omega)]; exact h9
        have hfz : ∀ a, (a < e ∨ e + 43 ≤ a) → ζ a = μ a := fun a ha => by rw [fr1 a (by omega)]; exact hfr a ha
        have hV : zHV ζ h = zHV μ h := zHV_fr (a := e) (n := 43) hfz (by omega)
        have hok : zOK (zHV ζ h) := by rw [hV]; exact ok
        have hc3 : ζ (h + 1) 3 = μ (h + 1) 3 := by rw [hfz (h + 1) (by omega)]
        have e2 : ζ (h + 4) b = zHV μ h 2 b := by rw [zHV_2 b0 b1, hfz (h + 4) (by omega)]
        refine z_aload_0 dX0_listenIn_73 ?_
        refine z_aload_0 dX0_listenIn_74 ?_
        refine z_getM 9 rfl (h + 1) f_X0_48 (he.at 0 rfl) rfl hf dX0_listenIn_75 ?_
        refine z_getF (h + 4) 3 rfl f_X0_60 (hh.at 1 rfl) rfl rfl dX0_listenIn_78 ?_
        refine z_iload_3 dX0_listenIn_81 ?_
        refine z_iald (hh.at 4 rfl) (by omega) (by omega) dX0_listenIn_82 ?_
        refine z_aload_0 dX0_listenIn_83 ?_
        refine z_getF (e + 10) 10 rfl f_X0_23 (he.at 0 rfl) rfl rfl dX0_listenIn_84 ?_
        refine z_aload_0 dX0_listenIn_87 ?_
        refine z_getF (e + 18) 18 rfl f_X0_30 (he.at 0 rfl) rfl rfl dX0_listenIn_88 ?_
        refine z_iload_3 dX0_listenIn_91 ?_
        refine z_row (e + 19 + b.toNat) (by omega) (he.at 18 rfl) (by omega) (by omega) dX0_listenIn_92 ?_
        refine z_callV3 (k_X0_walk (d := zHV μ h 3 2) he hh hd hok hf (by rw [hV, hc3]; exact fun x x0 x1 => by rw [fr1 _ (by omega)]; exact hA.1 x x0 x1) (by rw [hV, fr1 (e + 10) (by omega)]; exact hA.2.1) hdo.1 hdo.2.1 (by rw [e2]; exact hbc.1) (by rw [e2]; exact hbc.2) (he.at 10 rfl) (zE_go he (by omega) (by omega)) (by omega) (by omega)) m_X0_walk (he.at 0 rfl) l_X0_83 (Nat.le_of_ble_eq_true rfl) ⟨Nat.le_of_ble_eq_true rfl, Nat.le_of_ble_eq_true rfl⟩ ⟨rfl, rfl⟩ dX0_listenIn_93 (fun r μ1 hp => ?_)
        obtain ⟨rfl, w2, fr2⟩ := hp
        rw [hV, hc3, e2] at w2
        refine z_iinc_3 rfl dX0_listenIn_96 (by omega) ?_
        refine z_goto (tgt := 39) dX0_listenIn_99 (by decide) ?_
        exact ih μ1 (b + 1) (by omega) (by omega) (zEa_fr hA nb.2 (fun a a0 a1 => by rw [fr2 a (by omega), fr1 a (by omega)]) (fun a a0 a1 => by rw [fr2 a (by omega), fr1 a (by omega)])) (fun x l x0 x1 l0 l1 => by by_cases q : x = b; (subst q; rw [fr2 (e + 12 + x.toNat) (by omega)]; exact ⟨w1 l l0 l1, w2 l l0 l1⟩); (rw [fr2 (e + 12 + x.toNat) (by omega), fr1 (e + 12 + x.toNat) (by omega), fr2 (e + 19 + x.toNat) (by omega), fr1 (e + 19 + x.toNat) (by omega)]; exact hB x l x0 (by omega) l0 l1)) (by rw [fr2 e (by omega), fr1 e (by omega)]; exact h9) (fun a ha => by rw [fr2 a (by omega), fr1 a (by omega)]; exact hfr a ha) (by omega)
  refine z_aload_0 dX0_listenIn_0 ?_
  refine z_aload_1 dX0_listenIn_1 ?_
  refine z_getF (h + 1) 1 rfl f_X0_70 (hh.at 0 rfl) rfl rfl dX0_listenIn_2 ?_
  refine z_callV1 (k_X0_measure he hh hd ok) m_X0_measure (he.at 0 rfl) l_X0_73 (Nat.le_of_ble_eq_true rfl) ⟨Nat.le_of_ble_eq_true rfl, Nat.le_of_ble_eq_true rfl⟩ ⟨rfl, rfl⟩ dX0_listenIn_5 (fun r μ1 hp => ?_)
  obtain ⟨rfl, h9, hdm, fr1⟩ := hp
  have hζ : ∃ ζ, ζ = μ1 := ⟨_, rfl⟩
  obtain ⟨ζ1, hζ⟩ := hζ
  subst hζ
  have hV1 : zHV ζ1 h = zHV μ h := zHV_fr (a := e) (n := 10) fr1 (by omega)
  have c31 : ζ1 (h + 1) 3 = μ (h + 1) 3 := by rw [fr1 (h + 1) (by omega)]
  refine z_aload_0 dX0_listenIn_8 ?_
  refine z_callV0 (k_X0_measureBeds he hh hd (by rw [hV1]; exact ok) h9 (by rw [hV1, c31]; exact hdm)) m_X0_measureBeds (he.at 0 rfl) l_X0_77 (Nat.le_of_ble_eq_true rfl) ⟨Nat.le_of_ble_eq_true rfl, Nat.le_of_ble_eq_true rfl⟩ ⟨rfl, rfl⟩ dX0_listenIn_9 (fun r μ1 hp => ?_)
  obtain ⟨rfl, hls, fr2⟩ := hp
  rw [hV1, c31] at hls
  have hζ : ∃ ζ, ζ = μ1 := ⟨_, rfl⟩
  obtain ⟨ζ2, hζ⟩ := hζ
  subst hζ
  have hf : ζ2 e 9 = ((h + 1 : Nat) : Int) := by rw [fr2 e (by omega)]; exact h9
  have fr12 : ∀ a, (a < e ∨ e + 43 ≤ a) → ζ2 a = μ a := fun a ha => by rw [fr2 a (by omega), fr1 a (by omega)]
  have hV2 : zHV ζ2 h = zHV μ h := zHV_fr (a := e) (n := 43) fr12 (by omega)
  have hdo := ok.1.2.2.2.2
  have e5 : ζ2 (h + 1) 5 = zHV μ h 3 2 := by rw [fr12 (h + 1) (by omega)]; rfl
  refine z_fact (fun hcx _ _ => ?_)
  refine z_aload_0 dX0_listenIn_12 ?_
  refine z_getF (e + 1) 1 rfl f_X0_12 (he.at 0 rfl) rfl rfl dX0_listenIn_13 ?_
  refine z_aload_0 dX0_listenIn_16 ?_
  refine z_getM 9 rfl (h + 1) f_X0_48 (he.at 0 rfl) rfl hf dX0_listenIn_17 ?_
  refine z_getF (h + 2) 1 rfl f_X0_56 (hh.at 1 rfl) rfl rfl dX0_listenIn_20 ?_
  refine z_aload_0 dX0_listenIn_23 ?_
  refine z_getM 9 rfl (h + 1) f_X0_48 (he.at 0 rfl) rfl hf dX0_listenIn_24 ?_
  refine z_getI 5 rfl f_X0_80 (hh.at 1 rfl) rfl dX0_listenIn_27 ?_
  refine z_aload_0 dX0_listenIn_30 ?_
  refine z_getF (e + 10) 10 rfl f_X0_23 (he.at 0 rfl) rfl rfl dX0_listenIn_31 ?_
  refine z_callV3 (k_X6_spread (he.sub 1 rfl) (hh.at 2 rfl) (he.at 10 rfl) (by omega) (by rw [e5]; exact ⟨hdo.1, hdo.2.1⟩)) m_X6_spread (he.at 1 rfl) l_X0_63 (Nat.le_of_ble_eq_true rfl) ⟨Nat.le_of_ble_eq_true rfl, Nat.le_of_ble_eq_true rfl⟩ ⟨rfl, rfl⟩ dX0_listenIn_34 (fun r μ1 hp => ?_)
  obtain ⟨rfl, dd, fr3⟩ := hp
  have d1 := zSp hh hcx (by rw [e5]; exact hdo.1) (by rw [e5]; exact hdo.2.1) dd
  rw [hV2, e5] at d1
  refine z_iconst dX0_listenIn_37 (by decide) ?_
  refine z_istore_3 rfl dX0_listenIn_38 ?_
  have nb2 : zHV μ h 3 0 ≤ 6 := nb.2
  exact L39 8 μ1 0 (by omega) (by omega) ⟨fun b b0 b1 => by rw [fr3 _ (by omega) (by omega), fr2 _ (by omega)]; exact hdm b b0 b1, d1, fun b l b0 b1 l0 l1 => by rw [fr3 _ (by omega) (by omega)]; exact hls b l b0 b1 l0 l1⟩ (fun b l b0 b1 l0 l1 => by omega) (by rw [fr3 e (by omega) (by omega), fr2 e (by omega)]; exact h9) (fun a ha => by rw [fr3 a (by omega) (by omega), fr2 a (by omega), fr1 a (by omega)]) (by omega)
