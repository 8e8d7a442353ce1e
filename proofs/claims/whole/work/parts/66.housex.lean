theorem zRd9_m {t : Int → Int} {n : Int} {k : Nat} {f : Int} (n0 : 0 ≤ n) (hn : n ≤ 300) (h : zRd9 t n k f) {j : Nat} (hj : j < k) : j < 60 := by
  have q := (h.1 j hj).1
  have b := zps_b n0 hn j (fun i hi => h.1 i (by omega))
  omega
set_option maxRecDepth 100000 in
set_option maxHeartbeats 4000000 in
theorem k_X11_house {l : Launch} {E : zE} {μ : zM} (hn : 0 ≤ μ 47 0 ∧ μ 47 0 ≤ 300) : Ct l E yX11_house cX11_house 3 (some .int) ({ frames := 8, cells := 0, slots := 0, locals := 225 }) [zR 0] μ (fun r ν => ∃ z : Int, r = some (zI z) ∧ zHo (μ 110) (μ 47 0) z (zHV μ 1) (zHV ν 1) ∧ (∀ q, q ≠ 1 → q ≠ 5 → ν 47 q = μ 47 q) ∧ (∀ x, x ≠ 47 → x ≠ 48 → (x < 50 ∨ 109 < x) → (x < 1 ∨ 45 ≤ x) → ν x = μ x)) := by
  refine Ct.of RX11 [zR 0, zU, zU] (by decide +kernel) rfl ⟨rfl, rfl⟩ rfl (Nat.le_of_ble_eq_true rfl) (fun X hX hc0 ha0 => ?_)
  subst hX
  refine z_aload_0 dX11_house_0 ?_
  refine z_getF 47 47 rfl f_X11_30 zl_0 rfl rfl dX11_house_1 ?_
  refine z_callV0 (k_X10_read hn) m_X10_read zl_47 l_X11_139 (Nat.le_of_ble_eq_true rfl) ⟨Nat.le_of_ble_eq_true rfl, Nat.le_of_ble_eq_true rfl⟩ ⟨rfl, rfl⟩ dX11_house_4 (fun r μ1 hp => ?_)
  obtain ⟨k, f, hrd, rfl, hok, hk, hx⟩ := hp
  obtain ⟨ξ, hζ9⟩ : ∃ z, z = μ1 := ⟨_, rfl⟩
  subst hζ9
  have fb := zRd9_f hn.1 hn.2 hrd
  refine z_istore_1 rfl dX11_house_7 ?_
  refine z_iload_1 dX11_house_8 ?_
  refine z_iconst dX11_house_9 (by decide) ?_
  refine z_icmpeq (tgt := 18) dX11_house_10 (by decide) (fun h_10 => ?_) (fun h_10 => ?_)
  · obtain rfl : f = -1 := h_10
    refine z_aload_0 dX11_house_18 ?_
    refine z_getF 23 23 rfl f_X11_16 zl_0 rfl rfl dX11_house_19 ?_
    refine z_callV0 (k_X2_restart (h := 23) zq2_23) m_X2_restart zl_23 l_X11_142 (Nat.le_of_ble_eq_true rfl) ⟨Nat.le_of_ble_eq_true rfl, Nat.le_of_ble_eq_true rfl⟩ ⟨rfl, rfl⟩ dX11_house_22 (fun r μ1 hp => ?_)
    obtain ⟨rfl, p1, p2⟩ := hp
    refine z_iconst dX11_house_25 (by decide) ?_
    refine z_istore_2 rfl dX11_house_26 ?_
    obtain ⟨hi1, hrec⟩ := hok rfl
    have L : ∀ (c : Nat) (m : Nat) (p : Int) (η : zM), p = (m : Int) → m ≤ k → (∀ j : Nat, j < m → zTg9 (μ 110) (μ 47 0) j) → zHV η 23 = (zTS (μ 110) (μ 47 0) m) → zFr 23 22 ξ η → k - m < c → MW X E cX11_house RX11 ({ frames := 8, cells := 0, slots := 0, locals := 225 }) (some .int) (fun r ν => ∃ z : Int, r = some (zI z) ∧ zHo (μ 110) (μ 47 0) z (zHV μ 1) (zHV ν 1) ∧ (∀ q, q ≠ 1 → q ≠ 5 → ν 47 q = μ 47 q) ∧ (∀ x, x ≠ 47 → x ≠ 48 → (x < 50 ∨ 109 < x) → (x < 1 ∨ 45 ≤ x) → ν x = μ x)) 27 [zR 0, zI (-1), zI p] [] η := by
      intro c
      induction c with
      | zero => intro m p η hp0 hmm hgood hV hfr h3; omega
      | succ c ih =>
        intro m p η hp0 hmm hgood hV hfr h3
        subst hp0
        refine z_iload_2 dX11_house_27 ?_
        refine z_aload_0 dX11_house_28 ?_
        refine z_getF 47 47 rfl f_X11_30 zl_0 rfl rfl dX11_house_29 ?_
        refine z_getI 1 rfl f_X11_145 zl_47 rfl dX11_house_32 ?_
        rw [hfr 47 (by decide), hi1]
        refine z_icmpge (tgt := 80) dX11_house_35 (by decide) (fun h_35 => ?_) (fun h_35 => ?_)
        · have hmk : m = k := by omega
          refine z_aload_0 dX11_house_80 ?_
          refine z_getF 1 1 rfl f_X11_10 zl_0 rfl rfl dX11_house_81 ?_
          refine z_aload_0 dX11_house_84 ?_
          refine z_getF 23 23 rfl f_X11_16 zl_0 rfl rfl dX11_house_85 ?_
          refine z_callV1 (k_X2_copy (h := 1) (g := 23) zq2_1 zq2_23 (by decide) (by rw [hV]; exact zTS_ok m)) m_X2_copy zl_1 l_X11_159 (Nat.le_of_ble_eq_true rfl) ⟨Nat.le_of_ble_eq_true rfl, Nat.le_of_ble_eq_true rfl⟩ ⟨rfl, rfl⟩ dX11_house_88 (fun r μ1 hp => ?_)
          obtain ⟨rfl, q1, q2⟩ := hp
          obtain ⟨η2, hζ9⟩ : ∃ z, z = μ1 := ⟨_, rfl⟩
          subst hζ9
          refine z_aload_0 dX11_house_91 ?_
          refine z_getF 47 47 rfl f_X11_30 zl_0 rfl rfl dX11_house_92 ?_
          refine z_getI 1 rfl f_X11_145 zl_47 rfl dX11_house_95 ?_
          rw [show η2 47 1 = (k : Int) by rw [q2 47 (by omega), hfr 47 (by omega)]; exact hi1]
          exact z_iret dX11_house_98 (⟨(k : Int), rfl, ⟨k, -1, hrd, Or.inr ⟨rfl, k, ⟨Nat.le_refl _, by rw [← hmk]; exact hgood, Or.inl rfl⟩, Or.inl ⟨rfl, rfl, by rw [q1, hV, hmk]⟩⟩⟩, fun q e1 e5 => by rw [q2 47 (by omega), hfr 47 (by omega)]; exact hk q e1 e5, fun x x1 x2 x3 x4 => by rw [q2 x (by omega), hfr x (by omega)]; exact hx x x1 x2 x3⟩)
        · have hmk : m < k := by omega
          have hw := zRd9_w hn.1 hn.2 hrd hmk
          have h60 := zRd9_m hn.1 hn.2 hrd hmk
          refine z_aload_0 dX11_house_38 ?_
          refine z_getF 23 23 rfl f_X11_16 zl_0 rfl rfl dX11_house_39 ?_
          refine z_aload_0 dX11_house_42 ?_
          refine z_getF 47 47 rfl f_X11_30 zl_0 rfl rfl dX11_house_43 ?_
          refine z_getF 48 1 rfl f_X11_148 zl_47 rfl rfl dX11_house_46 ?_
          refine z_iload_2 dX11_house_49 ?_
          refine z_iald zl_48 (by omega) (by omega) dX11_house_50 ?_
          rw [hfr 48 (by decide), (hrec m hmk).1]
          refine z_aload_0 dX11_house_51 ?_
          refine z_getF 47 47 rfl f_X11_30 zl_0 rfl rfl dX11_house_52 ?_
          refine z_getF 49 2 rfl f_X11_151 zl_47 rfl rfl dX11_house_55 ?_
          refine z_iload_2 dX11_house_58 ?_
          refine z_row (50 + m) (by omega) zl_49 (by omega) (by omega) dX11_house_59 ?_
          refine z_callV2 (k_X2_take (h := 23) (w := zIw (μ 110) (μ 47 0) (zps (μ 110) (μ 47 0) m)) zq2_23 (by rw [hV]; exact zTS_ok m) (zl_tn (by omega)) ⟨hw.2.1, by omega⟩) m_X2_take zl_23 l_X11_155 (Nat.le_of_ble_eq_true rfl) ⟨Nat.le_of_ble_eq_true rfl, Nat.le_of_ble_eq_true rfl⟩ ⟨rfl, rfl⟩ dX11_house_60 (fun r μ1 hp => ?_)
          rw [hV, spT_cg (g := zIn (μ 110) (μ 47 0) m) hw.2.1 (fun i i0 i1 => by have := (hrec m hmk).2 i.toNat (by omega); rw [show ((i.toNat : Nat) : Int) = i by omega] at this; rw [hfr (50 + m) (by omega)]; exact this)] at hp
          obtain ⟨rfl, q1, q2⟩ := hp
          obtain ⟨η2, hζ9⟩ : ∃ z, z = μ1 := ⟨_, rfl⟩
          subst hζ9
          refine z_bipush dX11_house_63 (by decide) ?_
          refine z_icmpgt (tgt := 74) dX11_house_65 (by decide) (fun h_65 => ?_) (fun h_65 => ?_)
          · refine z_iinc_2 rfl dX11_house_74 (by omega) ?_
            refine z_goto (tgt := 27) dX11_house_77 (by decide) ?_
            refine ih (m + 1) _ η2 (by omega) (by omega) (fun j q => by by_cases e : j = m; rw [e]; show -2 < _; omega; exact hgood j (by omega)) (by rw [q1]; rfl) (zFr_tr hfr q2) (by omega)
          · refine z_sipush dX11_house_68 (by decide) ?_
            refine z_iload_2 dX11_house_71 ?_
            refine z_isub dX11_house_72 (by omega) ?_
            exact z_iret dX11_house_73 (⟨-1000 - (m : Int), rfl, ⟨k, -1, hrd, Or.inr ⟨rfl, m, ⟨hmm, hgood, Or.inr (fun q => by have q : -2 < _ := q; omega)⟩, Or.inr ⟨by omega, rfl, zHV_fr (a := 23) (n := 400) (fun a a0 => by rw [zFr_tr hfr q2 a (by omega)]; exact hx a (by omega) (by omega) (by omega)) (Or.inr (by decide))⟩⟩⟩, fun q q1 q5 => by rw [zFr_tr hfr q2 47 (by omega)]; exact hk q q1 q5, fun x x1 x2 x3 x4 => by rw [zFr_tr hfr q2 x (by omega)]; exact hx x x1 x2 x3⟩)
    exact L (k + 1) 0 _ μ1 rfl (Nat.zero_le _) (fun j q => by omega) p1 p2 (by omega)
  · refine z_bipush dX11_house_13 (by decide) ?_
    refine z_iload_1 dX11_house_15 ?_
    refine z_isub dX11_house_16 (by omega) ?_
    exact z_iret dX11_house_17 (⟨-10 - f, rfl, ⟨k, f, hrd, Or.inl ⟨h_10, rfl, zHV_fr (a := 23) (n := 400) (fun a a0 => hx a (by omega) (by omega) (by omega)) (Or.inr (by decide))⟩⟩, hk, fun x x1 x2 x3 _ => hx x x1 x2 x3⟩)
