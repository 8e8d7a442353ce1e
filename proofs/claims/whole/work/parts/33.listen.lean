theorem zLs_b {d f : Int} (hd : -1 ≤ d ∧ d ≤ 40) (hf : 0 ≤ f ∧ f ≤ 9) : 0 ≤ zLs d f ∧ zLs d f ≤ 9000 := by
  unfold zLs
  by_cases h : d = -1
  · rw [if_pos h]; omega
  · rw [if_neg h]; exact zmul_c hf (by omega)
theorem zhr_L {p : Int × Int} {v d f w : Int} (hp : 0 ≤ p.1) (hv : v ≤ 60) : zhr p (v - zLs d f) w = zhr p (zFd v d f) w := by
  unfold zLs zFd
  by_cases h : d = -1
  · rw [if_pos h, if_pos h, zhr_0 (by omega), zhr_0 hp]
  · rw [if_neg h, if_neg h]
    generalize f * d = x
    by_cases h2 : v - x ≤ 0
    · rw [zhr_0 (by omega), zhr_0 (by omega)]
    · rw [show max 0 (v - x) = v - x by omega]
theorem zBt_ti {x : Int} {n : Nat} {i : Int} {P : Int → Prop} (h : zBt x n P) (hn : n ≤ 8) (i0 : 0 ≤ i) (hi : i < n) : zand (zshr x i) 1 = zb (P i) := by
  obtain ⟨k, rfl⟩ := Int.eq_ofNat_of_zero_le i0
  exact zBt_t h hn (by omega)
theorem zEa_l {V μ : zM} {e : Nat} (h : zEa V μ e) (ok : zOK V) {b l : Int} (b0 : 0 ≤ b) (b1 : b < V 3 0) (l0 : 0 ≤ l) (l1 : l < V 3 0) : μ (e + 37 + l.toNat) b = zLs (zWk V (V 2 b) (V 2 l)) (V 3 1) ∧ 0 ≤ μ (e + 37 + l.toNat) b ∧ μ (e + 37 + l.toNat) b ≤ 9000 := by
  have hb := zOK_bed ok l0 l1
  have hw := zDM_b (zWk_of (h.1 b b0 b1)) hb.1 hb.2
  rw [h.2.2 b l b0 b1 l0 l1]
  exact ⟨rfl, zLs_b hw ok.1.2.2.2.1⟩
set_option maxRecDepth 100000 in
set_option maxHeartbeats 4000000 in
theorem k_X4_listenToSounds {l : Launch} {E : zE} {w : Int} {S : zM} {n h : Nat} {μ : zM} {V : zM} {fan : Int} (hn : zAt zp4 n) (hh : zAt zp2 h) (hd : h + 22 ≤ n ∨ n + 78 ≤ h) (ok : zOK V) (np : zNp V fan μ n h) {i t : Int} (i0 : 0 ≤ i) (i1 : i < V 3 3) (ib : V 9 i ≠ -1) (hdu : zBt w (V 3 4).toNat (fun j => zDu V j t)) (haw : zBt (μ n 11) (V 3 3).toNat (fun s => S 0 s = 1)) (h13 : 0 ≤ μ n 13) : Ct l E yX4_listenToSounds cX4_listenToSounds 6 none ({ frames := 1, cells := 0, slots := 0, locals := 22 }) [zR n, zI i, zI (V 9 i), zI w] μ (fun r ν => r = none ∧ ν = zhm μ n (zL2 V t S i (μ n 13, μ n 14))) := by
  refine Ct.of RX4 [zR n, zI i, zI (V 9 i), zI w, zU, zU] (by decide +kernel) rfl ⟨rfl, rfl⟩ rfl (Nat.le_of_ble_eq_true rfl) (fun X hX hc0 ha0 => ?_)
  subst hX
  obtain ⟨h8, h9, rfl, hE⟩ := np
  obtain ⟨nb, nf, nd, npp, ns, nr⟩ := zOK_n ok
  have he : zAt zp0 (n + 15) := hn.sub 15 rfl
  have pp := ok.2.1.2 i i0 i1
  have bi : 0 ≤ zHV μ h 9 i ∧ zHV μ h 9 i < μ (h + 1) 3 := ⟨by omega, pp.2.2.2.2.2⟩
  have hN : h < 420 := zl_lt (hh.at 0 rfl) (by decide)
  have nN : n < 420 := zl_lt (hn.at 0 rfl) (by decide)
  have sc3 : (zHV μ h 3 4).toNat = (μ (h + 12) 5).toNat := rfl
  have pc4 : (zHV μ h 3 3).toNat = (μ (h + 5) 6).toNat := rfl
  have L3 : ∀ (k : Nat) (s : Nat) (ξ : zM), (s : Int) ≤ μ (h + 12) 5 → ξ = zhm μ n (zfo (zx2 (zHV μ h) t S i) (zy2 (zHV μ h)) s (μ n 13, μ n 14)) → μ (h + 12) 5 - s < k → MW X E cX4_listenToSounds RX4 ({ frames := 1, cells := 0, slots := 0, locals := 22 }) none (fun r ν => r = none ∧ ν = zhm μ n (zL2 (zHV μ h) t S i (μ n 13, μ n 14))) 3 [zR n, zI i, zI (zHV μ h 9 i), zI w, zI (s : Int), zU] [] ξ := by
    intro k
    induction k with
    | zero => intro s ξ hs1 hξ h3; omega
    | succ k ih2 =>
      intro s ξ hs1 hξ h3
      have hrow : ∀ a, a ≠ n → ξ a = μ a := fun a ha => by rw [hξ]; exact zhm_row ha
      have hk : ∀ k, k ≠ 13 → k ≠ 14 → ξ n k = μ n k := fun k k1 k2 => by rw [hξ]; exact zhm_k k1 k2
      have h8 : ξ n 8 = ((h + 5 : Nat) : Int) := by rw [hk 8 (by decide) (by decide)]; exact h8
      have h9 : ξ n 9 = ((h + 12 : Nat) : Int) := by rw [hk 9 (by decide) (by decide)]; exact h9
      have hc6 : ξ (h + 5) 6 = μ (h + 5) 6 := by rw [hrow (h + 5) (by omega)]
      have hc5 : ξ (h + 12) 5 = μ (h + 12) 5 := by rw [hrow (h + 12) (by omega)]
      refine z_iload_4 dX4_listenToSounds_3 ?_
      refine z_aload_0 dX4_listenToSounds_5 ?_
      refine z_getM 9 rfl (h + 12) f_X4_52 (hn.at 0 rfl) rfl h9 dX4_listenToSounds_6 ?_
      refine z_getI 5 rfl f_X4_145 (hh.at 12 rfl) rfl dX4_listenToSounds_9 ?_
      refine z_icmpge (tgt := 165) dX4_listenToSounds_12 (by decide) (fun h_12 => ?_) (fun h_12 => ?_)
      · exact z_vret dX4_listenToSounds_165 (⟨rfl, by unfold zL2; rw [show (zHV μ h 3 4).toNat = s by show (μ (h + 12) 5).toNat = s; omega]; exact hξ⟩)
      · have s1 : (s : Int) < μ (h + 12) 5 := by omega
        have e10 : ξ (h + 13) (s : Int) = zHV μ h 10 s := by rw [zHV_10 (by omega) s1, hrow (h + 13) (by omega)]
        have e11 : ξ (h + 14) (s : Int) = zHV μ h 11 s := by rw [zHV_11 (by omega) s1, hrow (h + 14) (by omega)]
        have e14 : ξ (h + 17) (s : Int) = zHV μ h 14 s := by rw [zHV_14 (by omega) s1, hrow (h + 17) (by omega)]
        have ps := ok.2.2.1.2 (s : Int) (by omega) s1
        have pc3 : zHV μ h 3 3 = μ (h + 5) 6 := rfl
        have bc3 : zHV μ h 3 0 = μ (h + 1) 3 := rfl
        refine z_iload_3 dX4_listenToSounds_15 ?_
        refine z_iload_4 dX4_listenToSounds_16 ?_
        refine z_ishr dX4_listenToSounds_18 ?_
        refine z_iconst dX4_listenToSounds_19 (by decide) ?_
        refine z_iand dX4_listenToSounds_20 ?_
        rw [zBt_t hdu (by omega) (by omega)]
        refine z_ifne (tgt := 27) dX4_listenToSounds_21 (by decide) (fun h_21 => ?_) (fun h_21 => ?_)
        · replace h_21 := zb_n.mp h_21
          refine z_aload_0 dX4_listenToSounds_27 ?_
          refine z_getM 9 rfl (h + 12) f_X4_52 (hn.at 0 rfl) rfl h9 dX4_listenToSounds_28 ?_
          refine z_getF (h + 14) 2 rfl f_X4_146 (hh.at 12 rfl) rfl rfl dX4_listenToSounds_31 ?_
          refine z_iload_4 dX4_listenToSounds_34 ?_
          refine z_iald (hh.at 14 rfl) (by omega) (by omega) dX4_listenToSounds_36 ?_
          rw [e11]
          refine z_istore_5 rfl dX4_listenToSounds_37 ?_
          refine z_aload_0 dX4_listenToSounds_39 ?_
          refine z_getM 9 rfl (h + 12) f_X4_52 (hn.at 0 rfl) rfl h9 dX4_listenToSounds_40 ?_
          refine z_getF (h + 13) 1 rfl f_X4_149 (hh.at 12 rfl) rfl rfl dX4_listenToSounds_43 ?_
          refine z_iload_4 dX4_listenToSounds_46 ?_
          refine z_iald (hh.at 13 rfl) (by omega) (by omega) dX4_listenToSounds_48 ?_
          rw [e10]
          refine z_ifne (tgt := 76) dX4_listenToSounds_49 (by decide) (fun h_49 => ?_) (fun h_49 => ?_)
          · have hk1 : zHV μ h 10 (s : Int) ≠ 4 := h_21.2.2.2.2
            have hx0 := ps.2.2.1 (by omega) (by omega)
            have e9 : ξ (h + 11) (zHV μ h 11 (s : Int)) = zHV μ h 9 (zHV μ h 11 (s : Int)) := by rw [zHV_9 (by omega) (by omega), hrow (h + 11) (by omega)]
            have px := ok.2.1.2 (zHV μ h 11 (s : Int)) (by omega) (by omega)
            refine z_iload_5 dX4_listenToSounds_76 ?_
            refine z_iload_1 dX4_listenToSounds_78 ?_
            refine z_icmpeq (tgt := 159) dX4_listenToSounds_79 (by decide) (fun h_79 => ?_) (fun h_79 => ?_)
            · refine z_iinc_4 rfl dX4_listenToSounds_159 (by omega) ?_
              refine z_goto (tgt := 3) dX4_listenToSounds_162 (by decide) ?_
              have hx : zx2 (zHV μ h) t S i (s : Int) = 0 := by unfold zx2; rw [zif_t h_21, zif_f h_49, zif_f (fun q => q.1 h_79)]
              exact z_weak (ls' := [zR n, zI i, zI (zHV μ h 9 i), zI w, zI ((s + 1 : Nat) : Int), zU]) ⟨Or.inl rfl, Or.inl rfl, Or.inl rfl, Or.inl rfl, Or.inl rfl, Or.inr rfl, trivial⟩ (ih2 (s + 1) ξ (by omega) (by rw [zfo_s, hx, zhr_0 (Int.le_trans h13 zfo_n)]; exact hξ) (by omega))
            · refine z_aload_0 dX4_listenToSounds_82 ?_
              refine z_getM 8 rfl (h + 5) f_X4_45 (hn.at 0 rfl) rfl h8 dX4_listenToSounds_83 ?_
              refine z_getF (h + 11) 6 rfl f_X4_84 (hh.at 5 rfl) rfl rfl dX4_listenToSounds_86 ?_
              refine z_iload_5 dX4_listenToSounds_89 ?_
              refine z_iald (hh.at 11 rfl) (by omega) (by omega) dX4_listenToSounds_91 ?_
              rw [e9]
              refine z_iconst dX4_listenToSounds_92 (by decide) ?_
              refine z_icmpeq (tgt := 159) dX4_listenToSounds_93 (by decide) (fun h_93 => ?_) (fun h_93 => ?_)
              · refine z_iinc_4 rfl dX4_listenToSounds_159 (by omega) ?_
                refine z_goto (tgt := 3) dX4_listenToSounds_162 (by decide) ?_
                have hx : zx2 (zHV μ h) t S i (s : Int) = 0 := by unfold zx2; rw [zif_t h_21, zif_f h_49, zif_f (fun q => q.2.1 h_93)]
                exact z_weak (ls' := [zR n, zI i, zI (zHV μ h 9 i), zI w, zI ((s + 1 : Nat) : Int), zU]) ⟨Or.inl rfl, Or.inl rfl, Or.inl rfl, Or.inl rfl, Or.inl rfl, Or.inr rfl, trivial⟩ (ih2 (s + 1) ξ (by omega) (by rw [zfo_s, hx, zhr_0 (Int.le_trans h13 zfo_n)]; exact hξ) (by omega))
              · refine z_aload_0 dX4_listenToSounds_96 ?_
                refine z_getM 9 rfl (h + 12) f_X4_52 (hn.at 0 rfl) rfl h9 dX4_listenToSounds_97 ?_
                refine z_getF (h + 13) 1 rfl f_X4_149 (hh.at 12 rfl) rfl rfl dX4_listenToSounds_100 ?_
                refine z_iload_4 dX4_listenToSounds_103 ?_
                refine z_iald (hh.at 13 rfl) (by omega) (by omega) dX4_listenToSounds_105 ?_
                rw [e10]
                refine z_iconst dX4_listenToSounds_106 (by decide) ?_
                refine z_icmpne (tgt := 122) dX4_listenToSounds_107 (by decide) (fun h_107 => ?_) (fun h_107 => ?_)
                · refine z_aload_0 dX4_listenToSounds_122 ?_
                  refine z_aload_0 dX4_listenToSounds_123 ?_
                  refine z_getM 9 rfl (h + 12) f_X4_52 (hn.at 0 rfl) rfl h9 dX4_listenToSounds_124 ?_
                  refine z_getF (h + 17) 5 rfl f_X4_155 (hh.at 12 rfl) rfl rfl dX4_listenToSounds_127 ?_
                  refine z_iload_4 dX4_listenToSounds_130 ?_
                  refine z_iald (hh.at 17 rfl) (by omega) (by omega) dX4_listenToSounds_132 ?_
                  rw [e14]
                  have hlo := zEa_l hE.1 ok bi.1 bi.2 (by omega) px.2.2.2.2.2
                  rw [← hrow _ (by omega)] at hlo
                  refine z_aload_0 dX4_listenToSounds_133 ?_
                  refine z_getF (n + 15) 15 rfl f_X4_29 (hn.at 0 rfl) rfl rfl dX4_listenToSounds_134 ?_
                  refine z_getF (n + 51) 36 rfl f_X4_158 (hn.at 15 rfl) rfl rfl dX4_listenToSounds_137 ?_
                  refine z_aload_0 dX4_listenToSounds_140 ?_
                  refine z_getM 8 rfl (h + 5) f_X4_45 (hn.at 0 rfl) rfl h8 dX4_listenToSounds_141 ?_
                  refine z_getF (h + 11) 6 rfl f_X4_84 (hh.at 5 rfl) rfl rfl dX4_listenToSounds_144 ?_
                  refine z_iload_5 dX4_listenToSounds_147 ?_
                  refine z_iald (hh.at 11 rfl) (by omega) (by omega) dX4_listenToSounds_149 ?_
                  rw [e9]
                  refine z_row (n + 15 + 37 + (zHV μ h 9 (zHV μ h 11 (s : Int))).toNat) (by omega) (hn.at 51 rfl) (by omega) (by omega) dX4_listenToSounds_150 ?_
                  refine z_iload_2 dX4_listenToSounds_151 ?_
                  refine z_iald (zE_los he (by omega) (by omega)) (by omega) (by omega) dX4_listenToSounds_152 ?_
                  refine z_isub dX4_listenToSounds_153 (by omega) ?_
                  refine z_iload_5 dX4_listenToSounds_154 ?_
                  refine z_callV2 (k_X4_hear hn) m_X4_hear (hn.at 0 rfl) l_X4_142 (Nat.le_of_ble_eq_true rfl) ⟨Nat.le_of_ble_eq_true rfl, Nat.le_of_ble_eq_true rfl⟩ ⟨rfl, rfl⟩ dX4_listenToSounds_156 (fun r μ1 hp => ?_)
                  obtain ⟨rfl, hv⟩ := hp
                  refine z_iinc_4 rfl dX4_listenToSounds_159 (by omega) ?_
                  refine z_goto (tgt := 3) dX4_listenToSounds_162 (by decide) ?_
                  have hx : zx2 (zHV μ h) t S i (s : Int) = zHs (zHV μ h) (zHV μ h 9 i) (zHV μ h 2 (zHV μ h 9 (zHV μ h 11 (s : Int)))) (zHV μ h 14 (s : Int)) := by unfold zx2; rw [zif_t h_21, zif_f h_49, zif_t ⟨h_79, h_93, fun q => absurd q h_107⟩]
                  exact z_weak (ls' := [zR n, zI i, zI (zHV μ h 9 i), zI w, zI ((s + 1 : Nat) : Int), zU]) ⟨Or.inl rfl, Or.inl rfl, Or.inl rfl, Or.inl rfl, Or.inl rfl, Or.inr rfl, trivial⟩ (ih2 (s + 1) μ1 (by omega) (by rw [hv, hlo.1, zhr_L (by rw [hξ, zhm_13]; exact Int.le_trans h13 zfo_n) (by omega), zfo_s, hx, show zy2 (zHV μ h) (s : Int) = zHV μ h 11 (s : Int) from zif_f h_49]; subst hξ; rw [zhm_2, zhm_13, zhm_14]; rfl) (by omega))
                · refine z_aload_0 dX4_listenToSounds_110 ?_
                  refine z_getI 11 rfl f_X4_93 (hn.at 0 rfl) rfl dX4_listenToSounds_111 ?_
                  refine z_iload_5 dX4_listenToSounds_114 ?_
                  refine z_ishr dX4_listenToSounds_116 ?_
                  refine z_iconst dX4_listenToSounds_117 (by decide) ?_
                  refine z_iand dX4_listenToSounds_118 ?_
                  rw [hk 11 (by decide) (by decide), zBt_ti haw (by omega) (by omega) (by omega)]
                  refine z_ifeq (tgt := 159) dX4_listenToSounds_119 (by decide) (fun h_119 => ?_) (fun h_119 => ?_)
                  · replace h_119 := zb_0.mp h_119
                    refine z_iinc_4 rfl dX4_listenToSounds_159 (by omega) ?_
                    refine z_goto (tgt := 3) dX4_listenToSounds_162 (by decide) ?_
                    have hx : zx2 (zHV μ h) t S i (s : Int) = 0 := by unfold zx2; rw [zif_t h_21, zif_f h_49, zif_f (fun q => h_119 (q.2.2 h_107))]
                    exact z_weak (ls' := [zR n, zI i, zI (zHV μ h 9 i), zI w, zI ((s + 1 : Nat) : Int), zU]) ⟨Or.inl rfl, Or.inl rfl, Or.inl rfl, Or.inl rfl, Or.inl rfl, Or.inr rfl, trivial⟩ (ih2 (s + 1) ξ (by omega) (by rw [zfo_s, hx, zhr_0 (Int.le_trans h13 zfo_n)]; exact hξ) (by omega))
                  · replace h_119 := zb_n.mp h_119
                    refine z_aload_0 dX4_listenToSounds_122 ?_
                    refine z_aload_0 dX4_listenToSounds_123 ?_
                    refine z_getM 9 rfl (h + 12) f_X4_52 (hn.at 0 rfl) rfl h9 dX4_listenToSounds_124 ?_
                    refine z_getF (h + 17) 5 rfl f_X4_155 (hh.at 12 rfl) rfl rfl dX4_listenToSounds_127 ?_
                    refine z_iload_4 dX4_listenToSounds_130 ?_
                    refine z_iald (hh.at 17 rfl) (by omega) (by omega) dX4_listenToSounds_132 ?_
                    rw [e14]
                    have hlo := zEa_l hE.1 ok bi.1 bi.2 (by omega) px.2.2.2.2.2
                    rw [← hrow _ (by omega)] at hlo
                    refine z_aload_0 dX4_listenToSounds_133 ?_
                    refine z_getF (n + 15) 15 rfl f_X4_29 (hn.at 0 rfl) rfl rfl dX4_listenToSounds_134 ?_
                    refine z_getF (n + 51) 36 rfl f_X4_158 (hn.at 15 rfl) rfl rfl dX4_listenToSounds_137 ?_
                    refine z_aload_0 dX4_listenToSounds_140 ?_
                    refine z_getM 8 rfl (h + 5) f_X4_45 (hn.at 0 rfl) rfl h8 dX4_listenToSounds_141 ?_
                    refine z_getF (h + 11) 6 rfl f_X4_84 (hh.at 5 rfl) rfl rfl dX4_listenToSounds_144 ?_
                    refine z_iload_5 dX4_listenToSounds_147 ?_
                    refine z_iald (hh.at 11 rfl) (by omega) (by omega) dX4_listenToSounds_149 ?_
                    rw [e9]
                    refine z_row (n + 15 + 37 + (zHV μ h 9 (zHV μ h 11 (s : Int))).toNat) (by omega) (hn.at 51 rfl) (by omega) (by omega) dX4_listenToSounds_150 ?_
                    refine z_iload_2 dX4_listenToSounds_151 ?_
                    refine z_iald (zE_los he (by omega) (by omega)) (by omega) (by omega) dX4_listenToSounds_152 ?_
                    refine z_isub dX4_listenToSounds_153 (by omega) ?_
                    refine z_iload_5 dX4_listenToSounds_154 ?_
                    refine z_callV2 (k_X4_hear hn) m_X4_hear (hn.at 0 rfl) l_X4_142 (Nat.le_of_ble_eq_true rfl) ⟨Nat.le_of_ble_eq_true rfl, Nat.le_of_ble_eq_true rfl⟩ ⟨rfl, rfl⟩ dX4_listenToSounds_156 (fun r μ1 hp => ?_)
                    obtain ⟨rfl, hv⟩ := hp
                    refine z_iinc_4 rfl dX4_listenToSounds_159 (by omega) ?_
                    refine z_goto (tgt := 3) dX4_listenToSounds_162 (by decide) ?_
                    have hx : zx2 (zHV μ h) t S i (s : Int) = zHs (zHV μ h) (zHV μ h 9 i) (zHV μ h 2 (zHV μ h 9 (zHV μ h 11 (s : Int)))) (zHV μ h 14 (s : Int)) := by unfold zx2; rw [zif_t h_21, zif_f h_49, zif_t ⟨h_79, h_93, fun _ => h_119⟩]
                    exact z_weak (ls' := [zR n, zI i, zI (zHV μ h 9 i), zI w, zI ((s + 1 : Nat) : Int), zU]) ⟨Or.inl rfl, Or.inl rfl, Or.inl rfl, Or.inl rfl, Or.inl rfl, Or.inr rfl, trivial⟩ (ih2 (s + 1) μ1 (by omega) (by rw [hv, hlo.1, zhr_L (by rw [hξ, zhm_13]; exact Int.le_trans h13 zfo_n) (by omega), zfo_s, hx, show zy2 (zHV μ h) (s : Int) = zHV μ h 11 (s : Int) from zif_f h_49]; subst hξ; rw [zhm_2, zhm_13, zhm_14]; rfl) (by omega))
          · refine z_aload_0 dX4_listenToSounds_52 ?_
            refine z_aload_0 dX4_listenToSounds_53 ?_
            refine z_getF (n + 15) 15 rfl f_X4_29 (hn.at 0 rfl) rfl rfl dX4_listenToSounds_54 ?_
            refine z_getF (n + 40) 25 rfl f_X4_152 (hn.at 15 rfl) rfl rfl dX4_listenToSounds_57 ?_
            refine z_iload_4 dX4_listenToSounds_60 ?_
            refine z_row (n + 15 + 26 + s) (by omega) (hn.at 40 rfl) (by omega) (by omega) dX4_listenToSounds_62 ?_
            refine z_iload_2 dX4_listenToSounds_63 ?_
            refine z_iald (zE_noi2 he (by omega)) (by omega) (by omega) dX4_listenToSounds_64 ?_
            refine z_bipush dX4_listenToSounds_65 (by decide) ?_
            refine z_iload_4 dX4_listenToSounds_67 ?_
            refine z_iadd dX4_listenToSounds_69 (by omega) ?_
            refine z_callV2 (k_X4_hear hn) m_X4_hear (hn.at 0 rfl) l_X4_142 (Nat.le_of_ble_eq_true rfl) ⟨Nat.le_of_ble_eq_true rfl, Nat.le_of_ble_eq_true rfl⟩ ⟨rfl, rfl⟩ dX4_listenToSounds_70 (fun r μ1 hp => ?_)
            obtain ⟨rfl, hv⟩ := hp
            refine z_goto (tgt := 159) dX4_listenToSounds_73 (by decide) ?_
            refine z_iinc_4 rfl dX4_listenToSounds_159 (by omega) ?_
            refine z_goto (tgt := 3) dX4_listenToSounds_162 (by decide) ?_
            have hx : zx2 (zHV μ h) t S i (s : Int) = ξ (n + 15 + 26 + s) (zHV μ h 9 i) := by unfold zx2; rw [zif_t h_21, zif_t h_49, hrow _ (by omega)]; exact (hE.2.2.2.2 s (by omega) h_49 _ bi.1 bi.2).symm
            exact z_weak (ls' := [zR n, zI i, zI (zHV μ h 9 i), zI w, zI ((s + 1 : Nat) : Int), zU]) ⟨Or.inl rfl, Or.inl rfl, Or.inl rfl, Or.inl rfl, Or.inl rfl, Or.inr rfl, trivial⟩ (ih2 (s + 1) μ1 (by omega) (by rw [hv, zfo_s, hx, show zy2 (zHV μ h) (s : Int) = 10 + (s : Int) from zif_t h_49]; subst hξ; rw [zhm_2, zhm_13, zhm_14]) (by omega))
        · replace h_21 := zb_0.mp h_21
          refine z_goto (tgt := 159) dX4_listenToSounds_24 (by decide) ?_
          refine z_iinc_4 rfl dX4_listenToSounds_159 (by omega) ?_
          refine z_goto (tgt := 3) dX4_listenToSounds_162 (by decide) ?_
          have hx : zx2 (zHV μ h) t S i (s : Int) = 0 := by unfold zx2; rw [zif_f h_21]
          exact z_weak (ls' := [zR n, zI i, zI (zHV μ h 9 i), zI w, zI ((s + 1 : Nat) : Int), zU]) ⟨Or.inl rfl, Or.inl rfl, Or.inl rfl, Or.inl rfl, Or.inl rfl, Or.inr rfl, trivial⟩ (ih2 (s + 1) ξ (by omega) (by rw [zfo_s, hx, zhr_0 (Int.le_trans h13 zfo_n)]; exact hξ) (by omega))
  refine z_iconst dX4_listenToSounds_0 (by decide) ?_
  refine z_istore_4 rfl dX4_listenToSounds_1 ?_
  exact L3 9 0 μ (by omega) zhm_s.symm (by omega)
set_option maxRecDepth 100000 in
set_option maxHeartbeats 4000000 in
theorem k_X4_listenToSnores {l : Launch} {E : zE} {w : Int} {S : zM} {n h : Nat} {μ : zM} {V : zM} {fan : Int} (hn : zAt zp4 n) (hh : zAt zp2 h) (hd : h + 22 ≤ n ∨ n + 78 ≤ h) (ok : zOK V) (np : zNp V fan μ n h) {i t : Int} (i0 : 0 ≤ i) (i1 : i < V 3 3) (ib : V 9 i ≠ -1) (hw : zBt w (V 3 3).toNat (fun s => zSn S t s ∧ s ≠ i)) (lie : ∀ s, 0 ≤ s → s < V 3 3 → zSn S t s → V 9 s ≠ -1) (h13 : 0 ≤ μ n 13) : Ct l E yX4_listenToSnores cX4_listenToSnores 4 none ({ frames := 1, cells := 0, slots := 0, locals := 22 }) [zR n, zI (V 9 i), zI w] μ (fun r ν => r = none ∧ ν = zhm μ n (zL3 V t S i (μ n 13, μ n 14))) := by
  refine Ct.of RX4 [zR n, zI (V 9 i), zI w, zU] (by decide +kernel) rfl ⟨rfl, rfl⟩ rfl (Nat.le_of_ble_eq_true rfl) (fun X hX hc0 ha0 => ?_)
  subst hX
  obtain ⟨h8, h9, rfl, hE⟩ := np
  obtain ⟨nb, nf, nd, npp, ns, nr⟩ := zOK_n ok
  have he : zAt zp0 (n + 15) := hn.sub 15 rfl
  have pp := ok.2.1.2 i i0 i1
  have bi : 0 ≤ zHV μ h 9 i ∧ zHV μ h 9 i < μ (h + 1) 3 := ⟨by omega, pp.2.2.2.2.2⟩
  have hN : h < 420 := zl_lt (hh.at 0 rfl) (by decide)
  have nN : n < 420 := zl_lt (hn.at 0 rfl) (by decide)
  have sc3 : (zHV μ h 3 4).toNat = (μ (h + 12) 5).toNat := rfl
  have pc4 : (zHV μ h 3 3).toNat = (μ (h + 5) 6).toNat := rfl
  have L3 : ∀ (k : Nat) (s : Nat) (ξ : zM), (s : Int) ≤ μ (h + 5) 6 → ξ = zhm μ n (zfo (zx3 (zHV μ h) t S i) (fun s => s) s (μ n 13, μ n 14)) → μ (h + 5) 6 - s < k → MW X E cX4_listenToSnores RX4 ({ frames := 1, cells := 0, slots := 0, locals := 22 }) none (fun r ν => r = none ∧ ν = zhm μ n (zL3 (zHV μ h) t S i (μ n 13, μ n 14))) 2 [zR n, zI (zHV μ h 9 i), zI w, zI (s : Int)] [] ξ := by
    intro k
    induction k with
    | zero => intro s ξ hs1 hξ h3; omega
    | succ k ih2 =>
      intro s ξ hs1 hξ h3
      have hrow : ∀ a, a ≠ n → ξ a = μ a := fun a ha => by rw [hξ]; exact zhm_row ha
      have hk : ∀ k, k ≠ 13 → k ≠ 14 → ξ n k = μ n k := fun k k1 k2 => by rw [hξ]; exact zhm_k k1 k2
      have h8 : ξ n 8 = ((h + 5 : Nat) : Int) := by rw [hk 8 (by decide) (by decide)]; exact h8
      have h9 : ξ n 9 = ((h + 12 : Nat) : Int) := by rw [hk 9 (by decide) (by decide)]; exact h9
      have hc6 : ξ (h + 5) 6 = μ (h + 5) 6 := by rw [hrow (h + 5) (by omega)]
      have hc5 : ξ (h + 12) 5 = μ (h + 12) 5 := by rw [hrow (h + 12) (by omega)]
      refine z_iload_3 dX4_listenToSnores_2 ?_
      refine z_aload_0 dX4_listenToSnores_3 ?_
      refine z_getM 8 rfl (h + 5) f_X4_45 (hn.at 0 rfl) rfl h8 dX4_listenToSnores_4 ?_
      refine z_getI 6 rfl f_X4_60 (hh.at 5 rfl) rfl dX4_listenToSnores_7 ?_
      refine z_icmpge (tgt := 61) dX4_listenToSnores_10 (by decide) (fun h_10 => ?_) (fun h_10 => ?_)
      · exact z_vret dX4_listenToSnores_61 (⟨rfl, by unfold zL3; rw [show (zHV μ h 3 3).toNat = s by show (μ (h + 5) 6).toNat = s; omega]; exact hξ⟩)
      · have s1 : (s : Int) < μ (h + 5) 6 := by omega
        have e6 : ξ (h + 8) (s : Int) = zHV μ h 6 s := by rw [zHV_6 (by omega) s1, hrow (h + 8) (by omega)]
        have e8 : ξ (h + 10) (s : Int) = zHV μ h 8 s := by rw [zHV_8 (by omega) s1, hrow (h + 10) (by omega)]
        have e9 : ξ (h + 11) (s : Int) = zHV μ h 9 s := by rw [zHV_9 (by omega) s1, hrow (h + 11) (by omega)]
        have ps := ok.2.1.2 (s : Int) (by omega) s1
        have bc3 : zHV μ h 3 0 = μ (h + 1) 3 := rfl
        refine z_iload_2 dX4_listenToSnores_13 ?_
        refine z_iload_3 dX4_listenToSnores_14 ?_
        refine z_ishr dX4_listenToSnores_15 ?_
        refine z_iconst dX4_listenToSnores_16 (by decide) ?_
        refine z_iand dX4_listenToSnores_17 ?_
        rw [zBt_t hw (by omega) (by omega)]
        refine z_ifeq (tgt := 55) dX4_listenToSnores_18 (by decide) (fun h_18 => ?_) (fun h_18 => ?_)
        · replace h_18 := zb_0.mp h_18
          refine z_iinc_3 rfl dX4_listenToSnores_55 (by omega) ?_
          refine z_goto (tgt := 2) dX4_listenToSnores_58 (by decide) ?_
          exact z_weak (ls' := [zR n, zI (zHV μ h 9 i), zI w, zI ((s + 1 : Nat) : Int)]) ⟨Or.inl rfl, Or.inl rfl, Or.inl rfl, Or.inl rfl, trivial⟩ (ih2 (s + 1) ξ (by omega) (by rw [zfo_s, show zx3 (zHV μ h) t S i (s : Int) = 0 from zif_f h_18, zhr_0 (Int.le_trans h13 zfo_n)]; exact hξ) (by omega))
        · replace h_18 := zb_n.mp h_18
          have hl1 := lie (s : Int) (by omega) s1 h_18.1
          have px := ps
          refine z_aload_0 dX4_listenToSnores_21 ?_
          refine z_aload_0 dX4_listenToSnores_22 ?_
          refine z_getM 8 rfl (h + 5) f_X4_45 (hn.at 0 rfl) rfl h8 dX4_listenToSnores_23 ?_
          refine z_getF (h + 10) 5 rfl f_X4_161 (hh.at 5 rfl) rfl rfl dX4_listenToSnores_26 ?_
          refine z_iload_3 dX4_listenToSnores_29 ?_
          refine z_iald (hh.at 10 rfl) (by omega) (by omega) dX4_listenToSnores_30 ?_
          rw [e8]
          have hlo := zEa_l hE.1 ok bi.1 bi.2 (by omega) px.2.2.2.2.2
          rw [← hrow _ (by omega)] at hlo
          refine z_aload_0 dX4_listenToSnores_31 ?_
          refine z_getF (n + 15) 15 rfl f_X4_29 (hn.at 0 rfl) rfl rfl dX4_listenToSnores_32 ?_
          refine z_getF (n + 51) 36 rfl f_X4_158 (hn.at 15 rfl) rfl rfl dX4_listenToSnores_35 ?_
          refine z_aload_0 dX4_listenToSnores_38 ?_
          refine z_getM 8 rfl (h + 5) f_X4_45 (hn.at 0 rfl) rfl h8 dX4_listenToSnores_39 ?_
          refine z_getF (h + 11) 6 rfl f_X4_84 (hh.at 5 rfl) rfl rfl dX4_listenToSnores_42 ?_
          refine z_iload_3 dX4_listenToSnores_45 ?_
          refine z_iald (hh.at 11 rfl) (by omega) (by omega) dX4_listenToSnores_46 ?_
          rw [e9]
          refine z_row (n + 15 + 37 + (zHV μ h 9 (s : Int)).toNat) (by omega) (hn.at 51 rfl) (by omega) (by omega) dX4_listenToSnores_47 ?_
          refine z_iload_1 dX4_listenToSnores_48 ?_
          refine z_iald (zE_los he (by omega) (by omega)) (by omega) (by omega) dX4_listenToSnores_49 ?_
          refine z_isub dX4_listenToSnores_50 (by omega) ?_
          refine z_iload_3 dX4_listenToSnores_51 ?_
          refine z_callV2 (k_X4_hear hn) m_X4_hear (hn.at 0 rfl) l_X4_142 (Nat.le_of_ble_eq_true rfl) ⟨Nat.le_of_ble_eq_true rfl, Nat.le_of_ble_eq_true rfl⟩ ⟨rfl, rfl⟩ dX4_listenToSnores_52 (fun r μ1 hp => ?_)
          obtain ⟨rfl, hv⟩ := hp
          refine z_iinc_3 rfl dX4_listenToSnores_55 (by omega) ?_
          refine z_goto (tgt := 2) dX4_listenToSnores_58 (by decide) ?_
          exact z_weak (ls' := [zR n, zI (zHV μ h 9 i), zI w, zI ((s + 1 : Nat) : Int)]) ⟨Or.inl rfl, Or.inl rfl, Or.inl rfl, Or.inl rfl, trivial⟩ (ih2 (s + 1) μ1 (by omega) (by rw [hv, hlo.1, zhr_L (by rw [hξ, zhm_13]; exact Int.le_trans h13 zfo_n) (by omega), zfo_s, show zx3 (zHV μ h) t S i (s : Int) = zHs (zHV μ h) (zHV μ h 9 i) (zHV μ h 2 (zHV μ h 9 (s : Int))) (zHV μ h 8 (s : Int)) from zif_t h_18]; subst hξ; rw [zhm_2, zhm_13, zhm_14]; rfl) (by omega))
  refine z_iconst dX4_listenToSnores_0 (by decide) ?_
  refine z_istore_3 rfl dX4_listenToSnores_1 ?_
  exact L3 9 0 μ (by omega) zhm_s.symm (by omega)
