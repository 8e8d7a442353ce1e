set_option maxRecDepth 100000 in
set_option maxHeartbeats 4000000 in
theorem k_X4_listenToSteps {l : Launch} {E : zE} {w : Int} {n h : Nat} {μ : zM} {V : zM} {fan : Int} (hn : zAt zp4 n) (hh : zAt zp2 h) (hd : h + 22 ≤ n ∨ n + 78 ≤ h) (ok : zOK V) (np : zNp V fan μ n h) {i t : Int} (i0 : 0 ≤ i) (i1 : i < V 3 3) (ib : V 9 i ≠ -1) (hw : zBt w (V 3 3).toNat (fun s => zWa V t s ∧ s ≠ i)) (h13 : 0 ≤ μ n 13) : Ct l E yX4_listenToSteps cX4_listenToSteps 7 none ({ frames := 1, cells := 0, slots := 0, locals := 22 }) [zR n, zI (V 9 i), zI w, zI t] μ (fun r ν => r = none ∧ ν = zhm μ n (zL1 V t i (μ n 13, μ n 14))) := by
  refine Ct.of RX4 [zR n, zI (V 9 i), zI w, zI t, zU, zU, zU] (by decide +kernel) rfl ⟨rfl, rfl⟩ rfl (Nat.le_of_ble_eq_true rfl) (fun X hX hc0 ha0 => ?_)
  subst hX
  obtain ⟨h8, h9, rfl, hE⟩ := np
  obtain ⟨nb, nf, nd, npp, ns, nr⟩ := zOK_n ok
  have he : zAt zp0 (n + 15) := hn.sub 15 rfl
  have pp := ok.2.1.2 i i0 i1
  have bi : 0 ≤ zHV μ h 9 i ∧ zHV μ h 9 i < μ (h + 1) 3 := ⟨by omega, pp.2.2.2.2.2⟩
  have hN : h < 420 := zl_lt (hh.at 0 rfl) (by decide)
  have nN : n < 420 := zl_lt (hn.at 0 rfl) (by decide)
  have pc3 : (zHV μ h 3 3).toNat = (μ (h + 5) 6).toNat := rfl
  have L3 : ∀ (k : Nat) (s : Nat) (ξ : zM), (s : Int) ≤ μ (h + 5) 6 → ξ = zhm μ n (zfo (zx1 (zHV μ h) t i) (fun s => s) s (μ n 13, μ n 14)) → μ (h + 5) 6 - s < k → MW X E cX4_listenToSteps RX4 ({ frames := 1, cells := 0, slots := 0, locals := 22 }) none (fun r ν => r = none ∧ ν = zhm μ n (zL1 (zHV μ h) t i (μ n 13, μ n 14))) 3 [zR n, zI (zHV μ h 9 i), zI w, zI t, zI (s : Int), zU, zU] [] ξ := by
    intro k
    induction k with
    | zero => intro s ξ hs1 hξ h3; omega
    | succ k ih2 =>
      intro s ξ hs1 hξ h3
      have hrow : ∀ a, a ≠ n → ξ a = μ a := fun a ha => by rw [hξ]; exact zhm_row ha
      have hk : ∀ k, k ≠ 13 → k ≠ 14 → ξ n k = μ n k := fun k k1 k2 => by rw [hξ]; exact zhm_k k1 k2
      have h8 : ξ n 8 = ((h + 5 : Nat) : Int) := by rw [hk 8 (by decide) (by decide)]; exact h8
      have h9 : ξ n 9 = ((h + 12 : Nat) : Int) := by rw [hk 9 (by decide) (by decide)]; exact h9
      have hc6 : ξ (h + 5) 6 = μ (h + 5) 6 := by rw [hrow (h + 5) (by omega)]
      have hc5 : ξ (h + 12) 5 = μ (h + 12) 5 := by rw [hrow (h + 12) (by omega)]
      refine z_iload_4 dX4_listenToSteps_3 ?_
      refine z_aload_0 dX4_listenToSteps_5 ?_
      refine z_getM 8 rfl (h + 5) f_X4_45 (hn.at 0 rfl) rfl h8 dX4_listenToSteps_6 ?_
      refine z_getI 6 rfl f_X4_60 (hh.at 5 rfl) rfl dX4_listenToSteps_9 ?_
      refine z_icmpge (tgt := 107) dX4_listenToSteps_12 (by decide) (fun h_12 => ?_) (fun h_12 => ?_)
      · exact z_vret dX4_listenToSteps_107 (⟨rfl, by unfold zL1; rw [show (zHV μ h 3 3).toNat = s by show (μ (h + 5) 6).toNat = s; omega]; exact hξ⟩)
      · have s1 : (s : Int) < μ (h + 5) 6 := by omega
        have e6 : ξ (h + 8) (s : Int) = zHV μ h 6 s := by rw [zHV_6 (by omega) s1, hrow (h + 8) (by omega)]
        have e8 : ξ (h + 10) (s : Int) = zHV μ h 8 s := by rw [zHV_8 (by omega) s1, hrow (h + 10) (by omega)]
        have e9 : ξ (h + 11) (s : Int) = zHV μ h 9 s := by rw [zHV_9 (by omega) s1, hrow (h + 11) (by omega)]
        have ps := ok.2.1.2 (s : Int) (by omega) s1
        have bc3 : zHV μ h 3 0 = μ (h + 1) 3 := rfl
        refine z_iload_2 dX4_listenToSteps_15 ?_
        refine z_iload_4 dX4_listenToSteps_16 ?_
        refine z_ishr dX4_listenToSteps_18 ?_
        refine z_iconst dX4_listenToSteps_19 (by decide) ?_
        refine z_iand dX4_listenToSteps_20 ?_
        rw [zBt_t hw (by omega) (by omega)]
        refine z_ifeq (tgt := 101) dX4_listenToSteps_21 (by decide) (fun h_21 => ?_) (fun h_21 => ?_)
        · replace h_21 := zb_0.mp h_21
          refine z_iinc_4 rfl dX4_listenToSteps_101 (by omega) ?_
          refine z_goto (tgt := 3) dX4_listenToSteps_104 (by decide) ?_
          exact z_weak (ls' := [zR n, zI (zHV μ h 9 i), zI w, zI t, zI ((s + 1 : Nat) : Int), zU, zU]) ⟨Or.inl rfl, Or.inl rfl, Or.inl rfl, Or.inl rfl, Or.inl rfl, Or.inr rfl, Or.inr rfl, trivial⟩ (ih2 (s + 1) ξ (by omega) (by rw [zfo_s, show zx1 (zHV μ h) t i (s : Int) = 0 from zif_f h_21, zhr_0 (Int.le_trans h13 zfo_n)]; exact hξ) (by omega))
        · replace h_21 := zb_n.mp h_21
          have hl1 := h_21.1.1
          refine z_aload_0 dX4_listenToSteps_24 ?_
          refine z_getM 8 rfl (h + 5) f_X4_45 (hn.at 0 rfl) rfl h8 dX4_listenToSteps_25 ?_
          refine z_getF (h + 8) 3 rfl f_X4_87 (hh.at 5 rfl) rfl rfl dX4_listenToSteps_28 ?_
          refine z_iload_4 dX4_listenToSteps_31 ?_
          refine z_iald (hh.at 8 rfl) (by omega) (by omega) dX4_listenToSteps_33 ?_
          refine z_iload_3 dX4_listenToSteps_34 ?_
          refine z_icmpne (tgt := 42) dX4_listenToSteps_35 (by decide) (fun h_35 => ?_) (fun h_35 => ?_)
          · refine z_iconst dX4_listenToSteps_42 (by decide) ?_
            refine z_istore_5 rfl dX4_listenToSteps_43 ?_
            refine z_iload_5 dX4_listenToSteps_45 ?_
            refine z_ifeq (tgt := 71) dX4_listenToSteps_47 (by decide) (fun h_47 => ?_) (fun h_47 => ?_)
            · refine z_aload_0 dX4_listenToSteps_71 ?_
              refine z_getF (n + 15) 15 rfl f_X4_29 (hn.at 0 rfl) rfl rfl dX4_listenToSteps_72 ?_
              refine z_getF (n + 33) 18 rfl f_X4_139 (hn.at 15 rfl) rfl rfl dX4_listenToSteps_75 ?_
              refine z_aload_0 dX4_listenToSteps_78 ?_
              refine z_getM 8 rfl (h + 5) f_X4_45 (hn.at 0 rfl) rfl h8 dX4_listenToSteps_79 ?_
              refine z_getF (h + 11) 6 rfl f_X4_84 (hh.at 5 rfl) rfl rfl dX4_listenToSteps_82 ?_
              refine z_iload_4 dX4_listenToSteps_85 ?_
              refine z_iald (hh.at 11 rfl) (by omega) (by omega) dX4_listenToSteps_87 ?_
              refine z_row (n + 15 + 19 + (ξ (h + 11) (s : Int)).toNat) (by omega) (hn.at 33 rfl) (by omega) (by omega) dX4_listenToSteps_88 ?_
              refine z_astore_6 rfl dX4_listenToSteps_89 ?_
              refine z_aload_0 dX4_listenToSteps_91 ?_
              refine z_aload_6 dX4_listenToSteps_92 ?_
              refine z_iload_1 dX4_listenToSteps_94 ?_
              refine z_iald (zE_go he (by omega) (by omega)) (by omega) (by omega) dX4_listenToSteps_95 ?_
              refine z_iload_4 dX4_listenToSteps_96 ?_
              refine z_callV2 (k_X4_hear hn) m_X4_hear (hn.at 0 rfl) l_X4_142 (Nat.le_of_ble_eq_true rfl) ⟨Nat.le_of_ble_eq_true rfl, Nat.le_of_ble_eq_true rfl⟩ ⟨rfl, rfl⟩ dX4_listenToSteps_98 (fun r μ1 hp => ?_)
              obtain ⟨rfl, hv⟩ := hp
              refine z_iinc_4 rfl dX4_listenToSteps_101 (by omega) ?_
              refine z_goto (tgt := 3) dX4_listenToSteps_104 (by decide) ?_
              first
                | exact absurd h_47 (by decide)
                | exact absurd rfl h_47
                | (have hx : ξ (n + 15 + 19 + (ξ (h + 11) (s : Int)).toNat) (zHV μ h 9 i) = zx1 (zHV μ h) t i (s : Int) := by rw [hrow _ (by omega), e9, (hE.2.1 _ _ (by omega) (by omega) bi.1 bi.2).2]; unfold zx1; rw [zif_t h_21, zif_f (by rw [← e6]; exact h_35)]
                   exact z_weak (ls' := [zR n, zI (zHV μ h 9 i), zI w, zI t, zI ((s + 1 : Nat) : Int), zU, zU]) ⟨Or.inl rfl, Or.inl rfl, Or.inl rfl, Or.inl rfl, Or.inl rfl, Or.inr rfl, Or.inr rfl, trivial⟩ (ih2 (s + 1) μ1 (by omega) (by rw [hv, zfo_s, ← hx]; subst hξ; rw [zhm_2, zhm_13, zhm_14]) (by omega)))
            · refine z_aload_0 dX4_listenToSteps_50 ?_
              refine z_getF (n + 15) 15 rfl f_X4_29 (hn.at 0 rfl) rfl rfl dX4_listenToSteps_51 ?_
              refine z_getF (n + 26) 11 rfl f_X4_136 (hn.at 15 rfl) rfl rfl dX4_listenToSteps_54 ?_
              refine z_aload_0 dX4_listenToSteps_57 ?_
              refine z_getM 8 rfl (h + 5) f_X4_45 (hn.at 0 rfl) rfl h8 dX4_listenToSteps_58 ?_
              refine z_getF (h + 11) 6 rfl f_X4_84 (hh.at 5 rfl) rfl rfl dX4_listenToSteps_61 ?_
              refine z_iload_4 dX4_listenToSteps_64 ?_
              refine z_iald (hh.at 11 rfl) (by omega) (by omega) dX4_listenToSteps_66 ?_
              refine z_row (n + 15 + 12 + (ξ (h + 11) (s : Int)).toNat) (by omega) (hn.at 26 rfl) (by omega) (by omega) dX4_listenToSteps_67 ?_
              refine z_goto (tgt := 89) dX4_listenToSteps_68 (by decide) ?_
              refine z_astore_6 rfl dX4_listenToSteps_89 ?_
              refine z_aload_0 dX4_listenToSteps_91 ?_
              refine z_aload_6 dX4_listenToSteps_92 ?_
              refine z_iload_1 dX4_listenToSteps_94 ?_
              refine z_iald (zE_com he (by omega) (by omega)) (by omega) (by omega) dX4_listenToSteps_95 ?_
              refine z_iload_4 dX4_listenToSteps_96 ?_
              refine z_callV2 (k_X4_hear hn) m_X4_hear (hn.at 0 rfl) l_X4_142 (Nat.le_of_ble_eq_true rfl) ⟨Nat.le_of_ble_eq_true rfl, Nat.le_of_ble_eq_true rfl⟩ ⟨rfl, rfl⟩ dX4_listenToSteps_98 (fun r μ1 hp => ?_)
              obtain ⟨rfl, hv⟩ := hp
              refine z_iinc_4 rfl dX4_listenToSteps_101 (by omega) ?_
              refine z_goto (tgt := 3) dX4_listenToSteps_104 (by decide) ?_
              first
                | exact absurd h_47 (by decide)
                | exact absurd rfl h_47
                | (have hx : ξ (n + 15 + 12 + (ξ (h + 11) (s : Int)).toNat) (zHV μ h 9 i) = zx1 (zHV μ h) t i (s : Int) := by rw [hrow _ (by omega), e9, (hE.2.1 _ _ (by omega) (by omega) bi.1 bi.2).1]; unfold zx1; rw [zif_t h_21, zif_t (by rw [← e6]; exact h_35)]
                   exact z_weak (ls' := [zR n, zI (zHV μ h 9 i), zI w, zI t, zI ((s + 1 : Nat) : Int), zU, zU]) ⟨Or.inl rfl, Or.inl rfl, Or.inl rfl, Or.inl rfl, Or.inl rfl, Or.inr rfl, Or.inr rfl, trivial⟩ (ih2 (s + 1) μ1 (by omega) (by rw [hv, zfo_s, ← hx]; subst hξ; rw [zhm_2, zhm_13, zhm_14]) (by omega)))
          · refine z_iconst dX4_listenToSteps_38 (by decide) ?_
            refine z_goto (tgt := 43) dX4_listenToSteps_39 (by decide) ?_
            refine z_istore_5 rfl dX4_listenToSteps_43 ?_
            refine z_iload_5 dX4_listenToSteps_45 ?_
            refine z_ifeq (tgt := 71) dX4_listenToSteps_47 (by decide) (fun h_47 => ?_) (fun h_47 => ?_)
            · refine z_aload_0 dX4_listenToSteps_71 ?_
              refine z_getF (n + 15) 15 rfl f_X4_29 (hn.at 0 rfl) rfl rfl dX4_listenToSteps_72 ?_
              refine z_getF (n + 33) 18 rfl f_X4_139 (hn.at 15 rfl) rfl rfl dX4_listenToSteps_75 ?_
              refine z_aload_0 dX4_listenToSteps_78 ?_
              refine z_getM 8 rfl (h + 5) f_X4_45 (hn.at 0 rfl) rfl h8 dX4_listenToSteps_79 ?_
              refine z_getF (h + 11) 6 rfl f_X4_84 (hh.at 5 rfl) rfl rfl dX4_listenToSteps_82 ?_
              refine z_iload_4 dX4_listenToSteps_85 ?_
              refine z_iald (hh.at 11 rfl) (by omega) (by omega) dX4_listenToSteps_87 ?_
              refine z_row (n + 15 + 19 + (ξ (h + 11) (s : Int)).toNat) (by omega) (hn.at 33 rfl) (by omega) (by omega) dX4_listenToSteps_88 ?_
              refine z_astore_6 rfl dX4_listenToSteps_89 ?_
              refine z_aload_0 dX4_listenToSteps_91 ?_
              refine z_aload_6 dX4_listenToSteps_92 ?_
              refine z_iload_1 dX4_listenToSteps_94 ?_
              refine z_iald (zE_go he (by omega) (by omega)) (by omega) (by omega) dX4_listenToSteps_95 ?_
              refine z_iload_4 dX4_listenToSteps_96 ?_
              refine z_callV2 (k_X4_hear hn) m_X4_hear (hn.at 0 rfl) l_X4_142 (Nat.le_of_ble_eq_true rfl) ⟨Nat.le_of_ble_eq_true rfl, Nat.le_of_ble_eq_true rfl⟩ ⟨rfl, rfl⟩ dX4_listenToSteps_98 (fun r μ1 hp => ?_)
              obtain ⟨rfl, hv⟩ := hp
              refine z_iinc_4 rfl dX4_listenToSteps_101 (by omega) ?_
              refine z_goto (tgt := 3) dX4_listenToSteps_104 (by decide) ?_
              first
                | exact absurd h_47 (by decide)
                | exact absurd rfl h_47
                | (have hx : ξ (n + 15 + 19 + (ξ (h + 11) (s : Int)).toNat) (zHV μ h 9 i) = zx1 (zHV μ h) t i (s : Int) := by rw [hrow _ (by omega), e9, (hE.2.1 _ _ (by omega) (by omega) bi.1 bi.2).2]; unfold zx1; rw [zif_t h_21, zif_f (by rw [← e6]; exact h_35)]
                   exact z_weak (ls' := [zR n, zI (zHV μ h 9 i), zI w, zI t, zI ((s + 1 : Nat) : Int), zU, zU]) ⟨Or.inl rfl, Or.inl rfl, Or.inl rfl, Or.inl rfl, Or.inl rfl, Or.inr rfl, Or.inr rfl, trivial⟩ (ih2 (s + 1) μ1 (by omega) (by rw [hv, zfo_s, ← hx]; subst hξ; rw [zhm_2, zhm_13, zhm_14]) (by omega)))
            · refine z_aload_0 dX4_listenToSteps_50 ?_
              refine z_getF (n + 15) 15 rfl f_X4_29 (hn.at 0 rfl) rfl rfl dX4_listenToSteps_51 ?_
              refine z_getF (n + 26) 11 rfl f_X4_136 (hn.at 15 rfl) rfl rfl dX4_listenToSteps_54 ?_
              refine z_aload_0 dX4_listenToSteps_57 ?_
              refine z_getM 8 rfl (h + 5) f_X4_45 (hn.at 0 rfl) rfl h8 dX4_listenToSteps_58 ?_
              refine z_getF (h + 11) 6 rfl f_X4_84 (hh.at 5 rfl) rfl rfl dX4_listenToSteps_61 ?_
              refine z_iload_4 dX4_listenToSteps_64 ?_
              refine z_iald (hh.at 11 rfl) (by omega) (by omega) dX4_listenToSteps_66 ?_
              refine z_row (n + 15 + 12 + (ξ (h + 11) (s : Int)).toNat) (by omega) (hn.at 26 rfl) (by omega) (by omega) dX4_listenToSteps_67 ?_
              refine z_goto (tgt := 89) dX4_listenToSteps_68 (by decide) ?_
              refine z_astore_6 rfl dX4_listenToSteps_89 ?_
              refine z_aload_0 dX4_listenToSteps_91 ?_
              refine z_aload_6 dX4_listenToSteps_92 ?_
              refine z_iload_1 dX4_listenToSteps_94 ?_
              refine z_iald (zE_com he (by omega) (by omega)) (by omega) (by omega) dX4_listenToSteps_95 ?_
              refine z_iload_4 dX4_listenToSteps_96 ?_
              refine z_callV2 (k_X4_hear hn) m_X4_hear (hn.at 0 rfl) l_X4_142 (Nat.le_of_ble_eq_true rfl) ⟨Nat.le_of_ble_eq_true rfl, Nat.le_of_ble_eq_true rfl⟩ ⟨rfl, rfl⟩ dX4_listenToSteps_98 (fun r μ1 hp => ?_)
              obtain ⟨rfl, hv⟩ := hp
              refine z_iinc_4 rfl dX4_listenToSteps_101 (by omega) ?_
              refine z_goto (tgt := 3) dX4_listenToSteps_104 (by decide) ?_
              first
                | exact absurd h_47 (by decide)
                | exact absurd rfl h_47
                | (have hx : ξ (n + 15 + 12 + (ξ (h + 11) (s : Int)).toNat) (zHV μ h 9 i) = zx1 (zHV μ h) t i (s : Int) := by rw [hrow _ (by omega), e9, (hE.2.1 _ _ (by omega) (by omega) bi.1 bi.2).1]; unfold zx1; rw [zif_t h_21, zif_t (by rw [← e6]; exact h_35)]
                   exact z_weak (ls' := [zR n, zI (zHV μ h 9 i), zI w, zI t, zI ((s + 1 : Nat) : Int), zU, zU]) ⟨Or.inl rfl, Or.inl rfl, Or.inl rfl, Or.inl rfl, Or.inl rfl, Or.inr rfl, Or.inr rfl, trivial⟩ (ih2 (s + 1) μ1 (by omega) (by rw [hv, zfo_s, ← hx]; subst hξ; rw [zhm_2, zhm_13, zhm_14]) (by omega)))
  refine z_iconst dX4_listenToSteps_0 (by decide) ?_
  refine z_istore_4 rfl dX4_listenToSteps_1 ?_
  exact L3 9 0 μ (by omega) zhm_s.symm (by omega)
