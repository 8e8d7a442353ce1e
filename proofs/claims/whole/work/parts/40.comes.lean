def zR1 (μ : zM) (S : zM) (s : Int) : Prop := μ 403 s = S 0 s ∧ μ 406 s = S 3 s ∧ μ 408 s = S 4 s ∧ (S 0 s = 2 → μ 404 s = S 1 s) ∧ (S 0 s = 1 → μ 405 s = S 2 s) ∧ ∀ k, 0 ≤ k → k < S 4 s → 100 * μ 409 (40 * s + k) + μ 410 (40 * s + k) = S 10 (40 * s + k) ∧ 0 ≤ μ 410 (40 * s + k) ∧ μ 410 (40 * s + k) ≤ 17
def zRd (μ : zM) (S : zM) (s t : Int) : Prop := ∀ k, 0 ≤ k → k < t → μ 407 (40 * s + k) = S 11 (40 * s + k)
theorem zR1_cg {μ : zM} {S T : zM} {s : Int} (h : zR1 μ S s) (e0 : T 0 s = S 0 s) (e1 : S 0 s = 2 → T 1 s = S 1 s) (e2 : S 0 s = 1 → T 2 s = S 2 s) (e3 : T 3 s = S 3 s) (e4 : T 4 s = S 4 s) (e5 : ∀ k, 0 ≤ k → k < S 4 s → T 10 (40 * s + k) = S 10 (40 * s + k)) : zR1 μ T s := by
  obtain ⟨h0, h1, h2, h3, h4, h5⟩ := h
  refine ⟨h0.trans e0.symm, h1.trans e3.symm, h2.trans e4.symm, fun q => ?_, fun q => ?_, fun k k0 k1 => ?_⟩
  · rw [e0] at q; rw [h3 q, e1 q]
  · rw [e0] at q; rw [h4 q, e2 q]
  · rw [e4] at k1; rw [e5 k k0 k1]; exact h5 k k0 k1
theorem zR1_fr {μ ν : zM} {S : zM} {s : Int} (h : zR1 μ S s) (f0 : ν 403 s = μ 403 s) (f1 : ν 406 s = μ 406 s) (f2 : ν 408 s = μ 408 s) (f3 : ν 404 s = μ 404 s) (f4 : ν 405 s = μ 405 s) (f5 : ∀ k, 0 ≤ k → k < S 4 s → ν 409 (40 * s + k) = μ 409 (40 * s + k) ∧ ν 410 (40 * s + k) = μ 410 (40 * s + k)) : zR1 ν S s := by
  obtain ⟨h0, h1, h2, h3, h4, h5⟩ := h
  refine ⟨f0.trans h0, f1.trans h1, f2.trans h2, fun q => f3.trans (h3 q), fun q => f4.trans (h4 q), fun k k0 k1 => ?_⟩
  rw [(f5 k k0 k1).1, (f5 k k0 k1).2]; exact h5 k k0 k1
set_option maxRecDepth 100000 in
set_option maxHeartbeats 4000000 in
theorem k_X12_comes {l : Launch} {E : zE} {μ S : zM} {t : Int} {V : zM} (hV : zBV (μ 394) = V) (ok : zOK V) (far : zFar V (μ 402)) (hG : zNl V μ 0 (fun _ => (0, -1))) (hZ : ∀ s, 0 ≤ s → s < V 3 3 → zR1 μ S s) : Ct l E yX12_comes cX12_comes 3 none ({ frames := 3, cells := 0, slots := 0, locals := 76 }) [zR 393, zI t] μ (fun r ν => r = none ∧ zNl V ν 200 (fun j => zL1 V t j (0, -1)) ∧ (∀ s, 0 ≤ s → s < V 3 3 → zR1 ν (zZc V t S) s) ∧ (∀ k, k ≠ 31 → ν 393 k = μ 393 k) ∧ ∀ x : Nat, x ≠ 393 → x ≠ 403 → x ≠ 405 → (x < 411 ∨ 414 < x) → ν x = μ x) := by
  refine Ct.of RX12 [zR 393, zI t, zU] (by decide +kernel) rfl ⟨rfl, rfl⟩ rfl (Nat.le_of_ble_eq_true rfl) (fun X hX hc0 ha0 => ?_)
  subst hX
  have np0 := ok.2.1.1
  have L : ∀ (k : Nat) (s : Nat) (ξ : zM), (s : Int) ≤ V 3 3 → zNl V ξ (40 * (s : Int)) (fun j => zfo (zx1 V t j) (fun s => s) s (0, -1)) → (∀ x : Int, 0 ≤ x → x < s → zR1 ξ (zZc V t S) x) → (∀ x : Int, (s : Int) ≤ x → x < V 3 3 → zR1 ξ S x) → (∀ k, k ≠ 31 → ξ 393 k = μ 393 k) → (∀ x : Nat, x ≠ 393 → x ≠ 403 → x ≠ 405 → (x < 411 ∨ 414 < x) → ξ x = μ x) → V 3 3 - s < k → MW X E cX12_comes RX12 ({ frames := 3, cells := 0, slots := 0, locals := 76 }) none (fun r ν => r = none ∧ zNl V ν 200 (fun j => zL1 V t j (0, -1)) ∧ (∀ s, 0 ≤ s → s < V 3 3 → zR1 ν (zZc V t S) s) ∧ (∀ k, k ≠ 31 → ν 393 k = μ 393 k) ∧ ∀ x : Nat, x ≠ 393 → x ≠ 403 → x ≠ 405 → (x < 411 ∨ 414 < x) → ν x = μ x) 2 [zR 393, zI t, zI (s : Int)] [] ξ := by
    intro k
    induction k with
    | zero => intro s ξ hs1 hl hz1 hz2 hk hfr h3; omega
    | succ k ih =>
      intro s ξ hs1 hl hz1 hz2 hk hfr h3
      have h94 : ξ 394 = μ 394 := hfr 394 (by decide) (by decide) (by decide) (Or.inl (by decide))
      have hV2 : zBV (ξ 394) = V := by rw [h94]; exact hV
      have ok2 : zOK (zBV (ξ 394)) := by rw [hV2]; exact ok
      have far2 : zFar V (ξ 402) := by rw [show ξ 402 = μ 402 from hfr 402 (by decide) (by decide) (by decide) (Or.inl (by decide))]; exact far
      have hc2 : ξ 394 2 = V 3 3 := by rw [h94, ← hV]; rfl
      refine z_iload_2 dX12_comes_2 ?_
      refine z_aload_0 dX12_comes_3 ?_
      refine z_getF 394 1 rfl f_X12_7 zl_393 rfl rfl dX12_comes_4 ?_
      refine z_iconst dX12_comes_7 (by decide) ?_
      refine z_iald zl_394 (by omega) (by omega) dX12_comes_8 ?_
      refine z_icmpge (tgt := 113) dX12_comes_9 (by decide) (fun h_9 => ?_) (fun h_9 => ?_)
      · exact z_vret dX12_comes_113 (⟨rfl, zNl_cg hl (by have := ok.2.1.1; omega) (fun j j0 j1 jl => by unfold zL1; rw [show (V 3 3).toNat = s by omega]), fun x x0 x1 => hz1 x x0 (by omega), hk, hfr⟩)
      · have s1 : (s : Int) < V 3 3 := by omega
        have np := ok.2.1.1
        have ps := ok.2.1.2 (s : Int) (by omega) s1
        have zs := hz2 s (by omega) s1
        have m2 : μ 394 2 = V 3 3 := by rw [← hV]; rfl
        have m6 : μ 394 6 = V 3 2 := by rw [← hV]; rfl
        have e9 : μ 394 (90 + 6 * (s : Int) + 5) = V 9 s := by rw [← hV]; exact (zBV_9 (by omega) (by omega)).symm
        have e6 : μ 394 (90 + 6 * (s : Int) + 2) = V 6 s := by rw [← hV]; exact (zBV_6 (by omega) (by omega)).symm
        have e7 : μ 394 (90 + 6 * (s : Int) + 3) = V 7 s := by rw [← hV]; exact (zBV_7 (by omega) (by omega)).symm
        refine z_aload_0 dX12_comes_12 ?_
        refine z_iload_2 dX12_comes_13 ?_
        refine z_iconst dX12_comes_14 (by decide) ?_
        refine z_callV2 (k_X12_of (by omega) (by omega) (by decide) (by decide)) m_X12_of zl_393 l_X12_147 (Nat.le_of_ble_eq_true rfl) ⟨Nat.le_of_ble_eq_true rfl, Nat.le_of_ble_eq_true rfl⟩ ⟨rfl, rfl⟩ dX12_comes_15 (fun r μ1 hp => ?_)
        obtain ⟨rfl, hv⟩ := hp
        replace hv := hv.symm
        subst hv
        rw [h94, e9]
        refine z_iconst dX12_comes_18 (by decide) ?_
        refine z_icmpeq (tgt := 63) dX12_comes_19 (by decide) (fun h_19 => ?_) (fun h_19 => ?_)
        · have nw : ¬ zWa V t (s : Int) := fun z => z.1 h_19
          refine z_aload_0 dX12_comes_63 ?_
          refine z_iload_2 dX12_comes_64 ?_
          refine z_iconst dX12_comes_65 (by decide) ?_
          refine z_callV2 (k_X12_of (by omega) (by omega) (by decide) (by decide)) m_X12_of zl_393 l_X12_147 (Nat.le_of_ble_eq_true rfl) ⟨Nat.le_of_ble_eq_true rfl, Nat.le_of_ble_eq_true rfl⟩ ⟨rfl, rfl⟩ dX12_comes_66 (fun r μ1 hp => ?_)
          obtain ⟨rfl, hv⟩ := hp
          replace hv := hv.symm
          subst hv
          rw [h94, e9]
          refine z_iconst dX12_comes_69 (by decide) ?_
          refine z_icmpeq (tgt := 107) dX12_comes_70 (by decide) (fun h_70 => ?_) (fun h_70 => ?_)
          · refine z_iinc_2 rfl dX12_comes_107 (by omega) ?_
            refine z_goto (tgt := 2) dX12_comes_110 (by decide) ?_
            refine z_weak (ls' := [zR 393, zI t, zI ((s + 1 : Nat) : Int)]) ⟨Or.inl rfl, Or.inl rfl, Or.inl rfl, trivial⟩ (ih (s + 1) ξ (by omega) (zNl_cg hl (by omega) (fun j j0 j1 jl => ?_)) (fun x x0 x1 => ?_) (fun x x0 x1 => hz2 x (by omega) x1) hk hfr (by omega))
            · show zfo (zx1 V t j) (fun s => s) s (0, -1) = zhr (zfo (zx1 V t j) (fun s => s) s (0, -1)) (zx1 V t j s) s
              rw [show zx1 V t j (s : Int) = 0 from zif_f (fun q => nw q.1), zhr_0 (zNl_n hl j0 j1 jl)]
            · by_cases q : x = s
              · subst q
                have q1 : ¬ (V 9 (s : Int) ≠ -1 ∧ V 6 (s : Int) = t) := fun z => nw ⟨z.1, Or.inl z.2⟩
                have q2 : ¬ (V 9 (s : Int) ≠ -1 ∧ V 7 (s : Int) = t) := fun z => nw ⟨z.1, Or.inr z.2⟩
                exact zR1_cg zs (by rw [zZc_0, zif_f q1, zif_f q2]) (fun _ => rfl) (fun _ => by rw [zZc_2, zif_f q1]) rfl rfl (fun _ _ _ => rfl)
              · exact hz1 x x0 (by omega)
          · exact absurd h_70 (by omega)
        · refine z_aload_0 dX12_comes_22 ?_
          refine z_iload_2 dX12_comes_23 ?_
          refine z_iconst dX12_comes_24 (by decide) ?_
          refine z_callV2 (k_X12_of (by omega) (by omega) (by decide) (by decide)) m_X12_of zl_393 l_X12_147 (Nat.le_of_ble_eq_true rfl) ⟨Nat.le_of_ble_eq_true rfl, Nat.le_of_ble_eq_true rfl⟩ ⟨rfl, rfl⟩ dX12_comes_25 (fun r μ1 hp => ?_)
          obtain ⟨rfl, hv⟩ := hp
          replace hv := hv.symm
          subst hv
          rw [h94, e6]
          refine z_iload_1 dX12_comes_28 ?_
          refine z_icmpne (tgt := 63) dX12_comes_29 (by decide) (fun h_29 => ?_) (fun h_29 => ?_)
          · refine z_aload_0 dX12_comes_63 ?_
            refine z_iload_2 dX12_comes_64 ?_
            refine z_iconst dX12_comes_65 (by decide) ?_
            refine z_callV2 (k_X12_of (by omega) (by omega) (by decide) (by decide)) m_X12_of zl_393 l_X12_147 (Nat.le_of_ble_eq_true rfl) ⟨Nat.le_of_ble_eq_true rfl, Nat.le_of_ble_eq_true rfl⟩ ⟨rfl, rfl⟩ dX12_comes_66 (fun r μ1 hp => ?_)
            obtain ⟨rfl, hv⟩ := hp
            replace hv := hv.symm
            subst hv
            rw [h94, e9]
            refine z_iconst dX12_comes_69 (by decide) ?_
            refine z_icmpeq (tgt := 107) dX12_comes_70 (by decide) (fun h_70 => ?_) (fun h_70 => ?_)
            · exact absurd h_70 (by omega)
            · refine z_aload_0 dX12_comes_73 ?_
              refine z_iload_2 dX12_comes_74 ?_
              refine z_iconst dX12_comes_75 (by decide) ?_
              refine z_callV2 (k_X12_of (by omega) (by omega) (by decide) (by decide)) m_X12_of zl_393 l_X12_147 (Nat.le_of_ble_eq_true rfl) ⟨Nat.le_of_ble_eq_true rfl, Nat.le_of_ble_eq_true rfl⟩ ⟨rfl, rfl⟩ dX12_comes_76 (fun r μ1 hp => ?_)
              obtain ⟨rfl, hv⟩ := hp
              replace hv := hv.symm
              subst hv
              rw [h94, e7]
              refine z_iload_1 dX12_comes_79 ?_
              refine z_icmpne (tgt := 107) dX12_comes_80 (by decide) (fun h_80 => ?_) (fun h_80 => ?_)
              · refine z_iinc_2 rfl dX12_comes_107 (by omega) ?_
                refine z_goto (tgt := 2) dX12_comes_110 (by decide) ?_
                have nw : ¬ zWa V t (s : Int) := fun z => z.2.elim h_29 h_80
                refine z_weak (ls' := [zR 393, zI t, zI ((s + 1 : Nat) : Int)]) ⟨Or.inl rfl, Or.inl rfl, Or.inl rfl, trivial⟩ (ih (s + 1) ξ (by omega) (zNl_cg hl (by omega) (fun j j0 j1 jl => ?_)) (fun x x0 x1 => ?_) (fun x x0 x1 => hz2 x (by omega) x1) hk hfr (by omega))
                · show zfo (zx1 V t j) (fun s => s) s (0, -1) = zhr (zfo (zx1 V t j) (fun s => s) s (0, -1)) (zx1 V t j s) s
                  rw [show zx1 V t j (s : Int) = 0 from zif_f (fun q => nw q.1), zhr_0 (zNl_n hl j0 j1 jl)]
                · by_cases q : x = s
                  · subst q
                    have q1 : ¬ (V 9 (s : Int) ≠ -1 ∧ V 6 (s : Int) = t) := fun z => nw ⟨z.1, Or.inl z.2⟩
                    have q2 : ¬ (V 9 (s : Int) ≠ -1 ∧ V 7 (s : Int) = t) := fun z => nw ⟨z.1, Or.inr z.2⟩
                    exact zR1_cg zs (by rw [zZc_0, zif_f q1, zif_f q2]) (fun _ => rfl) (fun _ => by rw [zZc_2, zif_f q1]) rfl rfl (fun _ _ _ => rfl)
                  · exact hz1 x x0 (by omega)
              · have lb := zOK_bed ok (b := V 9 (s : Int)) (by omega) ps.2.2.2.2.2
                have lo := (ok.1.2.2.1 (V 9 (s : Int)) (by omega) ps.2.2.2.2.2).2.2
                have dr := ok.1.2.2.2.2
                refine z_aload_0 dX12_comes_83 ?_
                refine z_iload_2 dX12_comes_84 ?_
                refine z_aload_0 dX12_comes_85 ?_
                refine z_iload_2 dX12_comes_86 ?_
                refine z_callV1 (k_X12_bedCell (i := (s : Int)) (by omega) (by rw [hV2]; exact s1) ok2 (by rw [hV2]; exact h_19)) m_X12_bedCell zl_393 l_X12_272 (Nat.le_of_ble_eq_true rfl) ⟨Nat.le_of_ble_eq_true rfl, Nat.le_of_ble_eq_true rfl⟩ ⟨rfl, rfl⟩ dX12_comes_87 (fun r μ1 hp => ?_)
                obtain ⟨rfl, hv⟩ := hp
                replace hv := hv.symm
                subst hv
                rw [hV2]
                refine z_aload_0 dX12_comes_90 ?_
                refine z_getF 394 1 rfl f_X12_7 zl_393 rfl rfl dX12_comes_91 ?_
                refine z_bipush dX12_comes_94 (by decide) ?_
                refine z_iald zl_394 (by omega) (by omega) dX12_comes_96 ?_
                rw [h94, m6]
                refine z_callV3 (k_X12_steps (V := V) (G := (fun j => zfo (zx1 V t j) (fun s => s) s (0, -1))) hV2 ok far2 (by omega) (by omega) (by omega) (by omega) (by omega) (by omega) hl) m_X12_steps zl_393 l_X12_275 (Nat.le_of_ble_eq_true rfl) ⟨Nat.le_of_ble_eq_true rfl, Nat.le_of_ble_eq_true rfl⟩ ⟨rfl, rfl⟩ dX12_comes_97 (fun r μ1 hp => ?_)
                obtain ⟨rfl, hst, hk3, hfr3⟩ := hp
                obtain ⟨ζ, hζ9⟩ : ∃ z, z = μ1 := ⟨_, rfl⟩
                subst hζ9
                refine z_aload_0 dX12_comes_100 ?_
                refine z_getF 403 10 rfl f_X12_38 zl_393 rfl rfl dX12_comes_101 ?_
                refine z_iload_2 dX12_comes_104 ?_
                refine z_iconst dX12_comes_105 (by decide) ?_
                refine z_iast zl_403 (by omega) (by omega) dX12_comes_106 ?_
                refine z_iinc_2 rfl dX12_comes_107 (by omega) ?_
                refine z_goto (tgt := 2) dX12_comes_110 (by decide) ?_
                have nw : zWa V t (s : Int) := ⟨h_19, Or.inr h_80⟩
                generalize hζ4 : zup ζ 403 (s : Int) 0 = ζ4
                replace hζ4 := hζ4.symm
                have hfr4 : ∀ x : Nat, x ≠ 403 → x ≠ 405 → ζ4 x = ζ x := fun x x1 x2 => by rw [hζ4]; (repeat (first | rw [zup_eq] | rw [zup_row (by omega)] | rw [zup_ne (Or.inr (by omega))]))
                have hl4 : zNl V ζ4 (40 * (s : Int) + 40) (fun j => zhr (zfo (zx1 V t j) (fun s => s) s (0, -1)) (zif ((s : Int) = j) 0 (zWc V (V 9 j) (V 2 (V 9 (s : Int))) (V 3 2))) s) := zNl_fr hst (by rw [hfr4 393 (by decide) (by decide)]) (fun a a0 a1 => hfr4 a (by omega) (by omega))
                have ho : ∀ x, x ≠ (s : Int) → ∀ T, zR1 ξ T x → zR1 ζ4 T x := fun x xs T z => zR1_fr z (by rw [hζ4]; (repeat (first | rw [zup_eq] | rw [zup_row (by omega)] | rw [zup_ne (Or.inr (by omega))])); rw [hfr3 403 (by decide) (by decide)]) (by rw [hfr4 _ (by decide) (by decide), hfr3 _ (by decide) (by decide)]) (by rw [hfr4 _ (by decide) (by decide), hfr3 _ (by decide) (by decide)]) (by rw [hfr4 _ (by decide) (by decide), hfr3 _ (by decide) (by decide)]) (by rw [hζ4]; (repeat (first | rw [zup_eq] | rw [zup_row (by omega)] | rw [zup_ne (Or.inr (by omega))])); rw [hfr3 405 (by decide) (by decide)]) (fun k k0 k1 => by rw [hfr4 _ (by decide) (by decide), hfr4 _ (by decide) (by decide), hfr3 _ (by decide) (by decide), hfr3 _ (by decide) (by decide)]; exact ⟨rfl, rfl⟩)
                refine z_weak (ls' := [zR 393, zI t, zI ((s + 1 : Nat) : Int)]) ⟨Or.inl rfl, Or.inl rfl, Or.inl rfl, trivial⟩ (ih (s + 1) ζ4 (by omega) (zNl_cg hl4 (by omega) (fun j j0 j1 jl => ?_)) (fun x x0 x1 => ?_) (fun x x0 x1 => ho x (by omega) _ (hz2 x (by omega) x1)) (fun k k1 => by rw [hfr4 _ (by decide) (by decide), hk3 k k1]; exact hk k k1) (fun x x1 x2 x3 x4 => by rw [hfr4 x x2 x3, hfr3 x x1 x4]; exact hfr x x1 x2 x3 x4) (by omega))
                · show zhr (zfo (zx1 V t j) (fun s => s) s (0, -1)) (zif ((s : Int) = j) 0 (zWc V (V 9 j) (V 2 (V 9 (s : Int))) (V 3 2))) s = zhr (zfo (zx1 V t j) (fun s => s) s (0, -1)) (zx1 V t j s) s
                  unfold zx1
                  by_cases q : (s : Int) = j
                  · rw [zif_t q, zif_f (fun c => c.2 q)]
                  · rw [zif_f q, zif_t ⟨nw, q⟩, zif_f h_29]
                · by_cases q : x = s
                  · subst q
                    obtain ⟨g0, g1, g2, g3, g4, g5⟩ := zs
                    have q1 : ¬ (V 9 (s : Int) ≠ -1 ∧ V 6 (s : Int) = t) := fun z => h_29 z.2
                    have q2 : V 9 (s : Int) ≠ -1 ∧ V 7 (s : Int) = t := ⟨h_19, h_80⟩
                    exact ⟨by rw [zZc_0, zif_f q1, zif_t q2, hζ4]; (repeat (first | rw [zup_eq] | rw [zup_row (by omega)] | rw [zup_ne (Or.inr (by omega))])), by rw [zZc_3, ← g1, hfr4 _ (by decide) (by decide), hfr3 _ (by decide) (by decide)], by rw [zZc_4, ← g2, hfr4 _ (by decide) (by decide), hfr3 _ (by decide) (by decide)], fun z => absurd z (by rw [zZc_0, zif_f q1, zif_t q2]; decide), fun z => absurd z (by rw [zZc_0, zif_f q1, zif_t q2]; decide), fun k k0 k1 => by rw [zZc_10, hfr4 _ (by decide) (by decide), hfr4 _ (by decide) (by decide), hfr3 _ (by decide) (by decide), hfr3 _ (by decide) (by decide)]; exact g5 k k0 k1⟩
                  · exact ho x q _ (hz1 x x0 (by omega))
          · refine z_aload_0 dX12_comes_32 ?_
            refine z_iload_2 dX12_comes_33 ?_
            refine z_aload_0 dX12_comes_34 ?_
            refine z_getF 394 1 rfl f_X12_7 zl_393 rfl rfl dX12_comes_35 ?_
            refine z_bipush dX12_comes_38 (by decide) ?_
            refine z_iald zl_394 (by omega) (by omega) dX12_comes_40 ?_
            rw [h94, m6]
            have lb := zOK_bed ok (b := V 9 (s : Int)) (by omega) ps.2.2.2.2.2
            have lo := (ok.1.2.2.1 (V 9 (s : Int)) (by omega) ps.2.2.2.2.2).2.2
            have dr := ok.1.2.2.2.2
            refine z_aload_0 dX12_comes_41 ?_
            refine z_iload_2 dX12_comes_42 ?_
            refine z_callV1 (k_X12_bedCell (i := (s : Int)) (by omega) (by rw [hV2]; exact s1) ok2 (by rw [hV2]; exact h_19)) m_X12_bedCell zl_393 l_X12_272 (Nat.le_of_ble_eq_true rfl) ⟨Nat.le_of_ble_eq_true rfl, Nat.le_of_ble_eq_true rfl⟩ ⟨rfl, rfl⟩ dX12_comes_43 (fun r μ1 hp => ?_)
            obtain ⟨rfl, hv⟩ := hp
            replace hv := hv.symm
            subst hv
            rw [hV2]
            refine z_callV3 (k_X12_steps (V := V) (G := (fun j => zfo (zx1 V t j) (fun s => s) s (0, -1))) hV2 ok far2 (by omega) (by omega) (by omega) (by omega) (by omega) (by omega) hl) m_X12_steps zl_393 l_X12_275 (Nat.le_of_ble_eq_true rfl) ⟨Nat.le_of_ble_eq_true rfl, Nat.le_of_ble_eq_true rfl⟩ ⟨rfl, rfl⟩ dX12_comes_46 (fun r μ1 hp => ?_)
            obtain ⟨rfl, hst, hk3, hfr3⟩ := hp
            obtain ⟨ζ, hζ9⟩ : ∃ z, z = μ1 := ⟨_, rfl⟩
            subst hζ9
            refine z_aload_0 dX12_comes_49 ?_
            refine z_getF 403 10 rfl f_X12_38 zl_393 rfl rfl dX12_comes_50 ?_
            refine z_iload_2 dX12_comes_53 ?_
            refine z_iconst dX12_comes_54 (by decide) ?_
            refine z_iast zl_403 (by omega) (by omega) dX12_comes_55 ?_
            refine z_aload_0 dX12_comes_56 ?_
            refine z_getF 405 12 rfl f_X12_44 zl_393 rfl rfl dX12_comes_57 ?_
            refine z_iload_2 dX12_comes_60 ?_
            refine z_iconst dX12_comes_61 (by decide) ?_
            refine z_iast zl_405 (by omega) (by omega) dX12_comes_62 ?_
            generalize hζ4 : zup (zup ζ 403 (s : Int) 1) 405 (s : Int) 0 = ζ4
            replace hζ4 := hζ4.symm
            have h95 : ζ4 394 = μ 394 := by rw [hζ4, zup_row (by decide), zup_row (by decide), hfr3 394 (by decide) (Or.inl (by decide))]; exact h94
            refine z_aload_0 dX12_comes_63 ?_
            refine z_iload_2 dX12_comes_64 ?_
            refine z_iconst dX12_comes_65 (by decide) ?_
            refine z_callV2 (k_X12_of (by omega) (by omega) (by decide) (by decide)) m_X12_of zl_393 l_X12_147 (Nat.le_of_ble_eq_true rfl) ⟨Nat.le_of_ble_eq_true rfl, Nat.le_of_ble_eq_true rfl⟩ ⟨rfl, rfl⟩ dX12_comes_66 (fun r μ1 hp => ?_)
            obtain ⟨rfl, hv⟩ := hp
            replace hv := hv.symm
            subst hv
            rw [h95, e9]
            refine z_iconst dX12_comes_69 (by decide) ?_
            refine z_icmpeq (tgt := 107) dX12_comes_70 (by decide) (fun h_70 => ?_) (fun h_70 => ?_)
            · exact absurd h_70 (by omega)
            · refine z_aload_0 dX12_comes_73 ?_
              refine z_iload_2 dX12_comes_74 ?_
              refine z_iconst dX12_comes_75 (by decide) ?_
              refine z_callV2 (k_X12_of (by omega) (by omega) (by decide) (by decide)) m_X12_of zl_393 l_X12_147 (Nat.le_of_ble_eq_true rfl) ⟨Nat.le_of_ble_eq_true rfl, Nat.le_of_ble_eq_true rfl⟩ ⟨rfl, rfl⟩ dX12_comes_76 (fun r μ1 hp => ?_)
              obtain ⟨rfl, hv⟩ := hp
              replace hv := hv.symm
              subst hv
              rw [h95, e7]
              refine z_iload_1 dX12_comes_79 ?_
              refine z_icmpne (tgt := 107) dX12_comes_80 (by decide) (fun h_80 => ?_) (fun h_80 => ?_)
              · refine z_iinc_2 rfl dX12_comes_107 (by omega) ?_
                refine z_goto (tgt := 2) dX12_comes_110 (by decide) ?_
                have nw : zWa V t (s : Int) := ⟨h_19, Or.inl h_29⟩
                have hfr4 : ∀ x : Nat, x ≠ 403 → x ≠ 405 → ζ4 x = ζ x := fun x x1 x2 => by rw [hζ4]; (repeat (first | rw [zup_eq] | rw [zup_row (by omega)] | rw [zup_ne (Or.inr (by omega))]))
                have hl4 : zNl V ζ4 (40 * (s : Int) + 40) (fun j => zhr (zfo (zx1 V t j) (fun s => s) s (0, -1)) (zif ((s : Int) = j) 0 (zWc V (V 9 j) (V 3 2) (V 2 (V 9 (s : Int))))) s) := zNl_fr hst (by rw [hfr4 393 (by decide) (by decide)]) (fun a a0 a1 => hfr4 a (by omega) (by omega))
                have ho : ∀ x, x ≠ (s : Int) → ∀ T, zR1 ξ T x → zR1 ζ4 T x := fun x xs T z => zR1_fr z (by rw [hζ4]; (repeat (first | rw [zup_eq] | rw [zup_row (by omega)] | rw [zup_ne (Or.inr (by omega))])); rw [hfr3 403 (by decide) (by decide)]) (by rw [hfr4 _ (by decide) (by decide), hfr3 _ (by decide) (by decide)]) (by rw [hfr4 _ (by decide) (by decide), hfr3 _ (by decide) (by decide)]) (by rw [hfr4 _ (by decide) (by decide), hfr3 _ (by decide) (by decide)]) (by rw [hζ4]; (repeat (first | rw [zup_eq] | rw [zup_row (by omega)] | rw [zup_ne (Or.inr (by omega))])); rw [hfr3 405 (by decide) (by decide)]) (fun k k0 k1 => by rw [hfr4 _ (by decide) (by decide), hfr4 _ (by decide) (by decide), hfr3 _ (by decide) (by decide), hfr3 _ (by decide) (by decide)]; exact ⟨rfl, rfl⟩)
                refine z_weak (ls' := [zR 393, zI t, zI ((s + 1 : Nat) : Int)]) ⟨Or.inl rfl, Or.inl rfl, Or.inl rfl, trivial⟩ (ih (s + 1) ζ4 (by omega) (zNl_cg hl4 (by omega) (fun j j0 j1 jl => ?_)) (fun x x0 x1 => ?_) (fun x x0 x1 => ho x (by omega) _ (hz2 x (by omega) x1)) (fun k k1 => by rw [hfr4 _ (by decide) (by decide), hk3 k k1]; exact hk k k1) (fun x x1 x2 x3 x4 => by rw [hfr4 x x2 x3, hfr3 x x1 x4]; exact hfr x x1 x2 x3 x4) (by omega))
                · show zhr (zfo (zx1 V t j) (fun s => s) s (0, -1)) (zif ((s : Int) = j) 0 (zWc V (V 9 j) (V 3 2) (V 2 (V 9 (s : Int))))) s = zhr (zfo (zx1 V t j) (fun s => s) s (0, -1)) (zx1 V t j s) s
                  unfold zx1
                  by_cases q : (s : Int) = j
                  · rw [zif_t q, zif_f (fun c => c.2 q)]
                  · rw [zif_f q, zif_t ⟨nw, q⟩, zif_t h_29]
                · by_cases q : x = s
                  · subst q
                    obtain ⟨g0, g1, g2, g3, g4, g5⟩ := zs
                    have q1 : V 9 (s : Int) ≠ -1 ∧ V 6 (s : Int) = t := ⟨h_19, h_29⟩
                    exact ⟨by rw [zZc_0, zif_t q1, hζ4]; (repeat (first | rw [zup_eq] | rw [zup_row (by omega)] | rw [zup_ne (Or.inr (by omega))])), by rw [zZc_3, ← g1, hfr4 _ (by decide) (by decide), hfr3 _ (by decide) (by decide)], by rw [zZc_4, ← g2, hfr4 _ (by decide) (by decide), hfr3 _ (by decide) (by decide)], fun z => absurd z (by rw [zZc_0, zif_t q1]; decide), fun _ => by rw [zZc_2, zif_t q1, hζ4]; (repeat (first | rw [zup_eq] | rw [zup_row (by omega)] | rw [zup_ne (Or.inr (by omega))])), fun k k0 k1 => by rw [zZc_10, hfr4 _ (by decide) (by decide), hfr4 _ (by decide) (by decide), hfr3 _ (by decide) (by decide), hfr3 _ (by decide) (by decide)]; exact g5 k k0 k1⟩
                  · exact ho x q _ (hz1 x x0 (by omega))
              · exact absurd h_80 (by omega)
  refine z_iconst dX12_comes_0 (by decide) ?_
  refine z_istore_2 rfl dX12_comes_1 ?_
  exact L 9 0 μ (by omega) (zNl_cg hG (by omega) (fun j j0 j1 jl => rfl)) (fun x x0 x1 => by omega) (fun x x0 x1 => hZ x (by omega) x1) (fun _ _ => rfl) (fun _ _ _ _ _ => rfl) (by omega)
set_option maxRecDepth 100000 in
set_option maxHeartbeats 4000000 in
theorem k_X12_snores {l : Launch} {E : zE} {μ S : zM} {t : Int} {G : Int → Int × Int} {V : zM} (hV : zBV (μ 394) = V) (ok : zOK V) (far : zFar V (μ 402)) (t1 : t < 40) (hG : zNl V μ 208 G) (hZ : ∀ s, 0 ≤ s → s < V 3 3 → zR1 μ S s) (hI : ∀ s, 0 ≤ s → s < V 3 3 → zZi V t S s) : Ct l E yX12_snores cX12_snores 3 none ({ frames := 2, cells := 0, slots := 0, locals := 43 }) [zR 393, zI t] μ (fun r ν => r = none ∧ zNl V ν 213 (fun j => zL3 V t S j (G j)) ∧ (∀ k, k ≠ 31 → ν 393 k = μ 393 k) ∧ ∀ x : Nat, x ≠ 393 → (x < 411 ∨ 414 < x) → ν x = μ x) := by
  refine Ct.of RX12 [zR 393, zI t, zU] (by decide +kernel) rfl ⟨rfl, rfl⟩ rfl (Nat.le_of_ble_eq_true rfl) (fun X hX hc0 ha0 => ?_)
  subst hX
  have np0 := ok.2.1.1
  have L : ∀ (k : Nat) (s : Nat) (ξ : zM), (s : Int) ≤ V 3 3 → zNl V ξ (208 + (s : Int)) (fun j => zfo (zx3 V t S j) (fun s => s) s (G j)) → (∀ k, k ≠ 31 → ξ 393 k = μ 393 k) → (∀ x : Nat, x ≠ 393 → (x < 411 ∨ 414 < x) → ξ x = μ x) → V 3 3 - s < k → MW X E cX12_snores RX12 ({ frames := 2, cells := 0, slots := 0, locals := 43 }) none (fun r ν => r = none ∧ zNl V ν 213 (fun j => zL3 V t S j (G j)) ∧ (∀ k, k ≠ 31 → ν 393 k = μ 393 k) ∧ ∀ x : Nat, x ≠ 393 → (x < 411 ∨ 414 < x) → ν x = μ x) 2 [zR 393, zI t, zI (s : Int)] [] ξ := by
    intro k
    induction k with
    | zero => intro s ξ hs1 hl hk hfr h3; omega
    | succ k ih =>
      intro s ξ hs1 hl hk hfr h3
      have h94 : ξ 394 = μ 394 := hfr 394 (by decide) (Or.inl (by decide))
      have hV2 : zBV (ξ 394) = V := by rw [h94]; exact hV
      have ok2 : zOK (zBV (ξ 394)) := by rw [hV2]; exact ok
      have far2 : zFar V (ξ 402) := by rw [show ξ 402 = μ 402 from hfr 402 (by decide) (Or.inl (by decide))]; exact far
      have hc2 : ξ 394 2 = V 3 3 := by rw [h94, ← hV]; rfl
      refine z_iload_2 dX12_snores_2 ?_
      refine z_aload_0 dX12_snores_3 ?_
      refine z_getF 394 1 rfl f_X12_7 zl_393 rfl rfl dX12_snores_4 ?_
      refine z_iconst dX12_snores_7 (by decide) ?_
      refine z_iald zl_394 (by omega) (by omega) dX12_snores_8 ?_
      refine z_icmpge (tgt := 69) dX12_snores_9 (by decide) (fun h_9 => ?_) (fun h_9 => ?_)
      · exact z_vret dX12_snores_69 (⟨rfl, zNl_cg hl (by have := ok.2.1.1; omega) (fun j j0 j1 jl => by unfold zL3; rw [show (V 3 3).toNat = s by omega]), hk, hfr⟩)
      · have s1 : (s : Int) < V 3 3 := by omega
        have np := ok.2.1.1
        have ps := ok.2.1.2 (s : Int) (by omega) s1
        have zs := hZ s (by omega) s1
        have zi := hI s (by omega) s1
        have m2 : μ 394 2 = V 3 3 := by rw [← hV]; rfl
        have g0 : ξ 403 (s : Int) = S 0 s := by rw [hfr 403 (by decide) (Or.inl (by decide))]; exact zs.1
        have e8 : μ 394 (90 + 6 * (s : Int) + 4) = V 8 s := by rw [← hV]; exact (zBV_8 (by omega) (by omega)).symm
        refine z_aload_0 dX12_snores_12 ?_
        refine z_getF 403 10 rfl f_X12_38 zl_393 rfl rfl dX12_snores_13 ?_
        refine z_iload_2 dX12_snores_16 ?_
        refine z_iald zl_403 (by omega) (by omega) dX12_snores_17 ?_
        rw [g0]
        refine z_iconst dX12_snores_18 (by decide) ?_
        refine z_icmpne (tgt := 63) dX12_snores_19 (by decide) (fun h_19 => ?_) (fun h_19 => ?_)
        · refine z_iinc_2 rfl dX12_snores_63 (by omega) ?_
          refine z_goto (tgt := 2) dX12_snores_66 (by decide) ?_
          refine z_weak (ls' := [zR 393, zI t, zI ((s + 1 : Nat) : Int)]) ⟨Or.inl rfl, Or.inl rfl, Or.inl rfl, trivial⟩ (ih (s + 1) ξ (by omega) (zNl_cg hl (by omega) (fun j j0 j1 jl => ?_)) hk hfr (by omega))
          show zfo (zx3 V t S j) (fun s => s) s (G j) = zhr (zfo (zx3 V t S j) (fun s => s) s (G j)) (zx3 V t S j s) s
          rw [show zx3 V t S j (s : Int) = 0 from zif_f (fun q => h_19 q.1.1), zhr_0 (zNl_n hl j0 j1 jl)]
        · have g3 : ξ 404 (s : Int) = S 1 s := by rw [hfr 404 (by decide) (Or.inl (by decide))]; exact zs.2.2.2.1 h_19
          have z1 := zi.2.2.2.1 h_19
          refine z_iload_1 dX12_snores_22 ?_
          refine z_aload_0 dX12_snores_23 ?_
          refine z_getF 404 11 rfl f_X12_41 zl_393 rfl rfl dX12_snores_24 ?_
          refine z_iload_2 dX12_snores_27 ?_
          refine z_iald zl_404 (by omega) (by omega) dX12_snores_28 ?_
          rw [g3]
          refine z_isub dX12_snores_29 (by omega) ?_
          refine z_callS1 (k_X12_deepOf (by omega)) m_X12_deepOf l_X12_279 (Nat.le_of_ble_eq_true rfl) ⟨Nat.le_of_ble_eq_true rfl, Nat.le_of_ble_eq_true rfl⟩ ⟨rfl, rfl⟩ dX12_snores_30 (fun r μ1 hp => ?_)
          obtain ⟨rfl, hv⟩ := hp
          replace hv := hv.symm
          subst hv
          refine z_iconst dX12_snores_33 (by decide) ?_
          refine z_icmplt (tgt := 63) dX12_snores_34 (by decide) (fun h_34 => ?_) (fun h_34 => ?_)
          · refine z_iinc_2 rfl dX12_snores_63 (by omega) ?_
            refine z_goto (tgt := 2) dX12_snores_66 (by decide) ?_
            refine z_weak (ls' := [zR 393, zI t, zI ((s + 1 : Nat) : Int)]) ⟨Or.inl rfl, Or.inl rfl, Or.inl rfl, trivial⟩ (ih (s + 1) ξ (by omega) (zNl_cg hl (by omega) (fun j j0 j1 jl => ?_)) hk hfr (by omega))
            show zfo (zx3 V t S j) (fun s => s) s (G j) = zhr (zfo (zx3 V t S j) (fun s => s) s (G j)) (zx3 V t S j s) s
            rw [show zx3 V t S j (s : Int) = 0 from zif_f (fun q => by have := q.1.2; omega), zhr_0 (zNl_n hl j0 j1 jl)]
          · refine z_aload_0 dX12_snores_37 ?_
            refine z_iload_2 dX12_snores_38 ?_
            refine z_iconst dX12_snores_39 (by decide) ?_
            refine z_callV2 (k_X12_of (by omega) (by omega) (by decide) (by decide)) m_X12_of zl_393 l_X12_147 (Nat.le_of_ble_eq_true rfl) ⟨Nat.le_of_ble_eq_true rfl, Nat.le_of_ble_eq_true rfl⟩ ⟨rfl, rfl⟩ dX12_snores_40 (fun r μ1 hp => ?_)
            obtain ⟨rfl, hv⟩ := hp
            replace hv := hv.symm
            subst hv
            rw [h94, e8]
            refine z_ifle (tgt := 63) dX12_snores_43 (by decide) (fun h_43 => ?_) (fun h_43 => ?_)
            · refine z_iinc_2 rfl dX12_snores_63 (by omega) ?_
              refine z_goto (tgt := 2) dX12_snores_66 (by decide) ?_
              refine z_weak (ls' := [zR 393, zI t, zI ((s + 1 : Nat) : Int)]) ⟨Or.inl rfl, Or.inl rfl, Or.inl rfl, trivial⟩ (ih (s + 1) ξ (by omega) (zNl_cg hl (by omega) (fun j j0 j1 jl => ?_)) hk hfr (by omega))
              show zfo (zx3 V t S j) (fun s => s) s (G j) = zhr (zfo (zx3 V t S j) (fun s => s) s (G j)) (zx3 V t S j s) s
              rw [show zx3 V t S j (s : Int) = 0 from (by
                  unfold zx3
                  by_cases q : zSn S t (s : Int) ∧ (s : Int) ≠ j
                  · rw [zif_t q]
                    have v0 : V 8 (s : Int) = 0 := by omega
                    have c0 := ok.1.2.2.2.1
                    have lb := zOK_bed ok (b := V 9 j) (by have := (ok.2.1.2 j j0 j1).2.2.2.2.1; omega) (ok.2.1.2 j j0 j1).2.2.2.2.2
                    have sb := zOK_bed ok (b := V 9 (s : Int)) (by have := zi.2.1 (by omega); omega) ps.2.2.2.2.2
                    have db := zDM_b (zFar_d far lb.1 lb.2) sb.1 sb.2
                    have := zFd_b (v := V 8 (s : Int)) db.1 c0 (by omega)
                    unfold zHs
                    omega
                  · exact zif_f q), zhr_0 (zNl_n hl j0 j1 jl)]
            · refine z_aload_0 dX12_snores_46 ?_
              refine z_aload_0 dX12_snores_47 ?_
              refine z_iload_2 dX12_snores_48 ?_
              refine z_callV1 (k_X12_bedCell (i := (s : Int)) (by omega) (by rw [hV2]; exact s1) ok2 (by rw [hV2]; exact zi.2.1 (by omega))) m_X12_bedCell zl_393 l_X12_272 (Nat.le_of_ble_eq_true rfl) ⟨Nat.le_of_ble_eq_true rfl, Nat.le_of_ble_eq_true rfl⟩ ⟨rfl, rfl⟩ dX12_snores_49 (fun r μ1 hp => ?_)
              obtain ⟨rfl, hv⟩ := hp
              replace hv := hv.symm
              subst hv
              rw [hV2]
              refine z_aload_0 dX12_snores_52 ?_
              refine z_iload_2 dX12_snores_53 ?_
              refine z_iconst dX12_snores_54 (by decide) ?_
              refine z_callV2 (k_X12_of (by omega) (by omega) (by decide) (by decide)) m_X12_of zl_393 l_X12_147 (Nat.le_of_ble_eq_true rfl) ⟨Nat.le_of_ble_eq_true rfl, Nat.le_of_ble_eq_true rfl⟩ ⟨rfl, rfl⟩ dX12_snores_55 (fun r μ1 hp => ?_)
              obtain ⟨rfl, hv⟩ := hp
              replace hv := hv.symm
              subst hv
              rw [h94, e8]
              have hN := hl.1
              have lb := zOK_bed ok (b := V 9 (s : Int)) (by have := zi.2.1 (by omega); omega) ps.2.2.2.2.2
              have hs := zNl_s (c := V 2 (V 9 (s : Int))) (v := V 8 (s : Int)) (b := s) (o := s) hl lb ⟨by omega, by omega⟩
              refine z_iload_2 dX12_snores_58 ?_
              refine z_iload_2 dX12_snores_59 ?_
              refine z_callV4 (k_X12_noise (by omega)) m_X12_noise zl_393 l_X12_268 (Nat.le_of_ble_eq_true rfl) ⟨Nat.le_of_ble_eq_true rfl, Nat.le_of_ble_eq_true rfl⟩ ⟨rfl, rfl⟩ dX12_snores_60 (fun r μ1 hp => ?_)
              obtain ⟨rfl, rfl⟩ := hp
              refine z_iinc_2 rfl dX12_snores_63 (by omega) ?_
              refine z_goto (tgt := 2) dX12_snores_66 (by decide) ?_
              refine z_weak (ls' := [zR 393, zI t, zI ((s + 1 : Nat) : Int)]) ⟨Or.inl rfl, Or.inl rfl, Or.inl rfl, trivial⟩ (ih (s + 1) _ (by omega) (zNl_cg hs (by omega) (fun j j0 j1 jl => ?_)) (fun k k1 => by rw [zNs_k k1]; exact hk k k1) (fun x x1 x2 => by rw [zNs_fr x1 x2]; exact hfr x x1 x2) (by omega))
              show zhr (zfo (zx3 V t S j) (fun s => s) s (G j)) (zif ((s : Int) = j) 0 (zFd (V 8 s) (zWk V (V 2 (V 9 j)) (V 2 (V 9 s))) (V 3 1))) s = zhr (zfo (zx3 V t S j) (fun s => s) s (G j)) (zx3 V t S j s) s
              unfold zx3
              by_cases q : (s : Int) = j
              · rw [zif_t q, zif_f (fun c => c.2 q)]
              · rw [zif_f q, zif_t ⟨⟨h_19, by omega⟩, q⟩]; rfl
  refine z_iconst dX12_snores_0 (by decide) ?_
  refine z_istore_2 rfl dX12_snores_1 ?_
  exact L 9 0 μ (by omega) (zNl_cg hG (by omega) (fun j j0 j1 jl => rfl)) (fun _ _ => rfl) (fun _ _ _ => rfl) (by omega)
