set_option maxRecDepth 100000 in
set_option maxHeartbeats 4000000 in
theorem k_X12_sounds {l : Launch} {E : zE} {μ S : zM} {t : Int} {G : Int → Int × Int} {V : zM} (hV : zBV (μ 394) = V) (ok : zOK V) (far : zFar V (μ 402)) (t0 : 0 ≤ t) (t1 : t < 40) (hG : zNl V μ 200 G) (hZ : ∀ s, 0 ≤ s → s < V 3 3 → zR1 μ S s) : Ct l E yX12_sounds cX12_sounds 9 none ({ frames := 2, cells := 0, slots := 0, locals := 43 }) [zR 393, zI t] μ (fun r ν => r = none ∧ zNl V ν 208 (fun j => zL2 V t S j (G j)) ∧ (∀ k, k ≠ 31 → ν 393 k = μ 393 k) ∧ ∀ x : Nat, x ≠ 393 → (x < 411 ∨ 414 < x) → ν x = μ x) := by
  refine Ct.of RX12 [zR 393, zI t, zU, zU, zU, zU, zU, zU, zU] (by decide +kernel) rfl ⟨rfl, rfl⟩ rfl (Nat.le_of_ble_eq_true rfl) (fun X hX hc0 ha0 => ?_)
  subst hX
  have np0 := ok.2.2.1.1
  have L : ∀ (k : Nat) (s : Nat) (ξ : zM), (s : Int) ≤ V 3 4 → zNl V ξ (200 + (s : Int)) (fun j => zfo (zx2 V t S j) (zy2 V) s (G j)) → (∀ k, k ≠ 31 → ξ 393 k = μ 393 k) → (∀ x : Nat, x ≠ 393 → (x < 411 ∨ 414 < x) → ξ x = μ x) → V 3 4 - s < k → MW X E cX12_sounds RX12 ({ frames := 2, cells := 0, slots := 0, locals := 43 }) none (fun r ν => r = none ∧ zNl V ν 208 (fun j => zL2 V t S j (G j)) ∧ (∀ k, k ≠ 31 → ν 393 k = μ 393 k) ∧ ∀ x : Nat, x ≠ 393 → (x < 411 ∨ 414 < x) → ν x = μ x) 2 [zR 393, zI t, zI (s : Int), zU, zU, zU, zU, zU, zU] [] ξ := by
    intro k
    induction k with
    | zero => intro s ξ hs1 hl hk hfr h3; omega
    | succ k ih =>
      intro s ξ hs1 hl hk hfr h3
      have h94 : ξ 394 = μ 394 := hfr 394 (by decide) (Or.inl (by decide))
      have hV2 : zBV (ξ 394) = V := by rw [h94]; exact hV
      have ok2 : zOK (zBV (ξ 394)) := by rw [hV2]; exact ok
      have far2 : zFar V (ξ 402) := by rw [show ξ 402 = μ 402 from hfr 402 (by decide) (Or.inl (by decide))]; exact far
      have hc3 : ξ 394 3 = V 3 4 := by rw [h94, ← hV]; rfl
      refine z_iload_2 dX12_sounds_2 ?_
      refine z_aload_0 dX12_sounds_3 ?_
      refine z_getF 394 1 rfl f_X12_7 zl_393 rfl rfl dX12_sounds_4 ?_
      refine z_iconst dX12_sounds_7 (by decide) ?_
      refine z_iald zl_394 (by omega) (by omega) dX12_sounds_8 ?_
      refine z_icmpge (tgt := 267) dX12_sounds_9 (by decide) (fun h_9 => ?_) (fun h_9 => ?_)
      · exact z_vret dX12_sounds_267 (⟨rfl, zNl_cg hl (by have := ok.2.2.1.1; omega) (fun j j0 j1 jl => by unfold zL2; rw [show (V 3 4).toNat = s by omega]), hk, hfr⟩)
      · have s1 : (s : Int) < V 3 4 := by omega
        have np := ok.2.1.1
        have nsn := ok.2.2.1.1
        have so := ok.2.2.1.2 (s : Int) (by omega) s1
        have m2 : μ 394 2 = V 3 3 := by rw [← hV]; rfl
        have e9a : ∀ x, 0 ≤ x → x < V 3 3 → μ 394 (90 + 6 * x + 5) = V 9 x := fun x x0 x1 => by rw [← hV]; exact (zBV_9 x0 (by rw [← hV] at x1; exact x1)).symm
        have m3 : μ 394 3 = V 3 4 := by rw [← hV]; rfl
        have e10 : μ 394 (120 + 5 * (s : Int)) = V 10 s := by rw [← hV]; exact (zBV_10 (by omega) (by omega)).symm
        have e11 : μ 394 (120 + 5 * (s : Int) + 1) = V 11 s := by rw [← hV]; exact (zBV_11 (by omega) (by omega)).symm
        have e12 : μ 394 (120 + 5 * (s : Int) + 2) = V 12 s := by rw [← hV]; exact (zBV_12 (by omega) (by omega)).symm
        have e13 : μ 394 (120 + 5 * (s : Int) + 3) = V 13 s := by rw [← hV]; exact (zBV_13 (by omega) (by omega)).symm
        have e14 : μ 394 (120 + 5 * (s : Int) + 4) = V 14 s := by rw [← hV]; exact (zBV_14 (by omega) (by omega)).symm
        have J224 : ∀ (ζ : zM) (u7 u8 : Int), ((V 10 (s : Int) = 0 ∧ zNl V ζ (200 + ((s + 1 : Nat) : Int)) (fun j => zfo (zx2 V t S j) (zy2 V) (s + 1) (G j))) ∨ (V 10 (s : Int) ≠ 0 ∧ zNl V ζ (200 + (s : Int)) (fun j => zfo (zx2 V t S j) (zy2 V) s (G j)))) → (∀ k, k ≠ 31 → ζ 393 k = μ 393 k) → (∀ x : Nat, x ≠ 393 → (x < 411 ∨ 414 < x) → ζ x = μ x) → (u7 ≠ 0 ↔ (1 ≤ V 10 (s : Int) ∧ V 10 (s : Int) ≤ 3 ∧ V 9 (V 11 (s : Int)) ≠ -1)) → (u8 ≠ 0 ↔ ((V 10 (s : Int) = 1 ∧ (t - V 12 (s : Int)).tmod 4 = 0) ∨ (V 10 (s : Int) = 2 ∧ S 0 (V 11 (s : Int)) = 1) ∨ (V 10 (s : Int) = 3 ∧ t = V 12 (s : Int)))) → MW X E cX12_sounds RX12 ({ frames := 2, cells := 0, slots := 0, locals := 43 }) none (fun r ν => r = none ∧ zNl V ν 208 (fun j => zL2 V t S j (G j)) ∧ (∀ k, k ≠ 31 → ν 393 k = μ 393 k) ∧ ∀ x : Nat, x ≠ 393 → (x < 411 ∨ 414 < x) → ν x = μ x) 224 [zR 393, zI t, zI (s : Int), zI (120 + 5 * (s : Int)), zI (V 10 (s : Int)), zI (V 11 (s : Int)), zI (zb (V 12 (s : Int) ≤ t ∧ t ≤ V 13 (s : Int))), zI u7, zI u8] [] ζ := by
          intro ζ u7 u8 hZ2 hkz hfz hu7 hu8
          have h94z : ζ 394 = μ 394 := hfz 394 (by decide) (Or.inl (by decide))
          have hVz : zBV (ζ 394) = V := by rw [h94z]; exact hV
          have okz : zOK (zBV (ζ 394)) := by rw [hVz]; exact ok
          have farz : zFar V (ζ 402) := by rw [show ζ 402 = μ 402 from hfz 402 (by decide) (Or.inl (by decide))]; exact far
          refine z_iload_7 dX12_sounds_224 ?_
          refine z_ifeq (tgt := 261) dX12_sounds_226 (by decide) (fun h_226 => ?_) (fun h_226 => ?_)
          · refine z_iinc_2 rfl dX12_sounds_261 (by omega) ?_
            refine z_goto (tgt := 2) dX12_sounds_264 (by decide) ?_
            refine z_weak (ls' := [zR 393, zI t, zI ((s + 1 : Nat) : Int), zU, zU, zU, zU, zU, zU]) ⟨Or.inl rfl, Or.inl rfl, Or.inl rfl, Or.inr rfl, Or.inr rfl, Or.inr rfl, Or.inr rfl, Or.inr rfl, Or.inr rfl, trivial⟩ (ih (s + 1) ζ (by omega) ?_ hkz hfz (by omega))
            rcases hZ2 with ⟨_, q⟩ | ⟨k0, q⟩
            · exact q
            · refine zNl_cg q (by omega) (fun j j0 j1 jl => ?_)
              show zfo (zx2 V t S j) (zy2 V) s (G j) = zhr (zfo (zx2 V t S j) (zy2 V) s (G j)) (zx2 V t S j s) (zy2 V s)
              have hno : ¬ (zDu V s t ∧ V 11 (s : Int) ≠ j ∧ V 9 (V 11 (s : Int)) ≠ -1 ∧ (V 10 (s : Int) = 2 → S 0 (V 11 (s : Int)) = 1)) := fun c => by
                obtain ⟨d, -, c2, c3⟩ := c
                exact absurd (hu7.mpr ⟨by omega, by have := d.2.2.2.2; omega, c2⟩) (by omega)
              have e : zx2 V t S j (s : Int) = 0 := by
                unfold zx2
                by_cases d : zDu V s t
                · rw [zif_t d, zif_f k0, zif_f (fun c => hno ⟨d, c⟩)]
                · rw [zif_f d]
              rw [e, zhr_0 (zNl_n q j0 j1 jl)]
          · refine z_iload_6 dX12_sounds_229 ?_
            refine z_ifeq (tgt := 261) dX12_sounds_231 (by decide) (fun h_231 => ?_) (fun h_231 => ?_)
            · skip
              refine z_iinc_2 rfl dX12_sounds_261 (by omega) ?_
              refine z_goto (tgt := 2) dX12_sounds_264 (by decide) ?_
              refine z_weak (ls' := [zR 393, zI t, zI ((s + 1 : Nat) : Int), zU, zU, zU, zU, zU, zU]) ⟨Or.inl rfl, Or.inl rfl, Or.inl rfl, Or.inr rfl, Or.inr rfl, Or.inr rfl, Or.inr rfl, Or.inr rfl, Or.inr rfl, trivial⟩ (ih (s + 1) ζ (by omega) ?_ hkz hfz (by omega))
              rcases hZ2 with ⟨_, q⟩ | ⟨k0, q⟩
              · exact q
              · refine zNl_cg q (by omega) (fun j j0 j1 jl => ?_)
                show zfo (zx2 V t S j) (zy2 V) s (G j) = zhr (zfo (zx2 V t S j) (zy2 V) s (G j)) (zx2 V t S j s) (zy2 V s)
                have hno : ¬ (zDu V s t ∧ V 11 (s : Int) ≠ j ∧ V 9 (V 11 (s : Int)) ≠ -1 ∧ (V 10 (s : Int) = 2 → S 0 (V 11 (s : Int)) = 1)) := fun c => by
                  obtain ⟨d, -, c2, c3⟩ := c
                  exact zb_0.mp h_231 ⟨d.1, d.2.1⟩
                have e : zx2 V t S j (s : Int) = 0 := by
                  unfold zx2
                  by_cases d : zDu V s t
                  · rw [zif_t d, zif_f k0, zif_f (fun c => hno ⟨d, c⟩)]
                  · rw [zif_f d]
                rw [e, zhr_0 (zNl_n q j0 j1 jl)]
            · replace h_231 := zb_n.mp h_231
              refine z_iload_8 dX12_sounds_234 ?_
              refine z_ifeq (tgt := 261) dX12_sounds_236 (by decide) (fun h_236 => ?_) (fun h_236 => ?_)
              · refine z_iinc_2 rfl dX12_sounds_261 (by omega) ?_
                refine z_goto (tgt := 2) dX12_sounds_264 (by decide) ?_
                refine z_weak (ls' := [zR 393, zI t, zI ((s + 1 : Nat) : Int), zU, zU, zU, zU, zU, zU]) ⟨Or.inl rfl, Or.inl rfl, Or.inl rfl, Or.inr rfl, Or.inr rfl, Or.inr rfl, Or.inr rfl, Or.inr rfl, Or.inr rfl, trivial⟩ (ih (s + 1) ζ (by omega) ?_ hkz hfz (by omega))
                rcases hZ2 with ⟨_, q⟩ | ⟨k0, q⟩
                · exact q
                · refine zNl_cg q (by omega) (fun j j0 j1 jl => ?_)
                  show zfo (zx2 V t S j) (zy2 V) s (G j) = zhr (zfo (zx2 V t S j) (zy2 V) s (G j)) (zx2 V t S j s) (zy2 V s)
                  have hno : ¬ (zDu V s t ∧ V 11 (s : Int) ≠ j ∧ V 9 (V 11 (s : Int)) ≠ -1 ∧ (V 10 (s : Int) = 2 → S 0 (V 11 (s : Int)) = 1)) := fun c => by
                    obtain ⟨d, -, c2, c3⟩ := c
                    refine absurd (hu8.mpr ?_) (by omega)
                    rcases (by have := d.2.2.2.2; omega : V 10 (s : Int) = 1 ∨ V 10 (s : Int) = 2 ∨ V 10 (s : Int) = 3) with e | e | e
                    · have m := d.2.2.1 e
                      have d1 := d.1
                      exact Or.inl ⟨e, by rw [Int.tmod_eq_emod_of_nonneg (by omega)]; exact m⟩
                    · exact Or.inr (Or.inl ⟨e, c3 e⟩)
                    · exact Or.inr (Or.inr ⟨e, d.2.2.2.1 e⟩)
                  have e : zx2 V t S j (s : Int) = 0 := by
                    unfold zx2
                    by_cases d : zDu V s t
                    · rw [zif_t d, zif_f k0, zif_f (fun c => hno ⟨d, c⟩)]
                    · rw [zif_f d]
                  rw [e, zhr_0 (zNl_n q j0 j1 jl)]
              · have hsl := hu7.mp h_226
                have hnw := hu8.mp h_236
                have hq : zNl V ζ (200 + (s : Int)) (fun j => zfo (zx2 V t S j) (zy2 V) s (G j)) := hZ2.elim (fun q => absurd q.1 (by omega)) (fun q => q.2)
                have x0 := so.2.2.1 hsl.1 hsl.2.1
                have hdu : zDu V (s : Int) t := ⟨h_231.1, h_231.2, fun e => by
                  have h1 := h_231.1
                  have m : (t - V 12 (s : Int)).tmod 4 = 0 := by omega
                  rw [Int.tmod_eq_emod_of_nonneg (by omega)] at m
                  exact m, fun e => by omega, by omega⟩
                have px := ok.2.1.2 (V 11 (s : Int)) x0.1 x0.2
                have lb := zOK_bed ok (b := V 9 (V 11 (s : Int))) (by have := hsl.2.2; omega) px.2.2.2.2.2
                refine z_aload_0 dX12_sounds_239 ?_
                refine z_aload_0 dX12_sounds_240 ?_
                refine z_iload_5 dX12_sounds_241 ?_
                refine z_callV1 (k_X12_bedCell (i := V 11 (s : Int)) x0.1 (by rw [hVz]; exact x0.2) okz (by rw [hVz]; exact hsl.2.2)) m_X12_bedCell zl_393 l_X12_272 (Nat.le_of_ble_eq_true rfl) ⟨Nat.le_of_ble_eq_true rfl, Nat.le_of_ble_eq_true rfl⟩ ⟨rfl, rfl⟩ dX12_sounds_243 (fun r μ1 hp => ?_)
                obtain ⟨rfl, hv⟩ := hp
                replace hv := hv.symm
                subst hv
                rw [hVz]
                refine z_aload_0 dX12_sounds_246 ?_
                refine z_getF 394 1 rfl f_X12_7 zl_393 rfl rfl dX12_sounds_247 ?_
                refine z_iload_3 dX12_sounds_250 ?_
                refine z_iconst dX12_sounds_251 (by decide) ?_
                refine z_iadd dX12_sounds_252 (by omega) ?_
                refine z_iald zl_394 (by omega) (by omega) dX12_sounds_253 ?_
                rw [h94z, e14]
                have hN := hq.1
                have hs := zNl_s (c := V 2 (V 9 (V 11 (s : Int)))) (v := V 14 (s : Int)) (b := V 11 (s : Int)) (o := V 11 (s : Int)) hq lb ⟨by omega, by omega⟩
                refine z_iload_5 dX12_sounds_254 ?_
                refine z_iload_5 dX12_sounds_256 ?_
                refine z_callV4 (k_X12_noise (by omega)) m_X12_noise zl_393 l_X12_268 (Nat.le_of_ble_eq_true rfl) ⟨Nat.le_of_ble_eq_true rfl, Nat.le_of_ble_eq_true rfl⟩ ⟨rfl, rfl⟩ dX12_sounds_258 (fun r μ1 hp => ?_)
                obtain ⟨rfl, rfl⟩ := hp
                refine z_iinc_2 rfl dX12_sounds_261 (by omega) ?_
                refine z_goto (tgt := 2) dX12_sounds_264 (by decide) ?_
                refine z_weak (ls' := [zR 393, zI t, zI ((s + 1 : Nat) : Int), zU, zU, zU, zU, zU, zU]) ⟨Or.inl rfl, Or.inl rfl, Or.inl rfl, Or.inr rfl, Or.inr rfl, Or.inr rfl, Or.inr rfl, Or.inr rfl, Or.inr rfl, trivial⟩ (ih (s + 1) _ (by omega) (zNl_cg hs (by omega) (fun j j0 j1 jl => ?_)) (fun k k1 => by rw [zNs_k k1]; exact hkz k k1) (fun x x1 x2 => by rw [zNs_fr x1 x2]; exact hfz x x1 x2) (by omega))
                show zhr (zfo (zx2 V t S j) (zy2 V) s (G j)) (zif (V 11 (s : Int) = j) 0 (zFd (V 14 s) (zWk V (V 2 (V 9 j)) (V 2 (V 9 (V 11 (s : Int))))) (V 3 1))) (V 11 (s : Int)) = zhr (zfo (zx2 V t S j) (zy2 V) s (G j)) (zx2 V t S j s) (zy2 V s)
                have ey : zy2 V (s : Int) = V 11 (s : Int) := zif_f (by omega)
                have ex : zx2 V t S j (s : Int) = zif (V 11 (s : Int) = j) 0 (zFd (V 14 s) (zWk V (V 2 (V 9 j)) (V 2 (V 9 (V 11 (s : Int))))) (V 3 1)) := by
                  unfold zx2
                  rw [zif_t hdu, zif_f (by omega)]
                  by_cases q : V 11 (s : Int) = j
                  · rw [zif_t q, zif_f (fun c => c.1 q)]
                  · rw [zif_f q, zif_t ⟨q, hsl.2.2, fun e => by omega⟩]; rfl
                rw [ey, ex]
        have J135 : ∀ (ζ : zM) (u7 : Int), ((V 10 (s : Int) = 0 ∧ zNl V ζ (200 + ((s + 1 : Nat) : Int)) (fun j => zfo (zx2 V t S j) (zy2 V) (s + 1) (G j))) ∨ (V 10 (s : Int) ≠ 0 ∧ zNl V ζ (200 + (s : Int)) (fun j => zfo (zx2 V t S j) (zy2 V) s (G j)))) → (∀ k, k ≠ 31 → ζ 393 k = μ 393 k) → (∀ x : Nat, x ≠ 393 → (x < 411 ∨ 414 < x) → ζ x = μ x) → (u7 ≠ 0 ↔ (1 ≤ V 10 (s : Int) ∧ V 10 (s : Int) ≤ 3 ∧ V 9 (V 11 (s : Int)) ≠ -1)) → MW X E cX12_sounds RX12 ({ frames := 2, cells := 0, slots := 0, locals := 43 }) none (fun r ν => r = none ∧ zNl V ν 208 (fun j => zL2 V t S j (G j)) ∧ (∀ k, k ≠ 31 → ν 393 k = μ 393 k) ∧ ∀ x : Nat, x ≠ 393 → (x < 411 ∨ 414 < x) → ν x = μ x) 135 [zR 393, zI t, zI (s : Int), zI (120 + 5 * (s : Int)), zI (V 10 (s : Int)), zI (V 11 (s : Int)), zI (zb (V 12 (s : Int) ≤ t ∧ t ≤ V 13 (s : Int))), zI u7, zU] [] ζ := by
          intro ζ u7 hZ2 hkz hfz hu7
          have h94z : ζ 394 = μ 394 := hfz 394 (by decide) (Or.inl (by decide))
          have hVz : zBV (ζ 394) = V := by rw [h94z]; exact hV
          have okz : zOK (zBV (ζ 394)) := by rw [hVz]; exact ok
          have farz : zFar V (ζ 402) := by rw [show ζ 402 = μ 402 from hfz 402 (by decide) (Or.inl (by decide))]; exact far
          have g0 : ∀ x, 0 ≤ x → x < V 3 3 → ζ 403 x = S 0 x := fun x x0 x1 => by rw [hfz 403 (by decide) (Or.inl (by decide))]; exact (hZ x x0 x1).1
          refine z_iload_4 dX12_sounds_135 ?_
          refine z_iconst dX12_sounds_137 (by decide) ?_
          refine z_icmpne (tgt := 164) dX12_sounds_138 (by decide) (fun h_138 => ?_) (fun h_138 => ?_)
          · refine z_iload_4 dX12_sounds_164 ?_
            refine z_iconst dX12_sounds_166 (by decide) ?_
            refine z_icmpne (tgt := 199) dX12_sounds_167 (by decide) (fun h_167 => ?_) (fun h_167 => ?_)
            · refine z_iload_4 dX12_sounds_199 ?_
              refine z_iconst dX12_sounds_201 (by decide) ?_
              refine z_icmpne (tgt := 221) dX12_sounds_202 (by decide) (fun h_202 => ?_) (fun h_202 => ?_)
              · refine z_iconst dX12_sounds_221 (by decide) ?_
                refine z_istore_8 rfl dX12_sounds_222 ?_
                first
                  | exact J224 ζ u7 _ hZ2 hkz hfz hu7 ⟨fun _ => by first | exact Or.inl ⟨by omega, by omega⟩ | exact Or.inr (Or.inl ⟨by omega, by omega⟩) | exact Or.inr (Or.inr ⟨by omega, by omega⟩), fun _ => by decide⟩
                  | exact J224 ζ u7 _ hZ2 hkz hfz hu7 ⟨fun q => absurd rfl q, fun q => by omega⟩
                  | exact absurd rfl (by assumption)
                  | (exfalso; omega)
              · refine z_iload_1 dX12_sounds_205 ?_
                refine z_aload_0 dX12_sounds_206 ?_
                refine z_getF 394 1 rfl f_X12_7 zl_393 rfl rfl dX12_sounds_207 ?_
                refine z_iload_3 dX12_sounds_210 ?_
                refine z_iconst dX12_sounds_211 (by decide) ?_
                refine z_iadd dX12_sounds_212 (by omega) ?_
                refine z_iald zl_394 (by omega) (by omega) dX12_sounds_213 ?_
                rw [h94z, e12]
                refine z_icmpne (tgt := 221) dX12_sounds_214 (by decide) (fun h_214 => ?_) (fun h_214 => ?_)
                · refine z_iconst dX12_sounds_221 (by decide) ?_
                  refine z_istore_8 rfl dX12_sounds_222 ?_
                  first
                    | exact J224 ζ u7 _ hZ2 hkz hfz hu7 ⟨fun _ => by first | exact Or.inl ⟨by omega, by omega⟩ | exact Or.inr (Or.inl ⟨by omega, by omega⟩) | exact Or.inr (Or.inr ⟨by omega, by omega⟩), fun _ => by decide⟩
                    | exact J224 ζ u7 _ hZ2 hkz hfz hu7 ⟨fun q => absurd rfl q, fun q => by omega⟩
                    | exact absurd rfl (by assumption)
                    | (exfalso; omega)
                · refine z_iconst dX12_sounds_217 (by decide) ?_
                  refine z_goto (tgt := 222) dX12_sounds_218 (by decide) ?_
                  refine z_istore_8 rfl dX12_sounds_222 ?_
                  first
                    | exact J224 ζ u7 _ hZ2 hkz hfz hu7 ⟨fun _ => by first | exact Or.inl ⟨by omega, by omega⟩ | exact Or.inr (Or.inl ⟨by omega, by omega⟩) | exact Or.inr (Or.inr ⟨by omega, by omega⟩), fun _ => by decide⟩
                    | exact J224 ζ u7 _ hZ2 hkz hfz hu7 ⟨fun q => absurd rfl q, fun q => by omega⟩
                    | exact absurd rfl (by assumption)
                    | (exfalso; omega)
            · have xr := so.2.2.1 (by omega) (by omega)
              refine z_aload_0 dX12_sounds_170 ?_
              refine z_getF 403 10 rfl f_X12_38 zl_393 rfl rfl dX12_sounds_171 ?_
              refine z_iload_4 dX12_sounds_174 ?_
              refine z_iconst dX12_sounds_176 (by decide) ?_
              refine z_icmpne (tgt := 185) dX12_sounds_177 (by decide) (fun h_177 => ?_) (fun h_177 => ?_)
              · refine z_iconst dX12_sounds_185 (by decide) ?_
                refine z_iald zl_403 (by omega) (by omega) dX12_sounds_186 ?_
                rw [g0 _ (by omega) (by omega)]
                refine z_iconst dX12_sounds_187 (by decide) ?_
                refine z_icmpne (tgt := 195) dX12_sounds_188 (by decide) (fun h_188 => ?_) (fun h_188 => ?_)
                · refine z_iconst dX12_sounds_195 (by decide) ?_
                  refine z_goto (tgt := 222) dX12_sounds_196 (by decide) ?_
                  refine z_istore_8 rfl dX12_sounds_222 ?_
                  first
                    | exact J224 ζ u7 _ hZ2 hkz hfz hu7 ⟨fun _ => by first | exact Or.inl ⟨by omega, by omega⟩ | exact Or.inr (Or.inl ⟨by omega, by omega⟩) | exact Or.inr (Or.inr ⟨by omega, by omega⟩), fun _ => by decide⟩
                    | exact J224 ζ u7 _ hZ2 hkz hfz hu7 ⟨fun q => absurd rfl q, fun q => by omega⟩
                    | exact absurd rfl (by assumption)
                    | (exfalso; omega)
                · refine z_iconst dX12_sounds_191 (by decide) ?_
                  refine z_goto (tgt := 222) dX12_sounds_192 (by decide) ?_
                  refine z_istore_8 rfl dX12_sounds_222 ?_
                  first
                    | exact J224 ζ u7 _ hZ2 hkz hfz hu7 ⟨fun _ => by first | exact Or.inl ⟨by omega, by omega⟩ | exact Or.inr (Or.inl ⟨by omega, by omega⟩) | exact Or.inr (Or.inr ⟨by omega, by omega⟩), fun _ => by decide⟩
                    | exact J224 ζ u7 _ hZ2 hkz hfz hu7 ⟨fun q => absurd rfl q, fun q => by omega⟩
                    | exact absurd rfl (by assumption)
                    | (exfalso; omega)
              · refine z_iload_5 dX12_sounds_180 ?_
                refine z_goto (tgt := 186) dX12_sounds_182 (by decide) ?_
                refine z_iald zl_403 (by omega) (by omega) dX12_sounds_186 ?_
                rw [g0 _ (by omega) (by omega)]
                refine z_iconst dX12_sounds_187 (by decide) ?_
                refine z_icmpne (tgt := 195) dX12_sounds_188 (by decide) (fun h_188 => ?_) (fun h_188 => ?_)
                · refine z_iconst dX12_sounds_195 (by decide) ?_
                  refine z_goto (tgt := 222) dX12_sounds_196 (by decide) ?_
                  refine z_istore_8 rfl dX12_sounds_222 ?_
                  first
                    | exact J224 ζ u7 _ hZ2 hkz hfz hu7 ⟨fun _ => by first | exact Or.inl ⟨by omega, by omega⟩ | exact Or.inr (Or.inl ⟨by omega, by omega⟩) | exact Or.inr (Or.inr ⟨by omega, by omega⟩), fun _ => by decide⟩
                    | exact J224 ζ u7 _ hZ2 hkz hfz hu7 ⟨fun q => absurd rfl q, fun q => by omega⟩
                    | exact absurd rfl (by assumption)
                    | (exfalso; omega)
                · refine z_iconst dX12_sounds_191 (by decide) ?_
                  refine z_goto (tgt := 222) dX12_sounds_192 (by decide) ?_
                  refine z_istore_8 rfl dX12_sounds_222 ?_
                  first
                    | exact J224 ζ u7 _ hZ2 hkz hfz hu7 ⟨fun _ => by first | exact Or.inl ⟨by omega, by omega⟩ | exact Or.inr (Or.inl ⟨by omega, by omega⟩) | exact Or.inr (Or.inr ⟨by omega, by omega⟩), fun _ => by decide⟩
                    | exact J224 ζ u7 _ hZ2 hkz hfz hu7 ⟨fun q => absurd rfl q, fun q => by omega⟩
                    | exact absurd rfl (by assumption)
                    | (exfalso; omega)
          · refine z_iload_1 dX12_sounds_141 ?_
            refine z_aload_0 dX12_sounds_142 ?_
            refine z_getF 394 1 rfl f_X12_7 zl_393 rfl rfl dX12_sounds_143 ?_
            refine z_iload_3 dX12_sounds_146 ?_
            refine z_iconst dX12_sounds_147 (by decide) ?_
            refine z_iadd dX12_sounds_148 (by omega) ?_
            refine z_iald zl_394 (by omega) (by omega) dX12_sounds_149 ?_
            rw [h94z, e12]
            refine z_isub dX12_sounds_150 (by omega) ?_
            refine z_iconst dX12_sounds_151 (by decide) ?_
            refine z_iremT dX12_sounds_152 (by omega) ?_
            refine z_ifne (tgt := 160) dX12_sounds_153 (by decide) (fun h_153 => ?_) (fun h_153 => ?_)
            · refine z_iconst dX12_sounds_160 (by decide) ?_
              refine z_goto (tgt := 222) dX12_sounds_161 (by decide) ?_
              refine z_istore_8 rfl dX12_sounds_222 ?_
              first
                | exact J224 ζ u7 _ hZ2 hkz hfz hu7 ⟨fun _ => by first | exact Or.inl ⟨by omega, by omega⟩ | exact Or.inr (Or.inl ⟨by omega, by omega⟩) | exact Or.inr (Or.inr ⟨by omega, by omega⟩), fun _ => by decide⟩
                | exact J224 ζ u7 _ hZ2 hkz hfz hu7 ⟨fun q => absurd rfl q, fun q => by omega⟩
                | exact absurd rfl (by assumption)
                | (exfalso; omega)
            · refine z_iconst dX12_sounds_156 (by decide) ?_
              refine z_goto (tgt := 222) dX12_sounds_157 (by decide) ?_
              refine z_istore_8 rfl dX12_sounds_222 ?_
              first
                | exact J224 ζ u7 _ hZ2 hkz hfz hu7 ⟨fun _ => by first | exact Or.inl ⟨by omega, by omega⟩ | exact Or.inr (Or.inl ⟨by omega, by omega⟩) | exact Or.inr (Or.inr ⟨by omega, by omega⟩), fun _ => by decide⟩
                | exact J224 ζ u7 _ hZ2 hkz hfz hu7 ⟨fun q => absurd rfl q, fun q => by omega⟩
                | exact absurd rfl (by assumption)
                | (exfalso; omega)
        have J91 : ∀ (ζ : zM), ((V 10 (s : Int) = 0 ∧ zNl V ζ (200 + ((s + 1 : Nat) : Int)) (fun j => zfo (zx2 V t S j) (zy2 V) (s + 1) (G j))) ∨ (V 10 (s : Int) ≠ 0 ∧ zNl V ζ (200 + (s : Int)) (fun j => zfo (zx2 V t S j) (zy2 V) s (G j)))) → (∀ k, k ≠ 31 → ζ 393 k = μ 393 k) → (∀ x : Nat, x ≠ 393 → (x < 411 ∨ 414 < x) → ζ x = μ x) → MW X E cX12_sounds RX12 ({ frames := 2, cells := 0, slots := 0, locals := 43 }) none (fun r ν => r = none ∧ zNl V ν 208 (fun j => zL2 V t S j (G j)) ∧ (∀ k, k ≠ 31 → ν 393 k = μ 393 k) ∧ ∀ x : Nat, x ≠ 393 → (x < 411 ∨ 414 < x) → ν x = μ x) 91 [zR 393, zI t, zI (s : Int), zI (120 + 5 * (s : Int)), zI (V 10 (s : Int)), zI (V 11 (s : Int)), zI (zb (V 12 (s : Int) ≤ t ∧ t ≤ V 13 (s : Int))), zU, zU] [] ζ := by
          intro ζ hZ2 hkz hfz
          have h94z : ζ 394 = μ 394 := hfz 394 (by decide) (Or.inl (by decide))
          have hVz : zBV (ζ 394) = V := by rw [h94z]; exact hV
          have okz : zOK (zBV (ζ 394)) := by rw [hVz]; exact ok
          have farz : zFar V (ζ 402) := by rw [show ζ 402 = μ 402 from hfz 402 (by decide) (Or.inl (by decide))]; exact far
          refine z_iload_4 dX12_sounds_91 ?_
          refine z_ifle (tgt := 132) dX12_sounds_93 (by decide) (fun h_93 => ?_) (fun h_93 => ?_)
          · refine z_iconst dX12_sounds_132 (by decide) ?_
            refine z_istore_7 rfl dX12_sounds_133 ?_
            exact J135 ζ _ hZ2 hkz hfz ⟨fun q => by first | exact absurd rfl q | exact ⟨by omega, by omega, by assumption⟩, fun q => by first | decide | (have := q.2.2; omega)⟩
          · refine z_iload_4 dX12_sounds_96 ?_
            refine z_iconst dX12_sounds_98 (by decide) ?_
            refine z_icmpge (tgt := 132) dX12_sounds_99 (by decide) (fun h_99 => ?_) (fun h_99 => ?_)
            · refine z_iconst dX12_sounds_132 (by decide) ?_
              refine z_istore_7 rfl dX12_sounds_133 ?_
              exact J135 ζ _ hZ2 hkz hfz ⟨fun q => by first | exact absurd rfl q | exact ⟨by omega, by omega, by assumption⟩, fun q => by first | decide | (have := q.2.2; omega)⟩
            · refine z_aload_0 dX12_sounds_102 ?_
              refine z_iload_4 dX12_sounds_103 ?_
              refine z_ifeq (tgt := 114) dX12_sounds_105 (by decide) (fun h_105 => ?_) (fun h_105 => ?_)
              · exact absurd h_105 (by omega)
              · refine z_iload_4 dX12_sounds_108 ?_
                refine z_iconst dX12_sounds_110 (by decide) ?_
                refine z_icmpne (tgt := 118) dX12_sounds_111 (by decide) (fun h_111 => ?_) (fun h_111 => ?_)
                · have xr := so.2.2.1 (by omega) (by omega)
                  have e9 := e9a _ xr.1 xr.2
                  refine z_iload_5 dX12_sounds_118 ?_
                  refine z_iconst dX12_sounds_120 (by decide) ?_
                  refine z_callV2 (k_X12_of (by omega) (by omega) (by decide) (by decide)) m_X12_of zl_393 l_X12_147 (Nat.le_of_ble_eq_true rfl) ⟨Nat.le_of_ble_eq_true rfl, Nat.le_of_ble_eq_true rfl⟩ ⟨rfl, rfl⟩ dX12_sounds_121 (fun r μ1 hp => ?_)
                  obtain ⟨rfl, hv⟩ := hp
                  replace hv := hv.symm
                  subst hv
                  try rw [h94z, e9]
                  refine z_iconst dX12_sounds_124 (by decide) ?_
                  refine z_icmpeq (tgt := 132) dX12_sounds_125 (by decide) (fun h_125 => ?_) (fun h_125 => ?_)
                  · refine z_iconst dX12_sounds_132 (by decide) ?_
                    refine z_istore_7 rfl dX12_sounds_133 ?_
                    exact J135 ζ _ hZ2 hkz hfz ⟨fun q => by first | exact absurd rfl q | exact ⟨by omega, by omega, by assumption⟩, fun q => by first | decide | (have := q.2.2; omega)⟩
                  · refine z_iconst dX12_sounds_128 (by decide) ?_
                    refine z_goto (tgt := 133) dX12_sounds_129 (by decide) ?_
                    refine z_istore_7 rfl dX12_sounds_133 ?_
                    exact J135 ζ _ hZ2 hkz hfz ⟨fun q => by first | exact absurd rfl q | exact ⟨by omega, by omega, by assumption⟩, fun q => by first | decide | (have := q.2.2; omega)⟩
                · exact absurd h_111 (by omega)
        refine z_bipush dX12_sounds_12 (by decide) ?_
        refine z_iconst dX12_sounds_14 (by decide) ?_
        refine z_iload_2 dX12_sounds_15 ?_
        refine z_imul dX12_sounds_16 (by omega) ?_
        refine z_iadd dX12_sounds_17 (by omega) ?_
        refine z_istore_3 rfl dX12_sounds_18 ?_
        refine z_aload_0 dX12_sounds_19 ?_
        refine z_getF 394 1 rfl f_X12_7 zl_393 rfl rfl dX12_sounds_20 ?_
        refine z_iload_3 dX12_sounds_23 ?_
        refine z_iald zl_394 (by omega) (by omega) dX12_sounds_24 ?_
        rw [h94, e10]
        refine z_istore_4 rfl dX12_sounds_25 ?_
        refine z_aload_0 dX12_sounds_27 ?_
        refine z_getF 394 1 rfl f_X12_7 zl_393 rfl rfl dX12_sounds_28 ?_
        refine z_iload_3 dX12_sounds_31 ?_
        refine z_iconst dX12_sounds_32 (by decide) ?_
        refine z_iadd dX12_sounds_33 (by omega) ?_
        refine z_iald zl_394 (by omega) (by omega) dX12_sounds_34 ?_
        rw [h94, e11]
        refine z_istore_5 rfl dX12_sounds_35 ?_
        refine z_iload_1 dX12_sounds_37 ?_
        refine z_i2l dX12_sounds_38 ?_
        refine z_aload_0 dX12_sounds_39 ?_
        refine z_getF 394 1 rfl f_X12_7 zl_393 rfl rfl dX12_sounds_40 ?_
        refine z_iload_3 dX12_sounds_43 ?_
        refine z_iconst dX12_sounds_44 (by decide) ?_
        refine z_iadd dX12_sounds_45 (by omega) ?_
        refine z_iald zl_394 (by omega) (by omega) dX12_sounds_46 ?_
        rw [h94, e12]
        refine z_i2l dX12_sounds_47 ?_
        refine z_aload_0 dX12_sounds_48 ?_
        refine z_getF 394 1 rfl f_X12_7 zl_393 rfl rfl dX12_sounds_49 ?_
        refine z_iload_3 dX12_sounds_52 ?_
        refine z_iconst dX12_sounds_53 (by decide) ?_
        refine z_iadd dX12_sounds_54 (by omega) ?_
        refine z_iald zl_394 (by omega) (by omega) dX12_sounds_55 ?_
        rw [h94, e13]
        refine z_i2l dX12_sounds_56 ?_
        refine z_callS3 (k_X12_in) m_X12_in l_X12_106 (Nat.le_of_ble_eq_true rfl) ⟨Nat.le_of_ble_eq_true rfl, Nat.le_of_ble_eq_true rfl⟩ ⟨rfl, rfl⟩ dX12_sounds_57 (fun r μ1 hp => ?_)
        obtain ⟨rfl, hv⟩ := hp
        replace hv := hv.symm
        subst hv
        refine z_istore_6 rfl dX12_sounds_60 ?_
        refine z_iload_4 dX12_sounds_62 ?_
        refine z_ifne (tgt := 91) dX12_sounds_64 (by decide) (fun h_64 => ?_) (fun h_64 => ?_)
        · exact J91 ξ (Or.inr ⟨h_64, hl⟩) hk hfr
        · refine z_iload_6 dX12_sounds_67 ?_
          refine z_ifeq (tgt := 91) dX12_sounds_69 (by decide) (fun h_69 => ?_) (fun h_69 => ?_)
          · replace h_69 := zb_0.mp h_69
            refine J91 ξ (Or.inl ⟨h_64, zNl_cg hl (by omega) (fun j j0 j1 jl => ?_)⟩) hk hfr
            show zfo (zx2 V t S j) (zy2 V) s (G j) = zhr (zfo (zx2 V t S j) (zy2 V) s (G j)) (zx2 V t S j s) (zy2 V s)
            rw [show zx2 V t S j (s : Int) = 0 from zif_f (fun d => h_69 ⟨d.1, d.2.1⟩), zhr_0 (zNl_n hl j0 j1 jl)]
          · replace h_69 := zb_n.mp h_69
            refine z_aload_0 dX12_sounds_72 ?_
            refine z_iload_5 dX12_sounds_73 ?_
            refine z_aload_0 dX12_sounds_75 ?_
            refine z_getF 394 1 rfl f_X12_7 zl_393 rfl rfl dX12_sounds_76 ?_
            refine z_iload_3 dX12_sounds_79 ?_
            refine z_iconst dX12_sounds_80 (by decide) ?_
            refine z_iadd dX12_sounds_81 (by omega) ?_
            refine z_iald zl_394 (by omega) (by omega) dX12_sounds_82 ?_
            rw [h94, e14]
            have hN := hl.1
            have hs := zNl_s (c := V 11 (s : Int)) (v := V 14 (s : Int)) (b := 10 + (s : Int)) (o := -1) hl (so.2.1 h_64) ⟨by omega, by omega⟩
            refine z_bipush dX12_sounds_83 (by decide) ?_
            refine z_iload_2 dX12_sounds_85 ?_
            refine z_iadd dX12_sounds_86 (by omega) ?_
            refine z_iconst dX12_sounds_87 (by decide) ?_
            refine z_callV4 (k_X12_noise (by omega)) m_X12_noise zl_393 l_X12_268 (Nat.le_of_ble_eq_true rfl) ⟨Nat.le_of_ble_eq_true rfl, Nat.le_of_ble_eq_true rfl⟩ ⟨rfl, rfl⟩ dX12_sounds_88 (fun r μ1 hp => ?_)
            obtain ⟨rfl, rfl⟩ := hp
            refine J91 _ (Or.inl ⟨h_64, zNl_cg hs (by omega) (fun j j0 j1 jl => ?_)⟩) (fun k k1 => by rw [zNs_k k1]; exact hk k k1) (fun x x1 x2 => by rw [zNs_fr x1 x2]; exact hfr x x1 x2)
            show zhr (zfo (zx2 V t S j) (zy2 V) s (G j)) (zif ((-1 : Int) = j) 0 (zFd (V 14 s) (zWk V (V 2 (V 9 j)) (V 11 s)) (V 3 1))) (10 + (s : Int)) = zhr (zfo (zx2 V t S j) (zy2 V) s (G j)) (zx2 V t S j s) (zy2 V s)
            have hdu : zDu V (s : Int) t := ⟨h_69.1, h_69.2, fun e => by omega, fun e => by omega, by omega⟩
            rw [show zy2 V (s : Int) = 10 + (s : Int) from zif_t h_64, zif_f (show ¬ ((-1 : Int) = j) by omega)]
            unfold zx2
            rw [zif_t hdu, zif_t h_64]
            rfl
  refine z_iconst dX12_sounds_0 (by decide) ?_
  refine z_istore_2 rfl dX12_sounds_1 ?_
  exact L 9 0 μ (by omega) (zNl_cg hG (by omega) (fun j j0 j1 jl => rfl)) (fun _ _ => rfl) (fun _ _ _ => rfl) (by omega)
