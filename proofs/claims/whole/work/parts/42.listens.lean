def zRt (V : zM) (fan t : Int) (S : zM) (i : Int) (μ ν : zM) : Prop := zR1 ν (zZm V fan t S) i ∧ ∀ a x, ((a = 409 ∨ a = 410) → x ≠ 40 * i + S 4 i) → ¬ (x = i ∧ (a = 403 ∨ a = 404 ∨ a = 405 ∨ a = 408)) → ν a x = μ a x
theorem zRm_n {V : zM} {fan t : Int} {S μ : zM} {i : Int} (z : zR1 μ S i) (w : ¬ zZw V fan t S i) (h1 : S 0 i ≠ 1) (h4 : S 4 i ≤ 40) : zR1 μ (zZm V fan t S) i := by
  have f : ¬ zZf V fan t S i := fun q => h1 q.1
  exact zR1_cg z (by rw [zZm_0]; unfold zZh; rw [zif_f w, zif_f f]) (fun _ => by rw [zZm_1]; unfold zZs; rw [zif_f f]) (fun q => absurd q h1) rfl (by rw [zZm_4, zif_f w]; omega) (fun k k0 k1 => by rw [zZm_10 k0 (by omega), zif_f (fun q => w q.1)])
theorem zrt_A {V : zM} {fan t : Int} {S μ : zM} {i : Int} (z : zR1 μ S i) (w : ¬ zZw V fan t S i) (h1 : S 0 i ≠ 1) (h4 : S 4 i ≤ 40) : zRt V fan t S i μ μ := ⟨zRm_n z w h1 h4, fun _ _ _ _ => rfl⟩
theorem zrt_B {V : zM} {fan t : Int} {S μ : zM} {i : Int} (i0 : 0 ≤ i) (i1 : i < 5) (z : zR1 μ S i) (w : zZw V fan t S i) (h4 : 0 ≤ S 4 i ∧ S 4 i < 40) (hb : 0 ≤ (zLd V t S i).2 ∧ (zLd V t S i).2 ≤ 17) : zRt V fan t S i μ (zup (zup (zup (zup (zup μ 403 i 1) 405 i 0) 409 (40 * i + S 4 i) t) 410 (40 * i + S 4 i) (zLd V t S i).2) 408 i (S 4 i + 1)) := by
  generalize hζ : zup (zup (zup (zup (zup μ 403 i 1) 405 i 0) 409 (40 * i + S 4 i) t) 410 (40 * i + S 4 i) (zLd V t S i).2) 408 i (S 4 i + 1) = ζ
  replace hζ := hζ.symm
  obtain ⟨g0, g1, g2, g3, g4, g5⟩ := z
  have e0 : zZm V fan t S 0 i = 1 := by rw [zZm_0]; unfold zZh; rw [zif_t w]
  refine ⟨⟨by rw [e0, hζ]; (repeat (first | rw [zup_eq] | rw [zup_row (by omega)] | rw [zup_ne (Or.inr (by omega))])), by rw [zZm_3, ← g1, hζ]; (repeat (first | rw [zup_eq] | rw [zup_row (by omega)] | rw [zup_ne (Or.inr (by omega))])), by rw [zZm_4, zif_t w, hζ]; (repeat (first | rw [zup_eq] | rw [zup_row (by omega)] | rw [zup_ne (Or.inr (by omega))])), fun q => absurd q (by rw [e0]; decide), fun _ => by rw [zZm_2, zif_t w, hζ]; (repeat (first | rw [zup_eq] | rw [zup_row (by omega)] | rw [zup_ne (Or.inr (by omega))])), fun k k0 k1 => ?_⟩, fun a x a1 a2 => ?_⟩
  · rw [zZm_4, zif_t w] at k1
    rw [zZm_10 k0 (by omega)]
    by_cases q : k = S 4 i
    · have e9 : ζ 409 (40 * i + k) = t := by rw [hζ, q]; (repeat (first | rw [zup_eq] | rw [zup_row (by omega)] | rw [zup_ne (Or.inr (by omega))]))
      have e10 : ζ 410 (40 * i + k) = (zLd V t S i).2 := by rw [hζ, q]; (repeat (first | rw [zup_eq] | rw [zup_row (by omega)] | rw [zup_ne (Or.inr (by omega))]))
      rw [zif_t ⟨w, q⟩, e9, e10]; exact ⟨rfl, hb⟩
    · have e9 : ζ 409 (40 * i + k) = μ 409 (40 * i + k) := by rw [hζ]; (repeat (first | rw [zup_eq] | rw [zup_row (by omega)] | rw [zup_ne (Or.inr (by omega))]))
      have e10 : ζ 410 (40 * i + k) = μ 410 (40 * i + k) := by rw [hζ]; (repeat (first | rw [zup_eq] | rw [zup_row (by omega)] | rw [zup_ne (Or.inr (by omega))]))
      rw [zif_f (fun c => q c.2), e9, e10]; exact g5 k k0 (by omega)
  · rw [hζ]
    have b1 : ¬ (a = 408 ∧ x = i) := fun q => a2 ⟨q.2, Or.inr (Or.inr (Or.inr q.1))⟩
    have b2 : ¬ (a = 405 ∧ x = i) := fun q => a2 ⟨q.2, Or.inr (Or.inr (Or.inl q.1))⟩
    have b3 : ¬ (a = 403 ∧ x = i) := fun q => a2 ⟨q.2, Or.inl q.1⟩
    rw [zup_ne (by omega), zup_ne (by omega), zup_ne (by omega), zup_ne (by omega), zup_ne (by omega)]
theorem zrt_C {V : zM} {fan t : Int} {S μ : zM} {i q : Int} (z : zR1 μ S i) (h1 : S 0 i = 1) (f : ¬ zZf V fan t S i) (hq : q = zif (zZn V fan t S i < V 4 i) (S 2 i + 1) 0) (h4 : S 4 i ≤ 40) : zRt V fan t S i μ (zup μ 405 i q) := by
  have w : ¬ zZw V fan t S i := fun c => by have := c.1; omega
  generalize hζ : zup μ 405 i q = ζ
  replace hζ := hζ.symm
  obtain ⟨g0, g1, g2, g3, g4, g5⟩ := z
  have e0 : zZm V fan t S 0 i = 1 := by rw [zZm_0]; unfold zZh; rw [zif_f w, zif_f f, h1]
  refine ⟨⟨by rw [e0, ← h1, ← g0, hζ]; (repeat (first | rw [zup_eq] | rw [zup_row (by omega)] | rw [zup_ne (Or.inr (by omega))])), by rw [zZm_3, ← g1, hζ]; (repeat (first | rw [zup_eq] | rw [zup_row (by omega)] | rw [zup_ne (Or.inr (by omega))])), by rw [zZm_4, zif_f w, Int.add_zero, ← g2, hζ]; (repeat (first | rw [zup_eq] | rw [zup_row (by omega)] | rw [zup_ne (Or.inr (by omega))])), fun q => absurd q (by rw [e0]; decide), fun _ => by rw [zZm_2, zif_f w, zif_t h1, ← hq, hζ]; (repeat (first | rw [zup_eq] | rw [zup_row (by omega)] | rw [zup_ne (Or.inr (by omega))])), fun k k0 k1 => ?_⟩, fun a x a1 a2 => ?_⟩
  · rw [zZm_4, zif_f w] at k1
    have e9 : ζ 409 = μ 409 := by rw [hζ]; (repeat (first | rw [zup_eq] | rw [zup_row (by omega)] | rw [zup_ne (Or.inr (by omega))]))
    have e10 : ζ 410 = μ 410 := by rw [hζ]; (repeat (first | rw [zup_eq] | rw [zup_row (by omega)] | rw [zup_ne (Or.inr (by omega))]))
    rw [zZm_10 k0 (by omega), zif_f (fun c => w c.1), e9, e10]; exact g5 k k0 (by omega)
  · rw [hζ]
    have b2 : ¬ (a = 405 ∧ x = i) := fun q => a2 ⟨q.2, Or.inr (Or.inr (Or.inl q.1))⟩
    rw [zup_ne (by omega)]
theorem zrt_D {V : zM} {fan t : Int} {S μ : zM} {i q : Int} (z : zR1 μ S i) (f : zZf V fan t S i) (h4 : S 4 i ≤ 40) : zRt V fan t S i μ (zup (zup (zup μ 405 i q) 403 i 2) 404 i t) := by
  have w : ¬ zZw V fan t S i := fun c => by have := c.1; have := f.1; omega
  generalize hζ : zup (zup (zup μ 405 i q) 403 i 2) 404 i t = ζ
  replace hζ := hζ.symm
  obtain ⟨g0, g1, g2, g3, g4, g5⟩ := z
  have e0 : zZm V fan t S 0 i = 2 := by rw [zZm_0]; unfold zZh; rw [zif_f w, zif_t f]
  refine ⟨⟨by rw [e0, hζ]; (repeat (first | rw [zup_eq] | rw [zup_row (by omega)] | rw [zup_ne (Or.inr (by omega))])), by rw [zZm_3, ← g1, hζ]; (repeat (first | rw [zup_eq] | rw [zup_row (by omega)] | rw [zup_ne (Or.inr (by omega))])), by rw [zZm_4, zif_f w, Int.add_zero, ← g2, hζ]; (repeat (first | rw [zup_eq] | rw [zup_row (by omega)] | rw [zup_ne (Or.inr (by omega))])), fun _ => by rw [zZm_1]; unfold zZs; rw [zif_t f, hζ]; (repeat (first | rw [zup_eq] | rw [zup_row (by omega)] | rw [zup_ne (Or.inr (by omega))])), fun q => absurd q (by rw [e0]; decide), fun k k0 k1 => ?_⟩, fun a x a1 a2 => ?_⟩
  · rw [zZm_4, zif_f w] at k1
    have e9 : ζ 409 = μ 409 := by rw [hζ]; (repeat (first | rw [zup_eq] | rw [zup_row (by omega)] | rw [zup_ne (Or.inr (by omega))]))
    have e10 : ζ 410 = μ 410 := by rw [hζ]; (repeat (first | rw [zup_eq] | rw [zup_row (by omega)] | rw [zup_ne (Or.inr (by omega))]))
    rw [zZm_10 k0 (by omega), zif_f (fun c => w c.1), e9, e10]; exact g5 k k0 (by omega)
  · rw [hζ]
    have b1 : ¬ (a = 404 ∧ x = i) := fun q => a2 ⟨q.2, Or.inr (Or.inl q.1)⟩
    have b2 : ¬ (a = 405 ∧ x = i) := fun q => a2 ⟨q.2, Or.inr (Or.inr (Or.inl q.1))⟩
    have b3 : ¬ (a = 403 ∧ x = i) := fun q => a2 ⟨q.2, Or.inl q.1⟩
    rw [zup_ne (by omega), zup_ne (by omega), zup_ne (by omega)]
noncomputable def zNc (V : zM) (μ : zM) (c i k : Int) : Int := zif (μ 414 k = i) 0 (zHr (μ 412 k) (zWk V (V 2 (V 9 i)) (μ 411 k)) (V 3 1) c)
theorem zNc_u {V μ : zM} {c i k : Int} (hc : 0 ≤ c) : zNc V μ c i k = max 0 (zNu V μ i k - c) := by
  unfold zNc zNu
  by_cases q : μ 414 k = i
  · rw [zif_t q, zif_t q]; omega
  · rw [zif_f q, zif_f q]; rfl
set_option maxRecDepth 100000 in
set_option maxHeartbeats 4000000 in
theorem k_X12_listens {l : Launch} {E : zE} {μ S : zM} {i t c fan : Int} {G : Int → Int × Int} {V : zM} (hV : zBV (μ 394) = V) (ok : zOK V) (far : zFar V (μ 402)) (i0 : 0 ≤ i) (i1 : i < V 3 3) (t0 : 0 ≤ t) (t1 : t < 40) (hc : 0 ≤ c ∧ c ≤ 1000) (hcf : c = fan + zCv V t) (hG : zNl V μ 220 G) (hg : G i = zLd V t S i) (hz : zR1 μ S i) (hi : zZi V t S i) (h0 : S 0 i ≠ 0) : Ct l E yX12_listens cX12_listens 8 none ({ frames := 2, cells := 0, slots := 0, locals := 43 }) [zR 393, zI i, zI t, zI c] μ (fun r ν => r = none ∧ zRt V fan t S i μ ν) := by
  refine Ct.of RX12 [zR 393, zI i, zI t, zI c, zU, zU, zU, zU] (by decide +kernel) rfl ⟨rfl, rfl⟩ rfl (Nat.le_of_ble_eq_true rfl) (fun X hX hc0 ha0 => ?_)
  subst hX
  have np := ok.2.1.1
  have pp := ok.2.1.2 i i0 i1
  have ok2 : zOK (zBV (μ 394)) := by rw [hV]; exact ok
  have m2 : μ 394 2 = V 3 3 := by rw [← hV]; rfl
  have m5 : μ 394 5 = V 3 1 := by rw [← hV]; rfl
  have hl := hi.2.1 h0
  have lb := zOK_bed ok (b := V 9 i) (by omega) pp.2.2.2.2.2
  have e4 : μ 394 (90 + 6 * i + 0) = V 4 i := by rw [Int.add_zero, ← hV]; exact (zBV_4 i0 (by omega)).symm
  have e5 : μ 394 (90 + 6 * i + 1) = V 5 i := by rw [← hV]; exact (zBV_5 i0 (by omega)).symm
  have z4 := hi.2.2.2.2.2
  have g0 := hz.1
  have g2 := hz.2.2.1
  have d3 := zDp_b (t - S 1 i)
  have hN := hG.1
  have hlw := zLd_w (V := V) (t := t) (S := S) (i := i) ok
  have hgi := (hG.2.2 i i0 i1 hl).trans hg
  have hcov := zfo_cov (u := zNu V μ i) (v := zNc V μ c i) (y := μ 413) hc.1 (n := (μ 393 31).toNat) (fun k _ => zNc_u hc.1)
  have hzn : zZn V fan t S i = max 0 ((zNF V μ i (μ 393 31).toNat).1 - c) := by rw [hgi, hcf]; rfl
  have J85 : ∀ (by_ k v : zAV) (b : Int), by_ = zI b → (0 < zZn V fan t S i → b = (zLd V t S i).2) → MW X E cX12_listens RX12 ({ frames := 2, cells := 0, slots := 0, locals := 43 }) none (fun r ν => r = none ∧ zRt V fan t S i μ ν) 85 [zR 393, zI i, zI t, zI c, zI (zZn V fan t S i), by_, k, v] [] μ := by
    intro by_ k v b hb hby
    subst hb
    refine z_aload_0 dX12_listens_85 ?_
    refine z_getF 403 10 rfl f_X12_38 zl_393 rfl rfl dX12_listens_86 ?_
    refine z_iload_1 dX12_listens_89 ?_
    refine z_iald zl_403 (by omega) (by omega) dX12_listens_90 ?_
    rw [g0]
    refine z_iconst dX12_listens_91 (by decide) ?_
    refine z_icmpne (tgt := 182) dX12_listens_92 (by decide) (fun h_92 => ?_) (fun h_92 => ?_)
    · have h1 : S 0 i = 1 := by rcases hi.1 with q | q | q <;> omega
      have g4 := hz.2.2.2.2.1 h1
      have z2 := hi.2.2.1 h1
      refine z_aload_0 dX12_listens_182 ?_
      refine z_getF 405 12 rfl f_X12_44 zl_393 rfl rfl dX12_listens_183 ?_
      refine z_iload_1 dX12_listens_186 ?_
      refine z_iload_4 dX12_listens_187 ?_
      refine z_aload_0 dX12_listens_189 ?_
      refine z_iload_1 dX12_listens_190 ?_
      refine z_iconst dX12_listens_191 (by decide) ?_
      refine z_callV2 (k_X12_of (by omega) (by omega) (by decide) (by decide)) m_X12_of zl_393 l_X12_147 (Nat.le_of_ble_eq_true rfl) ⟨Nat.le_of_ble_eq_true rfl, Nat.le_of_ble_eq_true rfl⟩ ⟨rfl, rfl⟩ dX12_listens_192 (fun r μ1 hp => ?_)
      obtain ⟨rfl, hv⟩ := hp
      replace hv := hv.symm
      subst hv
      rw [e4]
      refine z_icmpge (tgt := 209) dX12_listens_195 (by decide) (fun h_195 => ?_) (fun h_195 => ?_)
      · replace h_195 : ¬ (zZn V fan t S i < V 4 i) := by omega
        refine z_iconst dX12_listens_209 (by decide) ?_
        refine z_iast zl_405 (by omega) (by omega) dX12_listens_210 ?_
        refine z_aload_0 dX12_listens_211 ?_
        refine z_getF 405 12 rfl f_X12_44 zl_393 rfl rfl dX12_listens_212 ?_
        refine z_iload_1 dX12_listens_215 ?_
        refine z_iald zl_405 (by omega) (by omega) dX12_listens_216 ?_
        rw [zup_eq]
        refine z_aload_0 dX12_listens_217 ?_
        refine z_iload_1 dX12_listens_218 ?_
        refine z_iconst dX12_listens_219 (by decide) ?_
        refine z_callV2 (k_X12_of (by omega) (by omega) (by decide) (by decide)) m_X12_of zl_393 l_X12_147 (Nat.le_of_ble_eq_true rfl) ⟨Nat.le_of_ble_eq_true rfl, Nat.le_of_ble_eq_true rfl⟩ ⟨rfl, rfl⟩ dX12_listens_220 (fun r μ1 hp => ?_)
        obtain ⟨rfl, hv⟩ := hp
        replace hv := hv.symm
        subst hv
        rw [zup_row (by decide), e5]
        refine z_icmpne (tgt := 240) dX12_listens_223 (by decide) (fun h_223 => ?_) (fun h_223 => ?_)
        · exact z_vret dX12_listens_240 (⟨rfl, zrt_C hz h1 (fun q => h_195 q.2.1) (zif_f h_195).symm (by omega)⟩)
        · refine z_aload_0 dX12_listens_226 ?_
          refine z_getF 403 10 rfl f_X12_38 zl_393 rfl rfl dX12_listens_227 ?_
          refine z_iload_1 dX12_listens_230 ?_
          refine z_iconst dX12_listens_231 (by decide) ?_
          refine z_iast zl_403 (by omega) (by omega) dX12_listens_232 ?_
          refine z_aload_0 dX12_listens_233 ?_
          refine z_getF 404 11 rfl f_X12_41 zl_393 rfl rfl dX12_listens_234 ?_
          refine z_iload_1 dX12_listens_237 ?_
          refine z_iload_2 dX12_listens_238 ?_
          refine z_iast zl_404 (by omega) (by omega) dX12_listens_239 ?_
          exact z_vret dX12_listens_240 (absurd h_223 (by omega))
      · replace h_195 : zZn V fan t S i < V 4 i := by omega
        refine z_aload_0 dX12_listens_198 ?_
        refine z_getF 405 12 rfl f_X12_44 zl_393 rfl rfl dX12_listens_199 ?_
        refine z_iload_1 dX12_listens_202 ?_
        refine z_iald zl_405 (by omega) (by omega) dX12_listens_203 ?_
        rw [g4]
        refine z_iconst dX12_listens_204 (by decide) ?_
        refine z_iadd dX12_listens_205 (by omega) ?_
        refine z_goto (tgt := 210) dX12_listens_206 (by decide) ?_
        refine z_iast zl_405 (by omega) (by omega) dX12_listens_210 ?_
        refine z_aload_0 dX12_listens_211 ?_
        refine z_getF 405 12 rfl f_X12_44 zl_393 rfl rfl dX12_listens_212 ?_
        refine z_iload_1 dX12_listens_215 ?_
        refine z_iald zl_405 (by omega) (by omega) dX12_listens_216 ?_
        rw [zup_eq]
        refine z_aload_0 dX12_listens_217 ?_
        refine z_iload_1 dX12_listens_218 ?_
        refine z_iconst dX12_listens_219 (by decide) ?_
        refine z_callV2 (k_X12_of (by omega) (by omega) (by decide) (by decide)) m_X12_of zl_393 l_X12_147 (Nat.le_of_ble_eq_true rfl) ⟨Nat.le_of_ble_eq_true rfl, Nat.le_of_ble_eq_true rfl⟩ ⟨rfl, rfl⟩ dX12_listens_220 (fun r μ1 hp => ?_)
        obtain ⟨rfl, hv⟩ := hp
        replace hv := hv.symm
        subst hv
        rw [zup_row (by decide), e5]
        refine z_icmpne (tgt := 240) dX12_listens_223 (by decide) (fun h_223 => ?_) (fun h_223 => ?_)
        · exact z_vret dX12_listens_240 (⟨rfl, zrt_C hz h1 (fun q => by have := q.2.2; omega) (zif_t h_195).symm (by omega)⟩)
        · refine z_aload_0 dX12_listens_226 ?_
          refine z_getF 403 10 rfl f_X12_38 zl_393 rfl rfl dX12_listens_227 ?_
          refine z_iload_1 dX12_listens_230 ?_
          refine z_iconst dX12_listens_231 (by decide) ?_
          refine z_iast zl_403 (by omega) (by omega) dX12_listens_232 ?_
          refine z_aload_0 dX12_listens_233 ?_
          refine z_getF 404 11 rfl f_X12_41 zl_393 rfl rfl dX12_listens_234 ?_
          refine z_iload_1 dX12_listens_237 ?_
          refine z_iload_2 dX12_listens_238 ?_
          refine z_iast zl_404 (by omega) (by omega) dX12_listens_239 ?_
          exact z_vret dX12_listens_240 (⟨rfl, zrt_D hz ⟨h1, h_195, by omega⟩ (by omega)⟩)
    · have g3 := hz.2.2.2.1 h_92
      have z1 := hi.2.2.2.1 h_92
      refine z_iload_4 dX12_listens_95 ?_
      refine z_aload_0 dX12_listens_97 ?_
      refine z_iload_1 dX12_listens_98 ?_
      refine z_iconst dX12_listens_99 (by decide) ?_
      refine z_callV2 (k_X12_of (by omega) (by omega) (by decide) (by decide)) m_X12_of zl_393 l_X12_147 (Nat.le_of_ble_eq_true rfl) ⟨Nat.le_of_ble_eq_true rfl, Nat.le_of_ble_eq_true rfl⟩ ⟨rfl, rfl⟩ dX12_listens_100 (fun r μ1 hp => ?_)
      obtain ⟨rfl, hv⟩ := hp
      replace hv := hv.symm
      subst hv
      rw [e4]
      refine z_iconst dX12_listens_103 (by decide) ?_
      refine z_iload_2 dX12_listens_104 ?_
      refine z_aload_0 dX12_listens_105 ?_
      refine z_getF 404 11 rfl f_X12_41 zl_393 rfl rfl dX12_listens_106 ?_
      refine z_iload_1 dX12_listens_109 ?_
      refine z_iald zl_404 (by omega) (by omega) dX12_listens_110 ?_
      rw [g3]
      refine z_isub dX12_listens_111 (by omega) ?_
      refine z_callS1 (k_X12_deepOf (by omega)) m_X12_deepOf l_X12_279 (Nat.le_of_ble_eq_true rfl) ⟨Nat.le_of_ble_eq_true rfl, Nat.le_of_ble_eq_true rfl⟩ ⟨rfl, rfl⟩ dX12_listens_112 (fun r μ1 hp => ?_)
      obtain ⟨rfl, hv⟩ := hp
      replace hv := hv.symm
      subst hv
      refine z_imul dX12_listens_115 (by omega) ?_
      refine z_iadd dX12_listens_116 (by omega) ?_
      refine z_icmplt (tgt := 240) dX12_listens_117 (by decide) (fun h_117 => ?_) (fun h_117 => ?_)
      · exact z_vret dX12_listens_240 (⟨rfl, zrt_A hz (fun q => by have := q.2; omega) (by omega) (by omega)⟩)
      · have hw : zZw V fan t S i := ⟨h_92, by omega⟩
        have hby2 := hby (by omega)
        have hlb := hlw (by rw [← hgi]; omega)
        subst hby2
        refine z_aload_0 dX12_listens_120 ?_
        refine z_getF 403 10 rfl f_X12_38 zl_393 rfl rfl dX12_listens_121 ?_
        refine z_iload_1 dX12_listens_124 ?_
        refine z_iconst dX12_listens_125 (by decide) ?_
        refine z_iast zl_403 (by omega) (by omega) dX12_listens_126 ?_
        refine z_aload_0 dX12_listens_127 ?_
        refine z_getF 405 12 rfl f_X12_44 zl_393 rfl rfl dX12_listens_128 ?_
        refine z_iload_1 dX12_listens_131 ?_
        refine z_iconst dX12_listens_132 (by decide) ?_
        refine z_iast zl_405 (by omega) (by omega) dX12_listens_133 ?_
        refine z_aload_0 dX12_listens_134 ?_
        refine z_getF 409 16 rfl f_X12_56 zl_393 rfl rfl dX12_listens_135 ?_
        refine z_bipush dX12_listens_138 (by decide) ?_
        refine z_iload_1 dX12_listens_140 ?_
        refine z_imul dX12_listens_141 (by omega) ?_
        refine z_aload_0 dX12_listens_142 ?_
        refine z_getF 408 15 rfl f_X12_53 zl_393 rfl rfl dX12_listens_143 ?_
        refine z_iload_1 dX12_listens_146 ?_
        refine z_iald zl_408 (by omega) (by omega) dX12_listens_147 ?_
        rw [show zup (zup μ 403 i 1) 405 i 0 408 i = S 4 i by (repeat (first | rw [zup_eq] | rw [zup_row (by omega)] | rw [zup_ne (Or.inr (by omega))])); exact g2]
        refine z_iadd dX12_listens_148 (by omega) ?_
        refine z_iload_2 dX12_listens_149 ?_
        refine z_iast zl_409 (by omega) (by omega) dX12_listens_150 ?_
        refine z_aload_0 dX12_listens_151 ?_
        refine z_getF 410 17 rfl f_X12_59 zl_393 rfl rfl dX12_listens_152 ?_
        refine z_bipush dX12_listens_155 (by decide) ?_
        refine z_iload_1 dX12_listens_157 ?_
        refine z_imul dX12_listens_158 (by omega) ?_
        refine z_aload_0 dX12_listens_159 ?_
        refine z_getF 408 15 rfl f_X12_53 zl_393 rfl rfl dX12_listens_160 ?_
        refine z_iload_1 dX12_listens_163 ?_
        refine z_iald zl_408 (by omega) (by omega) dX12_listens_164 ?_
        rw [show zup (zup (zup μ 403 i 1) 405 i 0) 409 (40 * i + S 4 i) t 408 i = S 4 i by (repeat (first | rw [zup_eq] | rw [zup_row (by omega)] | rw [zup_ne (Or.inr (by omega))])); exact g2]
        refine z_iadd dX12_listens_165 (by omega) ?_
        refine z_iload_5 dX12_listens_166 ?_
        refine z_iast zl_410 (by omega) (by omega) dX12_listens_168 ?_
        refine z_aload_0 dX12_listens_169 ?_
        refine z_getF 408 15 rfl f_X12_53 zl_393 rfl rfl dX12_listens_170 ?_
        refine z_iload_1 dX12_listens_173 ?_
        refine z_dup2 dX12_listens_174 rfl rfl ?_
        refine z_iald zl_408 (by omega) (by omega) dX12_listens_175 ?_
        rw [show zup (zup (zup (zup μ 403 i 1) 405 i 0) 409 (40 * i + S 4 i) t) 410 (40 * i + S 4 i) (zLd V t S i).2 408 i = S 4 i by (repeat (first | rw [zup_eq] | rw [zup_row (by omega)] | rw [zup_ne (Or.inr (by omega))])); exact g2]
        refine z_iconst dX12_listens_176 (by decide) ?_
        refine z_iadd dX12_listens_177 (by omega) ?_
        refine z_iast zl_408 (by omega) (by omega) dX12_listens_178 ?_
        refine z_goto (tgt := 240) dX12_listens_179 (by decide) ?_
        exact z_vret dX12_listens_240 (⟨rfl, zrt_B i0 (by omega) hz hw (by omega) hlb⟩)
  have L : ∀ (q : Nat) (k : Nat) (m b : Int), (k : Int) ≤ μ 393 31 → (m, b) = zfo (zNc V μ c i) (μ 413) k (0, -1) → μ 393 31 - k < q → MW X E cX12_listens RX12 ({ frames := 2, cells := 0, slots := 0, locals := 43 }) none (fun r ν => r = none ∧ zRt V fan t S i μ ν) 9 [zR 393, zI i, zI t, zI c, zI m, zI b, zI (k : Int), zU] [] μ := by
    intro q
    induction q with
    | zero => intro k m b hk hp2 h3; omega
    | succ q ih =>
      intro k m b hk hp2 h3
      refine z_iload_6 dX12_listens_9 ?_
      refine z_aload_0 dX12_listens_11 ?_
      refine z_getI 31 rfl f_X12_265 zl_393 rfl dX12_listens_12 ?_
      refine z_icmpge (tgt := 85) dX12_listens_15 (by decide) (fun h_15 => ?_) (fun h_15 => ?_)
      · have hp3 : zfo (zNc V μ c i) (μ 413) (μ 393 31).toNat (0, -1) = (m, b) := by rw [show (μ 393 31).toNat = k by omega]; exact hp2.symm
        have hg2 : zfo (zNu V μ i) (μ 413) (μ 393 31).toNat (0, -1) = zLd V t S i := hgi
        rw [hp3, hg2] at hcov
        have e : m = zZn V fan t S i := by rw [hzn, hgi]; exact hcov.1
        subst e
        exact J85 _ _ _ b rfl (fun q => hcov.2 q)
      · have hk1 := hG.2.1 (k : Int) (by omega) (by omega)
        refine z_aload_0 dX12_listens_18 ?_
        refine z_getF 414 21 rfl f_X12_71 zl_393 rfl rfl dX12_listens_19 ?_
        refine z_iload_6 dX12_listens_22 ?_
        refine z_iald zl_414 (by omega) (by omega) dX12_listens_24 ?_
        refine z_iload_1 dX12_listens_25 ?_
        refine z_icmpne (tgt := 33) dX12_listens_26 (by decide) (fun h_26 => ?_) (fun h_26 => ?_)
        · have hx : zNc V μ c i (k : Int) = zHr (μ 412 (k : Int)) (zWk V (V 2 (V 9 i)) (μ 411 (k : Int))) (V 3 1) c := zif_f h_26
          
          refine z_aload_0 dX12_listens_33 ?_
          refine z_aload_0 dX12_listens_34 ?_
          refine z_getF 411 18 rfl f_X12_62 zl_393 rfl rfl dX12_listens_35 ?_
          refine z_iload_6 dX12_listens_38 ?_
          refine z_iald zl_411 (by omega) (by omega) dX12_listens_40 ?_
          refine z_aload_0 dX12_listens_41 ?_
          refine z_getF 412 19 rfl f_X12_65 zl_393 rfl rfl dX12_listens_42 ?_
          refine z_iload_6 dX12_listens_45 ?_
          refine z_iald zl_412 (by omega) (by omega) dX12_listens_47 ?_
          refine z_aload_0 dX12_listens_48 ?_
          refine z_iload_1 dX12_listens_49 ?_
          refine z_callV1 (k_X12_bedCell (i := i) i0 (by rw [hV]; exact i1) ok2 (by rw [hV]; exact hl)) m_X12_bedCell zl_393 l_X12_272 (Nat.le_of_ble_eq_true rfl) ⟨Nat.le_of_ble_eq_true rfl, Nat.le_of_ble_eq_true rfl⟩ ⟨rfl, rfl⟩ dX12_listens_50 (fun r μ1 hp => ?_)
          obtain ⟨rfl, hv⟩ := hp
          replace hv := hv.symm
          subst hv
          rw [hV]
          refine z_iload_3 dX12_listens_53 ?_
          refine z_callV4 (k_X12_heardAt (V := V) hk1.1 lb ⟨hk1.2.1, by omega⟩ ⟨hc.1, hc.2⟩ (by rw [m5]; exact ok.1.2.2.2.1) far) m_X12_heardAt zl_393 l_X12_261 (Nat.le_of_ble_eq_true rfl) ⟨Nat.le_of_ble_eq_true rfl, Nat.le_of_ble_eq_true rfl⟩ ⟨rfl, rfl⟩ dX12_listens_54 (fun r μ1 hp => ?_)
          obtain ⟨rfl, hv⟩ := hp
          replace hv := hv.symm
          subst hv
          rw [m5]
          refine z_istore_7 rfl dX12_listens_57 ?_
          refine z_iload_7 dX12_listens_59 ?_
          refine z_iload_4 dX12_listens_61 ?_
          refine z_icmple (tgt := 79) dX12_listens_63 (by decide) (fun h_63 => ?_) (fun h_63 => ?_)
          · refine z_iinc_6 rfl dX12_listens_79 (by omega) ?_
            refine z_goto (tgt := 9) dX12_listens_82 (by decide) ?_
            refine z_weak (ls' := [zR 393, zI i, zI t, zI c, zI (m), zI (b), zI ((k + 1 : Nat) : Int), zU]) ⟨Or.inl rfl, Or.inl rfl, Or.inl rfl, Or.inl rfl, Or.inl rfl, Or.inl rfl, Or.inl rfl, Or.inr rfl, trivial⟩ (ih (k + 1) _ _ (by omega) (by rw [zfo_s, ← hp2]; rw [hx, zhr_0 h_63]) (by omega))
          · refine z_iload_7 dX12_listens_66 ?_
            refine z_istore_4 rfl dX12_listens_68 ?_
            refine z_aload_0 dX12_listens_70 ?_
            refine z_getF 413 20 rfl f_X12_68 zl_393 rfl rfl dX12_listens_71 ?_
            refine z_iload_6 dX12_listens_74 ?_
            refine z_iald zl_413 (by omega) (by omega) dX12_listens_76 ?_
            refine z_istore_5 rfl dX12_listens_77 ?_
            refine z_iinc_6 rfl dX12_listens_79 (by omega) ?_
            refine z_goto (tgt := 9) dX12_listens_82 (by decide) ?_
            refine z_weak (ls' := [zR 393, zI i, zI t, zI c, zI (zHr (μ 412 (k : Int)) (zWk V (V 2 (V 9 i)) (μ 411 (k : Int))) (V 3 1) c), zI (μ 413 (k : Int)), zI ((k + 1 : Nat) : Int), zU]) ⟨Or.inl rfl, Or.inl rfl, Or.inl rfl, Or.inl rfl, Or.inl rfl, Or.inl rfl, Or.inl rfl, Or.inr rfl, trivial⟩ (ih (k + 1) _ _ (by omega) (by rw [zfo_s, ← hp2]; rw [hx, zhr_1 h_63]) (by omega))
        · have hx : zNc V μ c i (k : Int) = 0 := zif_t h_26
          
          refine z_iconst dX12_listens_29 (by decide) ?_
          refine z_goto (tgt := 57) dX12_listens_30 (by decide) ?_
          refine z_istore_7 rfl dX12_listens_57 ?_
          refine z_iload_7 dX12_listens_59 ?_
          refine z_iload_4 dX12_listens_61 ?_
          refine z_icmple (tgt := 79) dX12_listens_63 (by decide) (fun h_63 => ?_) (fun h_63 => ?_)
          · refine z_iinc_6 rfl dX12_listens_79 (by omega) ?_
            refine z_goto (tgt := 9) dX12_listens_82 (by decide) ?_
            refine z_weak (ls' := [zR 393, zI i, zI t, zI c, zI (m), zI (b), zI ((k + 1 : Nat) : Int), zU]) ⟨Or.inl rfl, Or.inl rfl, Or.inl rfl, Or.inl rfl, Or.inl rfl, Or.inl rfl, Or.inl rfl, Or.inr rfl, trivial⟩ (ih (k + 1) _ _ (by omega) (by rw [zfo_s, ← hp2]; rw [hx, zhr_0 h_63]) (by omega))
          · refine z_iload_7 dX12_listens_66 ?_
            refine z_istore_4 rfl dX12_listens_68 ?_
            refine z_aload_0 dX12_listens_70 ?_
            refine z_getF 413 20 rfl f_X12_68 zl_393 rfl rfl dX12_listens_71 ?_
            refine z_iload_6 dX12_listens_74 ?_
            refine z_iald zl_413 (by omega) (by omega) dX12_listens_76 ?_
            refine z_istore_5 rfl dX12_listens_77 ?_
            refine z_iinc_6 rfl dX12_listens_79 (by omega) ?_
            refine z_goto (tgt := 9) dX12_listens_82 (by decide) ?_
            refine z_weak (ls' := [zR 393, zI i, zI t, zI c, zI (0), zI (μ 413 (k : Int)), zI ((k + 1 : Nat) : Int), zU]) ⟨Or.inl rfl, Or.inl rfl, Or.inl rfl, Or.inl rfl, Or.inl rfl, Or.inl rfl, Or.inl rfl, Or.inr rfl, trivial⟩ (ih (k + 1) _ _ (by omega) (by rw [zfo_s, ← hp2]; rw [hx, zhr_1 h_63]) (by omega))
  refine z_iconst dX12_listens_0 (by decide) ?_
  refine z_istore_4 rfl dX12_listens_1 ?_
  refine z_iconst dX12_listens_3 (by decide) ?_
  refine z_istore_5 rfl dX12_listens_4 ?_
  refine z_iconst dX12_listens_6 (by decide) ?_
  refine z_istore_6 rfl dX12_listens_7 ?_
  exact L 300 0 0 (-1) (by omega) rfl (by omega)
