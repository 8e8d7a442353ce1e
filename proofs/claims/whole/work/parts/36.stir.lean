theorem zN_wok {e : Nat} (he : zAt zp4 e) {b : Int} (b0 : 0 ≤ b) (b1 : b < 5) : zl (e + 4 + b.toNat) = (20, 40) := by
  rcases (by omega : b = 0 ∨ b = 1 ∨ b = 2 ∨ b = 3 ∨ b = 4) with rfl | rfl | rfl | rfl | rfl
  · exact he.at 4 rfl
  · exact he.at 5 rfl
  · exact he.at 6 rfl
  · exact he.at 7 rfl
  · exact he.at 8 rfl
theorem zN_see {e : Nat} (he : zAt zp4 e) {b : Int} (b0 : 0 ≤ b) (b1 : b < 5) : zl (e + 10 + b.toNat) = (20, 40) := by
  rcases (by omega : b = 0 ∨ b = 1 ∨ b = 2 ∨ b = 3 ∨ b = 4) with rfl | rfl | rfl | rfl | rfl
  · exact he.at 10 rfl
  · exact he.at 11 rfl
  · exact he.at 12 rfl
  · exact he.at 13 rfl
  · exact he.at 14 rfl
noncomputable def zZm (V : zM) (fan t : Int) (S : zM) : zM := fun k x => match k with
  | 3 => S 3 x
  | k => zZl V fan t S k x
theorem zZm_0 {V : zM} {fan t : Int} {S : zM} {x : Int} : zZm V fan t S 0 x = zZh V fan t S x := rfl
theorem zZm_1 {V : zM} {fan t : Int} {S : zM} {x : Int} : zZm V fan t S 1 x = zZs V fan t S x := rfl
theorem zZm_2 {V : zM} {fan t : Int} {S : zM} {x : Int} : zZm V fan t S 2 x = zif (zZw V fan t S x) 0 (zif (S 0 x = 1) (zif (zZn V fan t S x < V 4 x) (S 2 x + 1) 0) (S 2 x)) := rfl
theorem zZm_3 {V : zM} {fan t : Int} {S : zM} {x : Int} : zZm V fan t S 3 x = S 3 x := rfl
theorem zZm_4 {V : zM} {fan t : Int} {S : zM} {x : Int} : zZm V fan t S 4 x = S 4 x + zif (zZw V fan t S x) 1 0 := rfl
theorem zZm_10 {V : zM} {fan t : Int} {S : zM} {s k : Int} (h0 : 0 ≤ k) (h1 : k < 40) : zZm V fan t S 10 (40 * s + k) = zif (zZw V fan t S s ∧ k = S 4 s) (100 * t + (zLd V t S s).2) (S 10 (40 * s + k)) := by
  have e : zZm V fan t S 10 (40 * s + k) = zif (zZw V fan t S ((40 * s + k) / 40) ∧ (40 * s + k) % 40 = S 4 ((40 * s + k) / 40)) (100 * t + (zLd V t S ((40 * s + k) / 40)).2) (S 10 (40 * s + k)) := rfl
  rw [e, show (40 * s + k) / 40 = s by omega, show (40 * s + k) % 40 = k by omega]
def zSt (V : zM) (fan t : Int) (S : zM) (n : Nat) (i : Int) (μ ν : zM) : Prop := zZ1 ν n (zZm V fan t S) i ∧ ∀ a x, a ≠ n + 4 + i.toNat → ¬ (x = i ∧ (a = n + 62 ∨ a = n + 63 ∨ a = n + 64 ∨ a = n + 2)) → ν a x = μ a x
/-- nothing written: she sleeps on, or is out -/
theorem zZm_n {V : zM} {fan t : Int} {S μ : zM} {n : Nat} {i : Int} (z : zZ1 μ n S i) (w : ¬ zZw V fan t S i) (h1 : S 0 i ≠ 1) (h4 : S 4 i ≤ 40) : zZ1 μ n (zZm V fan t S) i := by
  have f : ¬ zZf V fan t S i := fun q => h1 q.1
  exact zZ1_cg z (by rw [zZm_0]; unfold zZh; rw [zif_f w, zif_f f]) (fun _ => by rw [zZm_1]; unfold zZs; rw [zif_f f]) (fun q => absurd q h1) rfl (by rw [zZm_4, zif_f w]; omega) (fun k k0 k1 => by rw [zZm_10 k0 (by omega), zif_f (fun q => w q.1)])
theorem zst_A {V : zM} {fan t : Int} {S μ : zM} {n : Nat} {i : Int} (z : zZ1 μ n S i) (w : ¬ zZw V fan t S i) (h1 : S 0 i ≠ 1) (h4 : S 4 i ≤ 40) : zSt V fan t S n i μ μ := ⟨zZm_n z w h1 h4, fun _ _ _ _ => rfl⟩
theorem zst_B {V : zM} {fan t : Int} {S μ : zM} {n : Nat} {i : Int} (i0 : 0 ≤ i) (i1 : i < 5) (z : zZ1 μ n S i) (w : zZw V fan t S i) (h4 : 0 ≤ S 4 i ∧ S 4 i < 40) : zSt V fan t S n i μ (zup (zup (zup (zup μ (n + 62) i 1) (n + 64) i 0) (n + 4 + i.toNat) (S 4 i) (100 * t + (zLd V t S i).2)) (n + 2) i (S 4 i + 1)) := by
  generalize hζ : zup (zup (zup (zup μ (n + 62) i 1) (n + 64) i 0) (n + 4 + i.toNat) (S 4 i) (100 * t + (zLd V t S i).2)) (n + 2) i (S 4 i + 1) = ζ
  replace hζ := hζ.symm
  obtain ⟨g0, g1, g2, g3, g4, g5⟩ := z
  have e0 : zZm V fan t S 0 i = 1 := by rw [zZm_0]; unfold zZh; rw [zif_t w]
  refine ⟨⟨by rw [e0, hζ]; (repeat (first | rw [zup_eq] | rw [zup_row (by omega)] | rw [zup_ne (Or.inr (by omega))])), by rw [zZm_3, ← g1, hζ]; (repeat (first | rw [zup_eq] | rw [zup_row (by omega)] | rw [zup_ne (Or.inr (by omega))])), by rw [zZm_4, zif_t w, hζ]; (repeat (first | rw [zup_eq] | rw [zup_row (by omega)] | rw [zup_ne (Or.inr (by omega))])), fun q => absurd q (by rw [e0]; decide), fun _ => by rw [zZm_2, zif_t w, hζ]; (repeat (first | rw [zup_eq] | rw [zup_row (by omega)] | rw [zup_ne (Or.inr (by omega))])), fun k k0 k1 => ?_⟩, fun a x a1 a2 => ?_⟩
  · rw [zZm_4, zif_t w] at k1
    rw [zZm_10 k0 (by omega)]
    by_cases q : k = S 4 i
    · rw [zif_t ⟨w, q⟩, q, hζ]; (repeat (first | rw [zup_eq] | rw [zup_row (by omega)] | rw [zup_ne (Or.inr (by omega))]))
    · rw [zif_f (fun c => q c.2), ← g5 k k0 (by omega), hζ]; (repeat (first | rw [zup_eq] | rw [zup_row (by omega)] | rw [zup_ne (Or.inr (by omega))]))
  · rw [hζ]
    have b1 : ¬ (a = n + 2 ∧ x = i) := fun q => a2 ⟨q.2, Or.inr (Or.inr (Or.inr q.1))⟩
    have b2 : ¬ (a = n + 64 ∧ x = i) := fun q => a2 ⟨q.2, Or.inr (Or.inr (Or.inl q.1))⟩
    have b3 : ¬ (a = n + 62 ∧ x = i) := fun q => a2 ⟨q.2, Or.inl q.1⟩
    rw [zup_ne (by omega), zup_ne (Or.inl a1), zup_ne (by omega), zup_ne (by omega)]
theorem zst_C {V : zM} {fan t : Int} {S μ : zM} {n : Nat} {i q : Int} (i0 : 0 ≤ i) (i1 : i < 5) (z : zZ1 μ n S i) (h1 : S 0 i = 1) (f : ¬ zZf V fan t S i) (hq : q = zif (zZn V fan t S i < V 4 i) (S 2 i + 1) 0) (h4 : S 4 i ≤ 40) : zSt V fan t S n i μ (zup μ (n + 64) i q) := by
  have w : ¬ zZw V fan t S i := fun c => by have := c.1; omega
  generalize hζ : zup μ (n + 64) i q = ζ
  replace hζ := hζ.symm
  obtain ⟨g0, g1, g2, g3, g4, g5⟩ := z
  have e0 : zZm V fan t S 0 i = 1 := by rw [zZm_0]; unfold zZh; rw [zif_f w, zif_f f, h1]
  refine ⟨⟨by rw [e0, ← h1, ← g0, hζ]; (repeat (first | rw [zup_eq] | rw [zup_row (by omega)] | rw [zup_ne (Or.inr (by omega))])), by rw [zZm_3, ← g1, hζ]; (repeat (first | rw [zup_eq] | rw [zup_row (by omega)] | rw [zup_ne (Or.inr (by omega))])), by rw [zZm_4, zif_f w, Int.add_zero, ← g2, hζ]; (repeat (first | rw [zup_eq] | rw [zup_row (by omega)] | rw [zup_ne (Or.inr (by omega))])), fun q => absurd q (by rw [e0]; decide), fun _ => by rw [zZm_2, zif_f w, zif_t h1, ← hq, hζ]; (repeat (first | rw [zup_eq] | rw [zup_row (by omega)] | rw [zup_ne (Or.inr (by omega))])), fun k k0 k1 => ?_⟩, fun a x a1 a2 => ?_⟩
  · rw [zZm_4, zif_f w] at k1
    rw [zZm_10 k0 (by omega), zif_f (fun c => w c.1), ← g5 k k0 (by omega), hζ]; (repeat (first | rw [zup_eq] | rw [zup_row (by omega)] | rw [zup_ne (Or.inr (by omega))]))
  · rw [hζ]
    have b2 : ¬ (a = n + 64 ∧ x = i) := fun q => a2 ⟨q.2, Or.inr (Or.inr (Or.inl q.1))⟩
    rw [zup_ne (by omega)]
theorem zst_D {V : zM} {fan t : Int} {S μ : zM} {n : Nat} {i q : Int} (i0 : 0 ≤ i) (i1 : i < 5) (z : zZ1 μ n S i) (f : zZf V fan t S i) (h4 : S 4 i ≤ 40) : zSt V fan t S n i μ (zup (zup (zup μ (n + 64) i q) (n + 62) i 2) (n + 63) i t) := by
  have w : ¬ zZw V fan t S i := fun c => by have := c.1; have := f.1; omega
  generalize hζ : zup (zup (zup μ (n + 64) i q) (n + 62) i 2) (n + 63) i t = ζ
  replace hζ := hζ.symm
  obtain ⟨g0, g1, g2, g3, g4, g5⟩ := z
  have e0 : zZm V fan t S 0 i = 2 := by rw [zZm_0]; unfold zZh; rw [zif_f w, zif_t f]
  refine ⟨⟨by rw [e0, hζ]; (repeat (first | rw [zup_eq] | rw [zup_row (by omega)] | rw [zup_ne (Or.inr (by omega))])), by rw [zZm_3, ← g1, hζ]; (repeat (first | rw [zup_eq] | rw [zup_row (by omega)] | rw [zup_ne (Or.inr (by omega))])), by rw [zZm_4, zif_f w, Int.add_zero, ← g2, hζ]; (repeat (first | rw [zup_eq] | rw [zup_row (by omega)] | rw [zup_ne (Or.inr (by omega))])), fun _ => by rw [zZm_1]; unfold zZs; rw [zif_t f, hζ]; (repeat (first | rw [zup_eq] | rw [zup_row (by omega)] | rw [zup_ne (Or.inr (by omega))])), fun q => absurd q (by rw [e0]; decide), fun k k0 k1 => ?_⟩, fun a x a1 a2 => ?_⟩
  · rw [zZm_4, zif_f w] at k1
    rw [zZm_10 k0 (by omega), zif_f (fun c => w c.1), ← g5 k k0 (by omega), hζ]; (repeat (first | rw [zup_eq] | rw [zup_row (by omega)] | rw [zup_ne (Or.inr (by omega))]))
  · rw [hζ]
    have b1 : ¬ (a = n + 63 ∧ x = i) := fun q => a2 ⟨q.2, Or.inr (Or.inl q.1)⟩
    have b2 : ¬ (a = n + 64 ∧ x = i) := fun q => a2 ⟨q.2, Or.inr (Or.inr (Or.inl q.1))⟩
    have b3 : ¬ (a = n + 62 ∧ x = i) := fun q => a2 ⟨q.2, Or.inl q.1⟩
    rw [zup_ne (by omega), zup_ne (by omega), zup_ne (by omega)]
set_option maxRecDepth 100000 in
set_option maxHeartbeats 4000000 in
theorem k_X4_stir {l : Launch} {E : zE} {S : zM} {n h : Nat} {μ : zM} {V : zM} {fan : Int} (hn : zAt zp4 n) (hh : zAt zp2 h) (hd : h + 22 ≤ n ∨ n + 78 ≤ h) (ok : zOK V) (np : zNp V fan μ n h) {i t : Int} (i0 : 0 ≤ i) (i1 : i < V 3 3) (t0 : 0 ≤ t) (t1 : t < 40) (hfan : 0 ≤ fan ∧ fan ≤ 100) (hm1 : μ n 13 = (zLd V t S i).1) (hm2 : μ n 14 = (zLd V t S i).2) (hz : zZ1 μ n S i) (hi : zZi V t S i) (h0 : S 0 i ≠ 0) : Ct l E yX4_stir cX4_stir 4 none ({ frames := 2, cells := 0, slots := 0, locals := 44 }) [zR n, zI i, zI t] μ (fun r ν => r = none ∧ zSt V fan t S n i μ ν) := by
  refine Ct.of RX4 [zR n, zI i, zI t, zU] (by decide +kernel) rfl ⟨rfl, rfl⟩ rfl (Nat.le_of_ble_eq_true rfl) (fun X hX hc0 ha0 => ?_)
  subst hX
  have np0 := np
  obtain ⟨h8, h9, rfl, hE⟩ := np
  obtain ⟨nb, nf, nd, npp, ns, nr⟩ := zOK_n ok
  have pc3 : zHV μ h 3 3 = μ (h + 5) 6 := rfl
  have hN : h < 420 := zl_lt (hh.at 0 rfl) (by decide)
  have nN : n < 420 := zl_lt (hn.at 0 rfl) (by decide)
  have pp := ok.2.1.2 i i0 i1
  have hcv : μ (n + 49) t = fan + zCv (zHV μ h) t := hE.2.2.1 t t0 t1
  have cvb := zCv_b (t := t) ok
  have e4 : μ (h + 6) i = zHV μ h 4 i := (zHV_4 i0 i1).symm
  have e5 : μ (h + 7) i = zHV μ h 5 i := (zHV_5 i0 i1).symm
  have g0 := hz.1
  have g2 := hz.2.2.1
  have d3 := zDp_b (t - S 1 i)
  have z4 := hi.2.2.2.2.2
  refine z_fact (fun hcx _ _ => ?_)
  have z13 := hcx.1 n 13
  unfold zin at z13
  have hln := zLd_n (V := zHV μ h) (t := t) (S := S) (i := i)
  have hlw := zLd_w (V := zHV μ h) (t := t) (S := S) (i := i) ok
  refine z_iconst dX4_stir_0 (by decide) ?_
  refine z_aload_0 dX4_stir_1 ?_
  refine z_getI 13 rfl f_X4_103 (hn.at 0 rfl) rfl dX4_stir_2 ?_
  refine z_aload_0 dX4_stir_5 ?_
  refine z_getF (n + 15) 15 rfl f_X4_29 (hn.at 0 rfl) rfl rfl dX4_stir_6 ?_
  refine z_getF (n + 49) 34 rfl f_X4_106 (hn.at 15 rfl) rfl rfl dX4_stir_9 ?_
  refine z_iload_2 dX4_stir_12 ?_
  refine z_iald (hn.at 49 rfl) (by omega) (by omega) dX4_stir_13 ?_
  refine z_isub dX4_stir_14 (by omega) ?_
  refine z_max l_X4_109 ⟨Nat.le_of_ble_eq_true rfl, Nat.le_of_ble_eq_true rfl⟩ dX4_stir_15 ?_
  rw [show max 0 (μ n 13 - μ (n + 49) t) = zZn (zHV μ h) fan t S i by unfold zZn; rw [hm1, hcv]]
  have hnz : zZn (zHV μ h) fan t S i = max 0 ((zLd (zHV μ h) t S i).1 - (fan + zCv (zHV μ h) t)) := rfl
  refine z_istore_3 rfl dX4_stir_18 ?_
  refine z_aload_0 dX4_stir_19 ?_
  refine z_getF (n + 62) 62 rfl f_X4_33 (hn.at 0 rfl) rfl rfl dX4_stir_20 ?_
  refine z_iload_1 dX4_stir_23 ?_
  refine z_iald (hn.at 62 rfl) (by omega) (by omega) dX4_stir_24 ?_
  rw [g0]
  refine z_iconst dX4_stir_25 (by decide) ?_
  refine z_icmpne (tgt := 102) dX4_stir_26 (by decide) (fun h_26 => ?_) (fun h_26 => ?_)
  · have h1 : S 0 i = 1 := by rcases hi.1 with q | q | q <;> omega
    have g4 := hz.2.2.2.2.1 h1
    have z2 := hi.2.2.1 h1
    refine z_aload_0 dX4_stir_102 ?_
    refine z_getF (n + 64) 64 rfl f_X4_39 (hn.at 0 rfl) rfl rfl dX4_stir_103 ?_
    refine z_iload_1 dX4_stir_106 ?_
    refine z_iload_3 dX4_stir_107 ?_
    refine z_aload_0 dX4_stir_108 ?_
    refine z_getM 8 rfl (h + 5) f_X4_45 (hn.at 0 rfl) rfl (by first | exact h8 | (rw [zup_row (by omega)]; exact h8)) dX4_stir_109 ?_
    refine z_getF (h + 6) 1 rfl f_X4_114 (hh.at 5 rfl) rfl rfl dX4_stir_112 ?_
    refine z_iload_1 dX4_stir_115 ?_
    refine z_iald (hh.at 6 rfl) (by omega) (by omega) dX4_stir_116 ?_
    rw [e4]
    refine z_icmpge (tgt := 131) dX4_stir_117 (by decide) (fun h_117 => ?_) (fun h_117 => ?_)
    · replace h_117 : ¬ (zZn (zHV μ h) fan t S i < zHV μ h 4 i) := by omega
      refine z_iconst dX4_stir_131 (by decide) ?_
      refine z_iast (hn.at 64 rfl) (by omega) (by omega) dX4_stir_132 ?_
      refine z_aload_0 dX4_stir_133 ?_
      refine z_getF (n + 64) 64 rfl f_X4_39 (hn.at 0 rfl) rfl rfl dX4_stir_134 ?_
      refine z_iload_1 dX4_stir_137 ?_
      refine z_iald (hn.at 64 rfl) (by omega) (by omega) dX4_stir_138 ?_
      rw [zup_eq]
      refine z_aload_0 dX4_stir_139 ?_
      refine z_getM 8 rfl (h + 5) f_X4_45 (hn.at 0 rfl) rfl (by first | exact h8 | (rw [zup_row (by omega)]; exact h8)) dX4_stir_140 ?_
      refine z_getF (h + 7) 2 rfl f_X4_120 (hh.at 5 rfl) rfl rfl dX4_stir_143 ?_
      refine z_iload_1 dX4_stir_146 ?_
      refine z_iald (hh.at 7 rfl) (by omega) (by omega) dX4_stir_147 ?_
      rw [zup_row (by omega), e5]
      refine z_icmplt (tgt := 165) dX4_stir_148 (by decide) (fun h_148 => ?_) (fun h_148 => ?_)
      · exact z_vret dX4_stir_165 (⟨rfl, zst_C i0 (by omega) hz h1 (fun q => h_117 q.2.1) (zif_f h_117).symm (by omega)⟩)
      · refine z_aload_0 dX4_stir_151 ?_
        refine z_getF (n + 62) 62 rfl f_X4_33 (hn.at 0 rfl) rfl rfl dX4_stir_152 ?_
        refine z_iload_1 dX4_stir_155 ?_
        refine z_iconst dX4_stir_156 (by decide) ?_
        refine z_iast (hn.at 62 rfl) (by omega) (by omega) dX4_stir_157 ?_
        refine z_aload_0 dX4_stir_158 ?_
        refine z_getF (n + 63) 63 rfl f_X4_36 (hn.at 0 rfl) rfl rfl dX4_stir_159 ?_
        refine z_iload_1 dX4_stir_162 ?_
        refine z_iload_2 dX4_stir_163 ?_
        refine z_iast (hn.at 63 rfl) (by omega) (by omega) dX4_stir_164 ?_
        exact z_vret dX4_stir_165 (absurd h_148 (by omega))
    · replace h_117 : zZn (zHV μ h) fan t S i < zHV μ h 4 i := by omega
      refine z_aload_0 dX4_stir_120 ?_
      refine z_getF (n + 64) 64 rfl f_X4_39 (hn.at 0 rfl) rfl rfl dX4_stir_121 ?_
      refine z_iload_1 dX4_stir_124 ?_
      refine z_iald (hn.at 64 rfl) (by omega) (by omega) dX4_stir_125 ?_
      rw [g4]
      refine z_iconst dX4_stir_126 (by decide) ?_
      refine z_iadd dX4_stir_127 (by omega) ?_
      refine z_goto (tgt := 132) dX4_stir_128 (by decide) ?_
      refine z_iast (hn.at 64 rfl) (by omega) (by omega) dX4_stir_132 ?_
      refine z_aload_0 dX4_stir_133 ?_
      refine z_getF (n + 64) 64 rfl f_X4_39 (hn.at 0 rfl) rfl rfl dX4_stir_134 ?_
      refine z_iload_1 dX4_stir_137 ?_
      refine z_iald (hn.at 64 rfl) (by omega) (by omega) dX4_stir_138 ?_
      rw [zup_eq]
      refine z_aload_0 dX4_stir_139 ?_
      refine z_getM 8 rfl (h + 5) f_X4_45 (hn.at 0 rfl) rfl (by first | exact h8 | (rw [zup_row (by omega)]; exact h8)) dX4_stir_140 ?_
      refine z_getF (h + 7) 2 rfl f_X4_120 (hh.at 5 rfl) rfl rfl dX4_stir_143 ?_
      refine z_iload_1 dX4_stir_146 ?_
      refine z_iald (hh.at 7 rfl) (by omega) (by omega) dX4_stir_147 ?_
      rw [zup_row (by omega), e5]
      refine z_icmplt (tgt := 165) dX4_stir_148 (by decide) (fun h_148 => ?_) (fun h_148 => ?_)
      · exact z_vret dX4_stir_165 (⟨rfl, zst_C i0 (by omega) hz h1 (fun q => by have := q.2.2; omega) (zif_t h_117).symm (by omega)⟩)
      · refine z_aload_0 dX4_stir_151 ?_
        refine z_getF (n + 62) 62 rfl f_X4_33 (hn.at 0 rfl) rfl rfl dX4_stir_152 ?_
        refine z_iload_1 dX4_stir_155 ?_
        refine z_iconst dX4_stir_156 (by decide) ?_
        refine z_iast (hn.at 62 rfl) (by omega) (by omega) dX4_stir_157 ?_
        refine z_aload_0 dX4_stir_158 ?_
        refine z_getF (n + 63) 63 rfl f_X4_36 (hn.at 0 rfl) rfl rfl dX4_stir_159 ?_
        refine z_iload_1 dX4_stir_162 ?_
        refine z_iload_2 dX4_stir_163 ?_
        refine z_iast (hn.at 63 rfl) (by omega) (by omega) dX4_stir_164 ?_
        exact z_vret dX4_stir_165 (⟨rfl, zst_D i0 (by omega) hz ⟨h1, h_117, h_148⟩ (by omega)⟩)
  · have g3 := hz.2.2.2.1 h_26
    have z1 := hi.2.2.2.1 h_26
    refine z_iload_3 dX4_stir_29 ?_
    refine z_aload_0 dX4_stir_30 ?_
    refine z_getM 8 rfl (h + 5) f_X4_45 (hn.at 0 rfl) rfl (by first | exact h8 | (rw [zup_row (by omega)]; exact h8)) dX4_stir_31 ?_
    refine z_getF (h + 6) 1 rfl f_X4_114 (hh.at 5 rfl) rfl rfl dX4_stir_34 ?_
    refine z_iload_1 dX4_stir_37 ?_
    refine z_iald (hh.at 6 rfl) (by omega) (by omega) dX4_stir_38 ?_
    rw [e4]
    refine z_iconst dX4_stir_39 (by decide) ?_
    refine z_aload_0 dX4_stir_40 ?_
    refine z_getF (n + 63) 63 rfl f_X4_36 (hn.at 0 rfl) rfl rfl dX4_stir_41 ?_
    refine z_iload_1 dX4_stir_44 ?_
    refine z_iald (hn.at 63 rfl) (by omega) (by omega) dX4_stir_45 ?_
    rw [g3]
    refine z_iload_2 dX4_stir_46 ?_
    refine z_callN2 (k_X11_deep ⟨by omega, by omega⟩ ⟨by omega, by omega⟩) m_X11_deep n_X4_99 (Nat.le_of_ble_eq_true rfl) ⟨Nat.le_of_ble_eq_true rfl, Nat.le_of_ble_eq_true rfl⟩ ⟨rfl, rfl⟩ dX4_stir_47 (fun r μ1 hp => ?_)
    obtain ⟨rfl, hv⟩ := hp
    replace hv := hv.symm
    subst hv
    refine z_imul dX4_stir_50 (by omega) ?_
    refine z_iadd dX4_stir_51 (by omega) ?_
    refine z_icmplt (tgt := 101) dX4_stir_52 (by decide) (fun h_52 => ?_) (fun h_52 => ?_)
    · exact z_vret dX4_stir_101 (⟨rfl, zst_A hz (fun q => by have := q.2; omega) (by omega) (by omega)⟩)
    · have hw : zZw (zHV μ h) fan t S i := ⟨h_26, by omega⟩
      have hlb := hlw (by omega)
      refine z_aload_0 dX4_stir_55 ?_
      refine z_getF (n + 62) 62 rfl f_X4_33 (hn.at 0 rfl) rfl rfl dX4_stir_56 ?_
      refine z_iload_1 dX4_stir_59 ?_
      refine z_iconst dX4_stir_60 (by decide) ?_
      refine z_iast (hn.at 62 rfl) (by omega) (by omega) dX4_stir_61 ?_
      refine z_aload_0 dX4_stir_62 ?_
      refine z_getF (n + 64) 64 rfl f_X4_39 (hn.at 0 rfl) rfl rfl dX4_stir_63 ?_
      refine z_iload_1 dX4_stir_66 ?_
      refine z_iconst dX4_stir_67 (by decide) ?_
      refine z_iast (hn.at 64 rfl) (by omega) (by omega) dX4_stir_68 ?_
      refine z_aload_0 dX4_stir_69 ?_
      refine z_getF (n + 3) 3 rfl f_X4_20 (hn.at 0 rfl) rfl rfl dX4_stir_70 ?_
      refine z_iload_1 dX4_stir_73 ?_
      refine z_row (n + 4 + i.toNat) (by omega) (hn.at 3 rfl) (by omega) (by omega) dX4_stir_74 ?_
      refine z_aload_0 dX4_stir_75 ?_
      refine z_getF (n + 2) 2 rfl f_X4_15 (hn.at 0 rfl) rfl rfl dX4_stir_76 ?_
      refine z_iload_1 dX4_stir_79 ?_
      refine z_iald (hn.at 2 rfl) (by omega) (by omega) dX4_stir_80 ?_
      rw [show zup (zup μ (n + 62) i 1) (n + 64) i 0 (n + 2) i = S 4 i by (repeat (first | rw [zup_eq] | rw [zup_row (by omega)] | rw [zup_ne (Or.inr (by omega))])); exact g2]
      refine z_bipush dX4_stir_81 (by decide) ?_
      refine z_iload_2 dX4_stir_83 ?_
      refine z_imul dX4_stir_84 (by omega) ?_
      refine z_aload_0 dX4_stir_85 ?_
      refine z_getI 14 rfl f_X4_117 (hn.at 0 rfl) rfl dX4_stir_86 ?_
      rw [show zup (zup μ (n + 62) i 1) (n + 64) i 0 n 14 = (zLd (zHV μ h) t S i).2 by (repeat (first | rw [zup_eq] | rw [zup_row (by omega)] | rw [zup_ne (Or.inr (by omega))])); exact hm2]
      refine z_iadd dX4_stir_89 (by omega) ?_
      refine z_iast (zN_wok hn i0 (by omega)) (by omega) (by omega) dX4_stir_90 ?_
      refine z_aload_0 dX4_stir_91 ?_
      refine z_getF (n + 2) 2 rfl f_X4_15 (hn.at 0 rfl) rfl rfl dX4_stir_92 ?_
      refine z_iload_1 dX4_stir_95 ?_
      refine z_dup2 dX4_stir_96 rfl rfl ?_
      refine z_iald (hn.at 2 rfl) (by omega) (by omega) dX4_stir_97 ?_
      rw [show zup (zup (zup μ (n + 62) i 1) (n + 64) i 0) (n + 4 + i.toNat) (S 4 i) (100 * t + (zLd (zHV μ h) t S i).2) (n + 2) i = S 4 i by (repeat (first | rw [zup_eq] | rw [zup_row (by omega)] | rw [zup_ne (Or.inr (by omega))])); exact g2]
      refine z_iconst dX4_stir_98 (by decide) ?_
      refine z_iadd dX4_stir_99 (by omega) ?_
      refine z_iast (hn.at 2 rfl) (by omega) (by omega) dX4_stir_100 ?_
      exact z_vret dX4_stir_101 (⟨rfl, zst_B i0 (by omega) hz hw (by omega)⟩)
def zNo (T : zM) (n : Nat) (i t : Int) (μ ν : zM) : Prop := ν (n + 1) i = T 3 i + zif (T 0 i = 2) 1 0 ∧ ν (n + 10 + i.toNat) t = zif (T 0 i = 2) (2 + zDp (t - T 1 i)) (T 0 i) ∧ ∀ a x, ¬ (a = n + 1 ∧ x = i) → ¬ (a = n + 10 + i.toNat ∧ x = t) → ν a x = μ a x
set_option maxRecDepth 100000 in
set_option maxHeartbeats 4000000 in
theorem k_X4_note {l : Launch} {E : zE} {T : zM} {n : Nat} {μ : zM} {i t : Int} (hn : zAt zp4 n) (i0 : 0 ≤ i) (i1 : i < 5) (t0 : 0 ≤ t) (t1 : t < 40) (hz : zZ1 μ n T i) (h3 : 0 ≤ T 3 i ∧ T 3 i ≤ 100) (hs : T 0 i = 2 → 0 ≤ T 1 i ∧ T 1 i ≤ 100) : Ct l E yX4_note cX4_note 3 none ({ frames := 2, cells := 0, slots := 0, locals := 44 }) [zR n, zI i, zI t] μ (fun r ν => r = none ∧ zNo T n i t μ ν) := by
  refine Ct.of RX4 [zR n, zI i, zI t] (by decide +kernel) rfl ⟨rfl, rfl⟩ rfl (Nat.le_of_ble_eq_true rfl) (fun X hX hc0 ha0 => ?_)
  subst hX
  have g0 := hz.1
  have g1 := hz.2.1
  have d3 := zDp_b (t - T 1 i)
  have nN : n < 420 := zl_lt (hn.at 0 rfl) (by decide)
  refine z_aload_0 dX4_note_0 ?_
  refine z_getF (n + 62) 62 rfl f_X4_33 (hn.at 0 rfl) rfl rfl dX4_note_1 ?_
  refine z_iload_1 dX4_note_4 ?_
  refine z_iald (hn.at 62 rfl) (by omega) (by omega) dX4_note_5 ?_
  rw [g0]
  refine z_iconst dX4_note_6 (by decide) ?_
  refine z_icmpne (tgt := 43) dX4_note_7 (by decide) (fun h_7 => ?_) (fun h_7 => ?_)
  · refine z_aload_0 dX4_note_43 ?_
    refine z_getF (n + 9) 9 rfl f_X4_23 (hn.at 0 rfl) rfl rfl dX4_note_44 ?_
    refine z_iload_1 dX4_note_47 ?_
    refine z_row (n + 10 + i.toNat) (by omega) (hn.at 9 rfl) (by omega) (by omega) dX4_note_48 ?_
    refine z_iload_2 dX4_note_49 ?_
    refine z_aload_0 dX4_note_50 ?_
    refine z_getF (n + 62) 62 rfl f_X4_33 (hn.at 0 rfl) rfl rfl dX4_note_51 ?_
    refine z_iload_1 dX4_note_54 ?_
    refine z_iald (hn.at 62 rfl) (by omega) (by omega) dX4_note_55 ?_
    rw [g0]
    refine z_iast (zN_see hn i0 i1) (by omega) (by omega) dX4_note_56 ?_
    exact z_vret dX4_note_57 (⟨rfl, by rw [zif_f h_7]; (repeat (first | rw [zup_eq] | rw [zup_row (by omega)] | rw [zup_ne (Or.inr (by omega))])); omega, by rw [zif_f h_7]; (repeat (first | rw [zup_eq] | rw [zup_row (by omega)] | rw [zup_ne (Or.inr (by omega))])), fun a x a1 a2 => by rw [zup_ne (by omega)]⟩)
  · have z1 := hs h_7
    have g3 := hz.2.2.2.1 h_7
    refine z_aload_0 dX4_note_10 ?_
    refine z_getF (n + 1) 1 rfl f_X4_9 (hn.at 0 rfl) rfl rfl dX4_note_11 ?_
    refine z_iload_1 dX4_note_14 ?_
    refine z_dup2 dX4_note_15 rfl rfl ?_
    refine z_iald (hn.at 1 rfl) (by omega) (by omega) dX4_note_16 ?_
    rw [g1]
    refine z_iconst dX4_note_17 (by decide) ?_
    refine z_iadd dX4_note_18 (by omega) ?_
    refine z_iast (hn.at 1 rfl) (by omega) (by omega) dX4_note_19 ?_
    refine z_aload_0 dX4_note_20 ?_
    refine z_getF (n + 9) 9 rfl f_X4_23 (hn.at 0 rfl) rfl rfl dX4_note_21 ?_
    refine z_iload_1 dX4_note_24 ?_
    refine z_row (n + 10 + i.toNat) (by omega) (hn.at 9 rfl) (by omega) (by omega) dX4_note_25 ?_
    refine z_iload_2 dX4_note_26 ?_
    refine z_iconst dX4_note_27 (by decide) ?_
    refine z_aload_0 dX4_note_28 ?_
    refine z_getF (n + 63) 63 rfl f_X4_36 (hn.at 0 rfl) rfl rfl dX4_note_29 ?_
    refine z_iload_1 dX4_note_32 ?_
    refine z_iald (hn.at 63 rfl) (by omega) (by omega) dX4_note_33 ?_
    rw [zup_row (by omega), g3]
    refine z_iload_2 dX4_note_34 ?_
    refine z_callN2 (k_X11_deep ⟨by omega, by omega⟩ ⟨by omega, by omega⟩) m_X11_deep n_X4_99 (Nat.le_of_ble_eq_true rfl) ⟨Nat.le_of_ble_eq_true rfl, Nat.le_of_ble_eq_true rfl⟩ ⟨rfl, rfl⟩ dX4_note_35 (fun r μ1 hp => ?_)
    obtain ⟨rfl, hv⟩ := hp
    replace hv := hv.symm
    subst hv
    refine z_iadd dX4_note_38 (by omega) ?_
    refine z_iast (zN_see hn i0 i1) (by omega) (by omega) dX4_note_39 ?_
    refine z_goto (tgt := 57) dX4_note_40 (by decide) ?_
    exact z_vret dX4_note_57 (⟨rfl, by rw [zif_t h_7]; (repeat (first | rw [zup_eq] | rw [zup_row (by omega)] | rw [zup_ne (Or.inr (by omega))])), by rw [zif_t h_7]; (repeat (first | rw [zup_eq] | rw [zup_row (by omega)] | rw [zup_ne (Or.inr (by omega))])), fun a x a1 a2 => by rw [zup_ne (by omega), zup_ne (by omega)]⟩)
