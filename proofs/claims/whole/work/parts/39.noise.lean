/-! THE REFERENCE'S NIGHT: its list of noises -/
theorem zhr_m {p : Int × Int} {a b w : Int} : zhr (zhr p a w) b w = zhr p (max a b) w := by
  by_cases h : p.1 < a
  · rw [zhr_1 h]
    by_cases g : a < b
    · rw [zhr_1 (show ((a, w) : Int × Int).1 < b from g), show max a b = b by omega, zhr_1 (by omega)]
    · rw [zhr_0 (show b ≤ ((a, w) : Int × Int).1 from by show b ≤ a; omega), show max a b = a by omega, zhr_1 h]
  · rw [zhr_0 (p := p) (v := a) (by omega)]
    by_cases g : p.1 < b
    · rw [zhr_1 g, zhr_1 (by omega), show max a b = b by omega]
    · rw [zhr_0 (by omega), zhr_0 (by omega)]
theorem zfo_cov {u v y : Int → Int} {c : Int} (hc : 0 ≤ c) : ∀ {n : Nat}, (∀ i : Nat, i < n → v (i : Int) = max 0 (u (i : Int) - c)) → (zfo v y n (0, -1)).1 = max 0 ((zfo u y n (0, -1)).1 - c) ∧ (0 < (zfo v y n (0, -1)).1 → (zfo v y n (0, -1)).2 = (zfo u y n (0, -1)).2)
  | 0, _ => ⟨by show (0 : Int) = max 0 (0 - c); omega, fun q => absurd q (by show ¬ ((0 : Int) < 0); decide)⟩
  | n + 1, h => by
    have ih := zfo_cov (u := u) (v := v) (y := y) hc (n := n) (fun i hi => h i (by omega))
    have hv := h n (by omega)
    have n1 : (0 : Int) ≤ (zfo u y n (0, -1)).1 := zfo_n (p := (0, -1))
    rw [zfo_s, zfo_s]
    by_cases g : (zfo u y n (0, -1)).1 < u (n : Int)
    · by_cases g2 : (zfo v y n (0, -1)).1 < v (n : Int)
      · rw [zhr_1 g, zhr_1 g2]; exact ⟨hv, fun _ => rfl⟩
      · rw [zhr_1 g, zhr_0 (by omega)]
        exact ⟨by show _ = max 0 (u (n : Int) - c); omega, fun q => by omega⟩
    · rw [zhr_0 (p := zfo u y n (0, -1)) (by omega), zhr_0 (by omega)]; exact ih
theorem zDp_x {x : Int} : (if x % 6 < 4 then x % 6 else 6 - x % 6) = zDp x := by unfold zDp; split <;> split <;> omega
/-- as i hears the k-th noise, cover aside -/
noncomputable def zNu (V : zM) (μ : zM) (i k : Int) : Int := zif (μ 414 k = i) 0 (zFd (μ 412 k) (zWk V (V 2 (V 9 i)) (μ 411 k)) (V 3 1))
noncomputable def zNF (V : zM) (μ : zM) (i : Int) (n : Nat) : Int × Int := zfo (zNu V μ i) (μ 413) n (0, -1)
/-- the noises of the row so far, as each hears them -/
def zNl (V : zM) (μ : zM) (m : Int) (G : Int → Int × Int) : Prop := (0 ≤ μ 393 31 ∧ μ 393 31 ≤ m) ∧ (∀ k, 0 ≤ k → k < μ 393 31 → (0 ≤ μ 411 k ∧ μ 411 k < 36) ∧ (0 ≤ μ 412 k ∧ μ 412 k ≤ 60)) ∧ ∀ i, 0 ≤ i → i < V 3 3 → V 9 i ≠ -1 → zNF V μ i (μ 393 31).toNat = G i
def zNs (μ : zM) (c v b o : Int) : zM := zup (zup (zup (zup (zup μ 411 (μ 393 31) c) 412 (μ 393 31) v) 413 (μ 393 31) b) 414 (μ 393 31) o) 393 31 (μ 393 31 + 1)
theorem zNs_fr {μ : zM} {c v b o : Int} {a : Nat} (h : a ≠ 393) (h2 : a < 411 ∨ 414 < a) : zNs μ c v b o a = μ a := by unfold zNs; (repeat (first | rw [zup_eq] | rw [zup_row (by omega)] | rw [zup_ne (Or.inr (by omega))]))
theorem zNs_k {μ : zM} {c v b o k : Int} (h : k ≠ 31) : zNs μ c v b o 393 k = μ 393 k := by unfold zNs; (repeat (first | rw [zup_eq] | rw [zup_row (by omega)] | rw [zup_ne (Or.inr (by omega))]))
theorem zNl_cg {V μ : zM} {m m2 : Int} {G G2 : Int → Int × Int} (h : zNl V μ m G) (hm : m ≤ m2) (e : ∀ i, 0 ≤ i → i < V 3 3 → V 9 i ≠ -1 → G i = G2 i) : zNl V μ m2 G2 := ⟨⟨h.1.1, by have := h.1.2; omega⟩, h.2.1, fun i i0 i1 l => (h.2.2 i i0 i1 l).trans (e i i0 i1 l)⟩
theorem zNl_n {V μ : zM} {m i : Int} {G : Int → Int × Int} (h : zNl V μ m G) (i0 : 0 ≤ i) (i1 : i < V 3 3) (l : V 9 i ≠ -1) : 0 ≤ (G i).1 := by
  rw [← h.2.2 i i0 i1 l]
  exact zfo_n (p := (0, -1))
theorem zNl_fr {V μ ν : zM} {m : Int} {G : Int → Int × Int} (h : zNl V μ m G) (e : ν 393 31 = μ 393 31) (f : ∀ a, 411 ≤ a → a ≤ 414 → ν a = μ a) : zNl V ν m G := by
  have f1 := f 411 (by decide) (by decide)
  have f2 := f 412 (by decide) (by decide)
  have f3 := f 413 (by decide) (by decide)
  have f4 := f 414 (by decide) (by decide)
  unfold zNl zNF zNu at *
  rw [e, f1, f2, f3, f4]
  exact h
theorem zNl_s {V μ : zM} {m c v b o : Int} {G : Int → Int × Int} (h : zNl V μ m G) (hc : 0 ≤ c ∧ c < 36) (hv : 0 ≤ v ∧ v ≤ 60) : zNl V (zNs μ c v b o) (m + 1) (fun i => zhr (G i) (zif (o = i) 0 (zFd v (zWk V (V 2 (V 9 i)) c) (V 3 1))) b) := by
  have e31 : zNs μ c v b o 393 31 = μ 393 31 + 1 := by unfold zNs; rw [zup_eq]
  have h0 := h.1
  have e11 : ∀ k, zNs μ c v b o 411 k = if k = μ 393 31 then c else μ 411 k := fun k => by unfold zNs; by_cases q : k = μ 393 31; rw [if_pos q, q]; (repeat (first | rw [zup_eq] | rw [zup_row (by omega)] | rw [zup_ne (Or.inr (by omega))])); rw [if_neg q]; (repeat (first | rw [zup_eq] | rw [zup_row (by omega)] | rw [zup_ne (Or.inr (by omega))]))
  have e12 : ∀ k, zNs μ c v b o 412 k = if k = μ 393 31 then v else μ 412 k := fun k => by unfold zNs; by_cases q : k = μ 393 31; rw [if_pos q, q]; (repeat (first | rw [zup_eq] | rw [zup_row (by omega)] | rw [zup_ne (Or.inr (by omega))])); rw [if_neg q]; (repeat (first | rw [zup_eq] | rw [zup_row (by omega)] | rw [zup_ne (Or.inr (by omega))]))
  have e13 : ∀ k, zNs μ c v b o 413 k = if k = μ 393 31 then b else μ 413 k := fun k => by unfold zNs; by_cases q : k = μ 393 31; rw [if_pos q, q]; (repeat (first | rw [zup_eq] | rw [zup_row (by omega)] | rw [zup_ne (Or.inr (by omega))])); rw [if_neg q]; (repeat (first | rw [zup_eq] | rw [zup_row (by omega)] | rw [zup_ne (Or.inr (by omega))]))
  have e14 : ∀ k, zNs μ c v b o 414 k = if k = μ 393 31 then o else μ 414 k := fun k => by unfold zNs; by_cases q : k = μ 393 31; rw [if_pos q, q]; (repeat (first | rw [zup_eq] | rw [zup_row (by omega)] | rw [zup_ne (Or.inr (by omega))])); rw [if_neg q]; (repeat (first | rw [zup_eq] | rw [zup_row (by omega)] | rw [zup_ne (Or.inr (by omega))]))
  refine ⟨by rw [e31]; omega, fun k k0 k1 => ?_, fun i i0 i1 l => ?_⟩
  · rw [e31] at k1
    rw [e11, e12]
    by_cases q : k = μ 393 31
    · rw [if_pos q, if_pos q]; exact ⟨hc, hv⟩
    · rw [if_neg q, if_neg q]; exact h.2.1 k k0 (by omega)
  · rw [e31, show (μ 393 31 + 1).toNat = (μ 393 31).toNat + 1 by omega]
    have g := h.2.2 i i0 i1 l
    have eN : (((μ 393 31).toNat : Nat) : Int) = μ 393 31 := by omega
    have g2 : zfo (zNu V (zNs μ c v b o) i) (zNs μ c v b o 413) (μ 393 31).toNat (0, -1) = G i := by
      rw [← g]
      refine zfo_c (fun k hk => ?_)
      unfold zNu
      rw [e11, e12, e13, e14, if_neg (by omega), if_neg (by omega), if_neg (by omega), if_neg (by omega)]
      exact ⟨rfl, rfl⟩
    unfold zNF
    rw [zfo_s, g2, eN, e13, if_pos rfl]
    have e : zNu V (zNs μ c v b o) i (μ 393 31) = zif (o = i) 0 (zFd v (zWk V (V 2 (V 9 i)) c) (V 3 1)) := by
      unfold zNu
      rw [e11, e12, e14, if_pos rfl, if_pos rfl, if_pos rfl]
    rw [e]
set_option maxRecDepth 100000 in
set_option maxHeartbeats 4000000 in
theorem k_X12_noise {l : Launch} {E : zE} {μ : zM} {c v b o : Int} (hN : 0 ≤ μ 393 31 ∧ μ 393 31 < 220) : Ct l E yX12_noise cX12_noise 5 none ({ frames := 0, cells := 0, slots := 0, locals := 0 }) [zR 393, zI c, zI v, zI b, zI o] μ (fun r ν => r = none ∧ ν = zNs μ c v b o) := by
  refine Ct.of RX12 [zR 393, zI c, zI v, zI b, zI o] (by decide +kernel) rfl ⟨rfl, rfl⟩ rfl (Nat.le_of_ble_eq_true rfl) (fun X hX hc0 ha0 => ?_)
  subst hX
  refine z_aload_0 dX12_noise_0 ?_
  refine z_getF 411 18 rfl f_X12_62 zl_393 rfl rfl dX12_noise_1 ?_
  refine z_aload_0 dX12_noise_4 ?_
  refine z_getI 31 rfl f_X12_265 zl_393 rfl dX12_noise_5 ?_
  refine z_iload_1 dX12_noise_8 ?_
  refine z_iast zl_411 (by omega) (by omega) dX12_noise_9 ?_
  refine z_aload_0 dX12_noise_10 ?_
  refine z_getF 412 19 rfl f_X12_65 zl_393 rfl rfl dX12_noise_11 ?_
  refine z_aload_0 dX12_noise_14 ?_
  refine z_getI 31 rfl f_X12_265 zl_393 rfl dX12_noise_15 ?_
  (repeat rw [zup_row (by decide)])
  refine z_iload_2 dX12_noise_18 ?_
  refine z_iast zl_412 (by omega) (by omega) dX12_noise_19 ?_
  refine z_aload_0 dX12_noise_20 ?_
  refine z_getF 413 20 rfl f_X12_68 zl_393 rfl rfl dX12_noise_21 ?_
  refine z_aload_0 dX12_noise_24 ?_
  refine z_getI 31 rfl f_X12_265 zl_393 rfl dX12_noise_25 ?_
  (repeat rw [zup_row (by decide)])
  refine z_iload_3 dX12_noise_28 ?_
  refine z_iast zl_413 (by omega) (by omega) dX12_noise_29 ?_
  refine z_aload_0 dX12_noise_30 ?_
  refine z_getF 414 21 rfl f_X12_71 zl_393 rfl rfl dX12_noise_31 ?_
  refine z_aload_0 dX12_noise_34 ?_
  refine z_getI 31 rfl f_X12_265 zl_393 rfl dX12_noise_35 ?_
  (repeat rw [zup_row (by decide)])
  refine z_iload_4 dX12_noise_38 ?_
  refine z_iast zl_414 (by omega) (by omega) dX12_noise_40 ?_
  refine z_aload_0 dX12_noise_41 ?_
  refine z_dup dX12_noise_42 rfl ?_
  refine z_getI 31 rfl f_X12_265 zl_393 rfl dX12_noise_43 ?_
  (repeat rw [zup_row (by decide)])
  refine z_iconst dX12_noise_46 (by decide) ?_
  refine z_iadd dX12_noise_47 (by omega) ?_
  refine z_putI 31 rfl f_X12_265 p_12_31 zl_393 rfl rfl dX12_noise_48 ?_
  exact z_vret dX12_noise_51 (⟨rfl, rfl⟩)
set_option maxRecDepth 100000 in
set_option maxHeartbeats 4000000 in
theorem k_X12_bedCell {l : Launch} {E : zE} {μ : zM} {i : Int} (i0 : 0 ≤ i) (i1 : i < zBV (μ 394) 3 3) (ok : zOK (zBV (μ 394))) (hl : zBV (μ 394) 9 i ≠ -1) : Ct l E yX12_bedCell cX12_bedCell 2 (some .int) ({ frames := 1, cells := 0, slots := 0, locals := 22 }) [zR 393, zI i] μ (fun r ν => r = some (zI (zBV (μ 394) 2 (zBV (μ 394) 9 i))) ∧ ν = μ) := by
  refine Ct.of RX12 [zR 393, zI i] (by decide +kernel) rfl ⟨rfl, rfl⟩ rfl (Nat.le_of_ble_eq_true rfl) (fun X hX hc0 ha0 => ?_)
  subst hX
  have pp := ok.2.1.2 i i0 i1
  have pc3 : zBV (μ 394) 3 3 = μ 394 2 := rfl
  have np := ok.2.1.1
  have nb := ok.1.2.1
  have e9 : zBV (μ 394) 9 i = μ 394 (90 + 6 * i + 5) := zBV_9 i0 i1
  have e2 : zBV (μ 394) 2 (zBV (μ 394) 9 i) = μ 394 (82 + zBV (μ 394) 9 i) := zBV_2 (by omega) pp.2.2.2.2.2
  refine z_aload_0 dX12_bedCell_0 ?_
  refine z_getF 394 1 rfl f_X12_7 zl_393 rfl rfl dX12_bedCell_1 ?_
  refine z_bipush dX12_bedCell_4 (by decide) ?_
  refine z_aload_0 dX12_bedCell_6 ?_
  refine z_iload_1 dX12_bedCell_7 ?_
  refine z_iconst dX12_bedCell_8 (by decide) ?_
  refine z_callV2 (k_X12_of (by omega) (by omega) (by decide) (by decide)) m_X12_of zl_393 l_X12_147 (Nat.le_of_ble_eq_true rfl) ⟨Nat.le_of_ble_eq_true rfl, Nat.le_of_ble_eq_true rfl⟩ ⟨rfl, rfl⟩ dX12_bedCell_9 (fun r μ1 hp => ?_)
  obtain ⟨rfl, hv⟩ := hp
  replace hv := hv.symm
  subst hv
  rw [← e9]
  refine z_iadd dX12_bedCell_12 (by omega) ?_
  refine z_iald zl_394 (by omega) (by omega) dX12_bedCell_13 ?_
  rw [← e2]
  exact z_iret dX12_bedCell_14 (⟨rfl, rfl⟩)
set_option maxRecDepth 100000 in
set_option maxHeartbeats 4000000 in
theorem k_X12_deepOf {l : Launch} {E : zE} {μ : zM} {x : Int} (x0 : 0 ≤ x) : Ct l E yX12_deepOf cX12_deepOf 2 (some .int) ({ frames := 0, cells := 0, slots := 0, locals := 0 }) [zI x] μ (fun r ν => r = some (zI (zDp x)) ∧ ν = μ) := by
  refine Ct.of RX12 [zI x, zU] (by decide +kernel) rfl ⟨rfl, rfl⟩ rfl (Nat.le_of_ble_eq_true rfl) (fun X hX hc0 ha0 => ?_)
  subst hX
  refine z_iload_0 dX12_deepOf_0 ?_
  refine z_bipush dX12_deepOf_1 (by decide) ?_
  refine z_irem dX12_deepOf_3 (by omega) (by omega) ?_
  refine z_istore_1 rfl dX12_deepOf_4 ?_
  refine z_iload_1 dX12_deepOf_5 ?_
  refine z_iconst dX12_deepOf_6 (by decide) ?_
  refine z_icmpge (tgt := 14) dX12_deepOf_7 (by decide) (fun h_7 => ?_) (fun h_7 => ?_)
  · refine z_bipush dX12_deepOf_14 (by decide) ?_
    refine z_iload_1 dX12_deepOf_16 ?_
    refine z_isub dX12_deepOf_17 (by omega) ?_
    exact z_iret dX12_deepOf_18 (⟨congrArg (fun z => (some (zI z) : Option zAV)) (by rw [← zDp_x]; first | rw [if_pos h_7] | rw [if_neg (by omega)]), rfl⟩)
  · refine z_iload_1 dX12_deepOf_10 ?_
    refine z_goto (tgt := 18) dX12_deepOf_11 (by decide) ?_
    exact z_iret dX12_deepOf_18 (⟨congrArg (fun z => (some (zI z) : Option zAV)) (by rw [← zDp_x]; first | rw [if_pos h_7] | rw [if_neg (by omega)]), rfl⟩)
/-- on a way to d: whether w is a way on from c -/
def zWn (D : Int → Int) (c w : Int) : Prop := zNb c w ≠ -1 ∧ D (zNb c w) = D c - 1
theorem zWn_i {V : zM} {F : Int → Int} {d c w : Int} (h : zFar V F) (d0 : 0 ≤ d) (d1 : d < 36) (c0 : 0 ≤ c) (c1 : c < 36) (w0 : 0 ≤ w) (w4 : w < 4) (hp : 0 < zWk V d c) : (zNw V c w ≠ -1 ∧ F (36 * zNw V c w + d) = F (36 * c + d) - 1) ↔ zWn (zWk V d) c w := by
  have ec := zFar_e h c0 c1 d0 d1
  rw [zFar_s h c0 c1 d0 d1] at ec
  constructor
  · intro q
    obtain ⟨r0, r1, r2, r3⟩ := zNw_r c0 c1 q.1
    have en := zFar_e h r0.1 r0.2 d0 d1
    rw [zFar_s h r0.1 r0.2 d0 d1] at en
    exact ⟨r3, by rw [← r1]; omega⟩
  · intro q
    have nr := zNb_r c0 c1 q.1
    have o := zDM_op (zFar_d h d0 d1) nr.1 nr.2 (by rw [q.2]; omega)
    have e : zNw V c w = zNb c w := by unfold zNw; rw [if_neg (fun x => o x.2)]
    have en := zFar_e h nr.1 nr.2 d0 d1
    rw [zFar_s h nr.1 nr.2 d0 d1] at en
    rw [e]
    have q2 := q.2
    exact ⟨q.1, by omega⟩
set_option maxRecDepth 100000 in
set_option maxHeartbeats 4000000 in
theorem k_X12_steps {l : Launch} {E : zE} {μ : zM} {i a b m : Int} {G : Int → Int × Int} {V : zM} (hV : zBV (μ 394) = V) (ok : zOK V) (far : zFar V (μ 402)) (a0 : 0 ≤ a) (a1 : a < 36) (b0 : 0 ≤ b) (b1 : b < 36) (ob : V 0 b ≠ 1) (hm : m ≤ 180) (hG : zNl V μ m G) : Ct l E yX12_steps cX12_steps 8 none ({ frames := 2, cells := 0, slots := 0, locals := 49 }) [zR 393, zI i, zI a, zI b] μ (fun r ν => r = none ∧ zNl V ν (m + 40) (fun j => zhr (G j) (zif (i = j) 0 (zWc V (V 9 j) a b)) i) ∧ (∀ k, k ≠ 31 → ν 393 k = μ 393 k) ∧ ∀ x : Nat, x ≠ 393 → (x < 411 ∨ 414 < x) → ν x = μ x) := by
  refine Ct.of RX12 [zR 393, zI i, zI a, zI b, zU, zU, zU, zU] (by decide +kernel) rfl ⟨rfl, rfl⟩ rfl (Nat.le_of_ble_eq_true rfl) (fun X hX hc0 ha0 => ?_)
  subst hX
  have da := zDM_b (zFar_d far b0 b1) a0 a1
  have L : ∀ (k : Nat) (c : Int) (ξ : zM) (A : Int → Int), 0 ≤ c → c < 36 → zWk V b c ≤ zWk V b a → c = a ∨ zWk V b c ≠ -1 → zNl V ξ (m + (zWk V b a - zWk V b c)) (fun j => zhr (G j) (zif (i = j) 0 (A j)) i) → (∀ j, 0 ≤ A j ∧ max (A j) (zWy (zHc V (V 9 j)) (zWk V b) (zWk V b c).toNat c) = zWc V (V 9 j) a b) → (∀ k, k ≠ 31 → ξ 393 k = μ 393 k) → (∀ x : Nat, x ≠ 393 → (x < 411 ∨ 414 < x) → ξ x = μ x) → (zWk V b c).toNat < k → MW X E cX12_steps RX12 ({ frames := 2, cells := 0, slots := 0, locals := 49 }) none (fun r ν => r = none ∧ zNl V ν (m + 40) (fun j => zhr (G j) (zif (i = j) 0 (zWc V (V 9 j) a b)) i) ∧ (∀ k, k ≠ 31 → ν 393 k = μ 393 k) ∧ ∀ x : Nat, x ≠ 393 → (x < 411 ∨ 414 < x) → ν x = μ x) 3 [zR 393, zI i, zI a, zI b, zI c, zU, zU, zU] [] ξ := by
    intro k
    induction k with
    | zero => intro c ξ A c0 c1 hm2 hr hl hA hk hfr h3; omega
    | succ k ih =>
      intro c ξ A c0 c1 hm2 hr hl hA hk hfr h3
      have h94 : ξ 394 = μ 394 := hfr 394 (by decide) (Or.inl (by decide))
      have hV2 : zBV (ξ 394) = V := by rw [h94]; exact hV
      have far2 : zFar V (ξ 402) := by rw [hfr 402 (by decide) (Or.inl (by decide))]; exact far
      have dc := zDM_b (zFar_d far b0 b1) c0 c1
      have fa := zFar_e far2 a0 a1 b0 b1
      rw [zFar_s far a0 a1 b0 b1] at fa
      have fc := zFar_e far2 c0 c1 b0 b1
      rw [zFar_s far c0 c1 b0 b1] at fc
      refine z_aload_0 dX12_steps_3 ?_
      refine z_getF 402 9 rfl f_X12_35 zl_393 rfl rfl dX12_steps_4 ?_
      refine z_bipush dX12_steps_7 (by decide) ?_
      refine z_iload_2 dX12_steps_9 ?_
      refine z_imul dX12_steps_10 (by omega) ?_
      refine z_iload_3 dX12_steps_11 ?_
      refine z_iadd dX12_steps_12 (by omega) ?_
      refine z_iald zl_402 (by omega) (by omega) dX12_steps_13 ?_
      refine z_sipush dX12_steps_14 (by decide) ?_
      refine z_icmpge (tgt := 131) dX12_steps_17 (by decide) (fun h_17 => ?_) (fun h_17 => ?_)
      · exact z_vret dX12_steps_131 (⟨rfl, zNl_cg hl (by omega) (fun j j0 j1 jl => by have hA2 := hA j; rw [show (zWk V b c).toNat = 0 by omega] at hA2; rw [← hA2.2, show max (A j) (zWy (zHc V (V 9 j)) (zWk V b) 0 c) = A j from by have e : zWy (zHc V (V 9 j)) (zWk V b) 0 c = 0 := rfl; omega]), hk, hfr⟩)
      · refine z_iload_4 dX12_steps_20 ?_
        refine z_iload_3 dX12_steps_22 ?_
        refine z_icmpeq (tgt := 131) dX12_steps_23 (by decide) (fun h_23 => ?_) (fun h_23 => ?_)
        · exact z_vret dX12_steps_131 (⟨rfl, zNl_cg hl (by have e : zWk V b c = 0 := (by rw [h_23]; exact (zFar_d far b0 b1).2.1 ob); omega) (fun j j0 j1 jl => by have hA2 := hA j; rw [show (zWk V b c).toNat = 0 by rw [h_23, (zFar_d far b0 b1).2.1 ob]; rfl] at hA2; rw [← hA2.2, show max (A j) (zWy (zHc V (V 9 j)) (zWk V b) 0 c) = A j from by have e : zWy (zHc V (V 9 j)) (zWk V b) 0 c = 0 := rfl; omega]), hk, hfr⟩)
        · have hp : 0 < zWk V b c := by
            have := (zFar_d far b0 b1).2.2.1 c c0 c1
            rcases hr with rfl | hr
            · omega
            · omega
          have J106 : ∀ x w u, zNx (zWk V b) c = x → MW X E cX12_steps RX12 ({ frames := 2, cells := 0, slots := 0, locals := 49 }) none (fun r ν => r = none ∧ zNl V ν (m + 40) (fun j => zhr (G j) (zif (i = j) 0 (zWc V (V 9 j) a b)) i) ∧ (∀ k, k ≠ 31 → ν 393 k = μ 393 k) ∧ ∀ x : Nat, x ≠ 393 → (x < 411 ∨ 414 < x) → ν x = μ x) 106 [zR 393, zI i, zI a, zI b, zI c, zI x, w, u] [] ξ := by
            intro x w u hx
            have xb := zNx_ok (zFar_d far b0 b1) c0 c1 hp
            rw [hx] at xb
            refine z_iload_5 dX12_steps_106 ?_
            refine z_istore_4 rfl dX12_steps_108 ?_
            refine z_aload_0 dX12_steps_110 ?_
            refine z_iload_4 dX12_steps_111 ?_
            refine z_aload_0 dX12_steps_113 ?_
            refine z_getF 394 1 rfl f_X12_7 zl_393 rfl rfl dX12_steps_114 ?_
            refine z_bipush dX12_steps_117 (by decide) ?_
            refine z_iload_4 dX12_steps_119 ?_
            refine z_iadd dX12_steps_121 (by omega) ?_
            refine z_iald zl_394 (by omega) (by omega) dX12_steps_122 ?_
            rw [h94, show μ 394 (46 + x) = V 1 x by rw [← hV]; exact (zBV_1 (by omega) (by omega)).symm]
            have ck := (ok.1.1 x (by omega) (by omega)).2
            have hN := hl.1
            have hs := zNl_s (c := x) (v := V 1 x) (b := i) (o := i) hl ⟨by omega, by omega⟩ ⟨by omega, by omega⟩
            refine z_iload_1 dX12_steps_123 ?_
            refine z_iload_1 dX12_steps_124 ?_
            refine z_callV4 (k_X12_noise (by omega)) m_X12_noise zl_393 l_X12_268 (Nat.le_of_ble_eq_true rfl) ⟨Nat.le_of_ble_eq_true rfl, Nat.le_of_ble_eq_true rfl⟩ ⟨rfl, rfl⟩ dX12_steps_125 (fun r μ1 hp2 => ?_)
            obtain ⟨rfl, rfl⟩ := hp2
            refine z_goto (tgt := 3) dX12_steps_128 (by decide) ?_
            have nx0 := zNx_ok (zFar_d far b0 b1) c0 c1 hp
            rw [hx] at nx0
            refine z_weak (ls' := [zR 393, zI i, zI a, zI b, zI x, zU, zU, zU]) ⟨Or.inl rfl, Or.inl rfl, Or.inl rfl, Or.inl rfl, Or.inl rfl, Or.inr rfl, Or.inr rfl, Or.inr rfl, trivial⟩ ?_
            refine ih x _ (fun j => max (A j) (zHc V (V 9 j) x)) (by omega) (by omega) (by omega) (Or.inr (by omega)) (zNl_cg hs (by omega) (fun j j0 j1 jl => ?_)) (fun j => ?_) (fun k k1 => by rw [zNs_k k1]; exact hk k k1) (fun y y1 y2 => by rw [zNs_fr y1 y2]; exact hfr y y1 y2) (by omega)
            · show zhr (zhr (G j) (zif (i = j) 0 (A j)) i) (zif (i = j) 0 (zFd (V 1 x) (zWk V (V 2 (V 9 j)) x) (V 3 1))) i = zhr (G j) (zif (i = j) 0 (max (A j) (zHc V (V 9 j) x))) i
              by_cases q : i = j
              · rw [zif_t q, zif_t q, zif_t q, zhr_m]; rfl
              · rw [zif_f q, zif_f q, zif_f q, zhr_m]; rfl
            · have hA2 := hA j
              rw [show (zWk V b c).toNat = (zWk V b x).toNat + 1 by omega, zWy_s, hx] at hA2
              exact ⟨by omega, by omega⟩
          have LI : ∀ (k : Nat) (w x : Int) (u : zAV), -1 ≤ w → w < 4 → (∀ v, w < v → v < 4 → zWn (zWk V b) c v → ∃ u, w < u ∧ u ≤ v ∧ x = zNb c u ∧ zWn (zWk V b) c u ∧ ∀ y, w < y → y < u → ¬ zWn (zWk V b) c y) → w + 1 < k → MW X E cX12_steps RX12 ({ frames := 2, cells := 0, slots := 0, locals := 49 }) none (fun r ν => r = none ∧ zNl V ν (m + 40) (fun j => zhr (G j) (zif (i = j) 0 (zWc V (V 9 j) a b)) i) ∧ (∀ k, k ≠ 31 → ν 393 k = μ 393 k) ∧ ∀ x : Nat, x ≠ 393 → (x < 411 ∨ 414 < x) → ν x = μ x) 32 [zR 393, zI i, zI a, zI b, zI c, zI x, zI w, u] [] ξ := by
            intro k
            induction k with
            | zero => intro w x u w0 w4 hin h4; omega
            | succ k ih2 =>
              intro w x u w0 w4 hin h4
              refine z_iload_6 dX12_steps_32 ?_
              refine z_iflt (tgt := 106) dX12_steps_34 (by decide) (fun h_34 => ?_) (fun h_34 => ?_)
              · obtain rfl : w = -1 := by omega
                have h4 := zNx_ok (zFar_d far b0 b1) c0 c1 hp
                have ex : ∃ v, 0 ≤ v ∧ v < 4 ∧ zWn (zWk V b) c v := Classical.byContradiction fun q => by
                  have := zNx_no (F := zWk V b) (c := c) (fun v v0 v4 z => q ⟨v, v0, v4, z⟩)
                  omega
                obtain ⟨v, v0, v4, hv⟩ := ex
                obtain ⟨y, y0, y1, rfl, y3, y4⟩ := hin v (by omega) v4 hv
                exact J106 _ _ _ (zNx_w hp (by omega) (by omega) (fun z z0 z1 => y4 z (by omega) z1) y3)
              · refine z_aload_0 dX12_steps_37 ?_
                refine z_iload_4 dX12_steps_38 ?_
                refine z_iload_6 dX12_steps_40 ?_
                refine z_callV2 (k_X12_beside ⟨c0, c1⟩ ⟨by omega, by omega⟩) m_X12_beside zl_393 l_X12_249 (Nat.le_of_ble_eq_true rfl) ⟨Nat.le_of_ble_eq_true rfl, Nat.le_of_ble_eq_true rfl⟩ ⟨rfl, rfl⟩ dX12_steps_42 (fun r μ1 hp => ?_)
                obtain ⟨rfl, hv⟩ := hp
                replace hv := hv.symm
                subst hv
                rw [hV2]
                refine z_istore_7 rfl dX12_steps_45 ?_
                refine z_iload_7 dX12_steps_47 ?_
                refine z_iconst dX12_steps_49 (by decide) ?_
                refine z_icmpeq (tgt := 96) dX12_steps_50 (by decide) (fun h_50 => ?_) (fun h_50 => ?_)
                · refine z_iload_5 dX12_steps_96 ?_
                  refine z_istore_5 rfl dX12_steps_98 ?_
                  refine z_iinc_6 rfl dX12_steps_100 (by omega) ?_
                  refine z_goto (tgt := 32) dX12_steps_103 (by decide) ?_
                  refine ih2 (w - 1) x _ (by omega) (by omega) (fun v v0 v4 hv => ?_) (by omega)
                  have hno : ¬ zWn (zWk V b) c w := fun z => ((zWn_i far b0 b1 c0 c1 (by omega) (by omega) hp).mpr z).1 h_50
                  by_cases e : v = w
                  · exact absurd (e ▸ hv) hno
                  · obtain ⟨y, y0, y1, y2, y3, y4⟩ := hin v (by omega) v4 hv
                    refine ⟨y, by omega, y1, y2, y3, fun z z0 z1 => ?_⟩
                    by_cases e2 : z = w
                    · rw [e2]; exact hno
                    · exact y4 z (by omega) z1
                · have nr := (zNw_r c0 c1 h_50).1
                  refine z_aload_0 dX12_steps_53 ?_
                  refine z_getF 402 9 rfl f_X12_35 zl_393 rfl rfl dX12_steps_54 ?_
                  refine z_bipush dX12_steps_57 (by decide) ?_
                  refine z_iload_7 dX12_steps_59 ?_
                  refine z_ifge (tgt := 68) dX12_steps_61 (by decide) (fun h_61 => ?_) (fun h_61 => ?_)
                  · refine z_iload_7 dX12_steps_68 ?_
                    refine z_imul dX12_steps_70 (by omega) ?_
                    refine z_iload_3 dX12_steps_71 ?_
                    refine z_iadd dX12_steps_72 (by omega) ?_
                    refine z_iald zl_402 (by omega) (by omega) dX12_steps_73 ?_
                    refine z_aload_0 dX12_steps_74 ?_
                    refine z_getF 402 9 rfl f_X12_35 zl_393 rfl rfl dX12_steps_75 ?_
                    refine z_bipush dX12_steps_78 (by decide) ?_
                    refine z_iload_4 dX12_steps_80 ?_
                    refine z_imul dX12_steps_82 (by omega) ?_
                    refine z_iload_3 dX12_steps_83 ?_
                    refine z_iadd dX12_steps_84 (by omega) ?_
                    refine z_iald zl_402 (by omega) (by omega) dX12_steps_85 ?_
                    refine z_iconst dX12_steps_86 (by decide) ?_
                    refine z_isub dX12_steps_87 (by omega) ?_
                    refine z_icmpne (tgt := 96) dX12_steps_88 (by decide) (fun h_88 => ?_) (fun h_88 => ?_)
                    · refine z_iload_5 dX12_steps_96 ?_
                      refine z_istore_5 rfl dX12_steps_98 ?_
                      refine z_iinc_6 rfl dX12_steps_100 (by omega) ?_
                      refine z_goto (tgt := 32) dX12_steps_103 (by decide) ?_
                      refine ih2 (w - 1) x _ (by omega) (by omega) (fun v v0 v4 hv => ?_) (by omega)
                      have hno : ¬ zWn (zWk V b) c w := fun z => h_88 (by have q := (zWn_i far2 b0 b1 c0 c1 (by omega) (by omega) hp).mpr z; exact q.2)
                      by_cases e : v = w
                      · exact absurd (e ▸ hv) hno
                      · obtain ⟨y, y0, y1, y2, y3, y4⟩ := hin v (by omega) v4 hv
                        refine ⟨y, by omega, y1, y2, y3, fun z z0 z1 => ?_⟩
                        by_cases e2 : z = w
                        · rw [e2]; exact hno
                        · exact y4 z (by omega) z1
                    · refine z_iload_7 dX12_steps_91 ?_
                      refine z_goto (tgt := 98) dX12_steps_93 (by decide) ?_
                      refine z_istore_5 rfl dX12_steps_98 ?_
                      refine z_iinc_6 rfl dX12_steps_100 (by omega) ?_
                      refine z_goto (tgt := 32) dX12_steps_103 (by decide) ?_
                      refine ih2 (w - 1) (zNw V c w) _ (by omega) (by omega) (fun v v0 v4 hv => ?_) (by omega)
                      have hyes : zWn (zWk V b) c w := (zWn_i far2 b0 b1 c0 c1 (by omega) (by omega) hp).mp ⟨h_50, h_88⟩
                      have rw_ : zNw V c w = zNb c w := (zNw_r c0 c1 h_50).2.1
                      exact ⟨w, by omega, by omega, rw_, hyes, fun z z0 z1 => by omega⟩
                  · exact absurd h_61 (by omega)
          refine z_iconst dX12_steps_26 (by decide) ?_
          refine z_istore_5 rfl dX12_steps_27 ?_
          refine z_iconst dX12_steps_29 (by decide) ?_
          refine z_istore_6 rfl dX12_steps_30 ?_
          exact LI 9 3 (-1) _ (by decide) (by decide) (fun v v0 v4 => by omega) (by decide)
  refine z_iload_2 dX12_steps_0 ?_
  refine z_istore_4 rfl dX12_steps_1 ?_
  exact L 50 a μ (fun _ => 0) a0 a1 (Int.le_refl _) (Or.inl rfl) (zNl_cg hG (by omega) (fun j j0 j1 jl => by have := zNl_n hG j0 j1 jl; rw [show zif (i = j) (0 : Int) 0 = 0 from zif_i (p := fun z => z = 0) (fun _ => rfl) (fun _ => rfl), zhr_0 this])) (fun j => ⟨Int.le_refl _, by show max 0 (zWc V (V 9 j) a b) = _; have : 0 ≤ zWc V (V 9 j) a b := zWy_n; omega⟩) (fun _ _ => rfl) (fun _ _ _ => rfl) (by omega)
