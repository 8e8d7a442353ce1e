theorem zmw_s {f : Int → Int} {n : Nat} : zmn f (n + 1) = min (zmn f n) (f (n : Int)) := rfl
theorem zmw_b {f : Int → Int} : ∀ {n : Nat}, (∀ i : Int, 0 ≤ i → i < n → 0 ≤ f i ∧ f i ≤ 40) → 0 ≤ zmn f n ∧ zmn f n ≤ 40
  | 0, _ => ⟨by show (0 : Int) ≤ 40; decide, Int.le_refl _⟩
  | n + 1, h => by
    have := zmw_b (n := n) (fun i h0 h1 => h i h0 (by omega))
    have := h (n : Int) (by omega) (by omega)
    rw [zmw_s]; omega
theorem zmw_c {f g : Int → Int} : ∀ {n : Nat}, (∀ i : Int, 0 ≤ i → i < n → f i = g i) → zmn f n = zmn g n
  | 0, _ => rfl
  | n + 1, h => by rw [zmw_s, zmw_s, zmw_c (n := n) (fun i h0 h1 => h i h0 (by omega)), h (n : Int) (by omega) (by omega)]
theorem zWo_b {f : Int → Int} {c : Int} (hc : 0 ≤ c ∧ c ≤ 5) (h : ∀ i : Int, 0 ≤ i → i < c → 0 ≤ f i ∧ f i ≤ 40) : 0 ≤ zWo c f ∧ zWo c f ≤ 40 := by
  unfold zWo
  by_cases q : c = 0
  · rw [if_pos q]; decide
  · rw [if_neg q]; exact zmw_b (fun i h0 h1 => h i h0 (by omega))
theorem zWo_c {f g : Int → Int} {c : Int} (h : ∀ i : Int, 0 ≤ i → i < c → f i = g i) : zWo c f = zWo c g := by
  unfold zWo
  by_cases q : c = 0
  · rw [if_pos q, if_pos q]
  · rw [if_neg q, if_neg q]; exact zmw_c (fun i h0 h1 => h i h0 (by omega))
theorem zGo_b {f : Int → Int} {c : Int} (hc : 0 ≤ c ∧ c ≤ 5) (h : ∀ i : Int, 0 ≤ i → i < c → 0 ≤ f i ∧ f i ≤ 40) : 0 ≤ zGo c f ∧ zGo c f ≤ 200 := by
  have := zsum_b (f := f) (B := 40) (n := c.toNat) (fun i h0 h1 => h i h0 (by omega))
  unfold zGo
  omega
theorem zGo_c {f g : Int → Int} {c : Int} (h : ∀ i : Int, 0 ≤ i → i < c → f i = g i) : zGo c f = zGo c g := zsum_c (fun i h0 h1 => h i h0 (by omega))
/-- how often -/
noncomputable def zct (Q : Int → Prop) (n : Nat) : Int := zsum (fun k => zb (Q k)) n
theorem zct_s {Q : Int → Prop} {n : Nat} : zct Q (n + 1) = zct Q n + zb (Q (n : Int)) := rfl
theorem zct_b {Q : Int → Prop} {n : Nat} : 0 ≤ zct Q n ∧ zct Q n ≤ n := by
  have := zsum_b (f := fun k => zb (Q k)) (B := 1) (n := n) (fun i _ _ => zb_in)
  unfold zct; omega
theorem zct_c {Q R : Int → Prop} {n : Nat} (h : ∀ i : Int, 0 ≤ i → i < n → (Q i ↔ R i)) : zct Q n = zct R n := zsum_c (fun i h0 h1 => zb_c (h i h0 h1))
noncomputable def zWb (S : zM) (a b : Int) : Int := zct (fun k => S 10 (40 * b + k) % 100 = a) (S 4 b).toNat
noncomputable def zTg (S : zM) (c x : Int) : Int := zsum (fun a => zsum (fun b => zif (a ≠ b ∧ zand (zshr x a) 1 = zand (zshr x b) 1) (zWb S a b) 0) c.toNat) c.toNat
def zLk (v : Int) : Int := max 0 (24 - v)
def zG2 (f : Int → Int) (c g : Int) : Prop := 0 ≤ g ∧ (∀ a b : Int, 0 ≤ a → a < b → b < c → zLk (f a) + zLk (f b) ≤ g) ∧ (g = 0 ∨ ∃ a b : Int, 0 ≤ a ∧ a < b ∧ b < c ∧ zLk (f a) + zLk (f b) = g)
/-- what a night of S was asked of: woken by whom -/
def zZv (S : zM) (s : Int) : Prop := ∀ k, 0 ≤ k → k < S 4 s → 0 ≤ S 10 (40 * s + k) ∧ S 10 (40 * s + k) < 4000 ∧ S 10 (40 * s + k) % 100 ≤ 17
theorem zZl_v {V : zM} {fan t : Int} {S : zM} {s : Int} (ok : zOK V) (hv : zZv S s) (t0 : 0 ≤ t) (t1 : t < 40) (h4 : 0 ≤ S 4 s ∧ S 4 s ≤ t) (p1 : 1 ≤ V 4 s) (hcv : 0 ≤ fan + zCv V t) : zZv (zZl V fan t S) s := by
  intro k k0 k1
  have e4 : zZl V fan t S 4 s = S 4 s + zif (zZw V fan t S s) 1 0 := rfl
  have e10 : zZl V fan t S 10 (40 * s + k) = zif (zZw V fan t S s ∧ k = S 4 s) (100 * t + (zLd V t S s).2) (S 10 (40 * s + k)) := by
    have e : zZl V fan t S 10 (40 * s + k) = zif (zZw V fan t S ((40 * s + k) / 40) ∧ (40 * s + k) % 40 = S 4 ((40 * s + k) / 40)) (100 * t + (zLd V t S ((40 * s + k) / 40)).2) (S 10 (40 * s + k)) := rfl
    rw [e4] at k1
    have : k < 40 := by
      by_cases w : zZw V fan t S s
      · rw [zif_t w] at k1; omega
      · rw [zif_f w] at k1; omega
    rw [e, show (40 * s + k) / 40 = s by omega, show (40 * s + k) % 40 = k by omega]
  rw [e4] at k1
  rw [e10]
  by_cases w : zZw V fan t S s
  · rw [zif_t w] at k1
    by_cases q : k = S 4 s
    · rw [zif_t ⟨w, q⟩]
      have d := zDp_b (t - S 1 s)
      have w2 := w.2
      have hz : zZn V fan t S s = max 0 ((zLd V t S s).1 - (fan + zCv V t)) := rfl
      have := zLd_w (V := V) (t := t) (S := S) (i := s) ok (by omega)
      omega
    · rw [zif_f (fun c => q c.2)]; exact hv k k0 (by omega)
  · rw [zif_f w] at k1
    rw [zif_f (fun c => w c.1)]; exact hv k k0 (by omega)
theorem zZt_v {V : zM} {fan : Int} {s : Int} (ok : zOK V) (hf : 0 ≤ fan) (s0 : 0 ≤ s) (s1 : s < V 3 3) : ∀ n : Nat, n ≤ 40 → zZv (zZt V fan n) s
  | 0, _ => fun k k0 k1 => by have k1 : k < 0 := k1; omega
  | n + 1, h => by
    have p := ok.2.1.2 s s0 s1
    have i1 := zZc_i (t := (n : Int)) (zZt_i (fan := fan) p.2.1.1 n) p.2.1.1
    have cv := zCv_b (t := (n : Int)) ok
    exact zZl_v ok (S := zZc V (n : Int) (zZt V fan n)) (zZt_v ok hf s0 s1 n (by omega)) (by omega) (by omega) i1.2.2.2.2.2 p.1.1 (by omega)
set_option maxRecDepth 100000 in
set_option maxHeartbeats 4000000 in
theorem k_X4_worst {l : Launch} {E : zE} {n h : Nat} {μ : zM} (hn : zAt zp4 n) (hh : zAt zp2 h) (h8 : μ n 8 = ((h + 5 : Nat) : Int)) (hc : 0 ≤ μ (h + 5) 6 ∧ μ (h + 5) 6 ≤ 5) (hs : ∀ s, 0 ≤ s → s < μ (h + 5) 6 → 0 ≤ μ (n + 1) s ∧ μ (n + 1) s ≤ 40) : Ct l E yX4_worst cX4_worst 3 (some .int) ({ frames := 1, cells := 0, slots := 0, locals := 21 }) [zR n] μ (fun r ν => r = some (zI (zWo (μ (h + 5) 6) (μ (n + 1)))) ∧ ν = μ) := by
  refine Ct.of RX4 [zR n, zU, zU] (by decide +kernel) rfl ⟨rfl, rfl⟩ rfl (Nat.le_of_ble_eq_true rfl) (fun X hX hc0 ha0 => ?_)
  subst hX
  have L : ¬ μ (h + 5) 6 = 0 → ∀ (k : Nat) (s : Nat) (v : Int), (s : Int) ≤ μ (h + 5) 6 → v = zmn (μ (n + 1)) s → μ (h + 5) 6 - s < k → MW X E cX4_worst RX4 ({ frames := 1, cells := 0, slots := 0, locals := 21 }) (some .int) (fun r ν => r = some (zI (zWo (μ (h + 5) 6) (μ (n + 1)))) ∧ ν = μ) 19 [zR n, zI v, zI (s : Int)] [] μ := by
    intro c0 k
    induction k with
    | zero => intro s v hs1 hv h3; omega
    | succ k ih =>
      intro s v hs1 hv h3
      refine z_iload_2 dX4_worst_19 ?_
      refine z_aload_0 dX4_worst_20 ?_
      refine z_getM 8 rfl (h + 5) f_X4_45 (hn.at 0 rfl) rfl h8 dX4_worst_21 ?_
      refine z_getI 6 rfl f_X4_60 (hh.at 5 rfl) rfl dX4_worst_24 ?_
      refine z_icmpge (tgt := 47) dX4_worst_27 (by decide) (fun h_27 => ?_) (fun h_27 => ?_)
      · refine z_iload_1 dX4_worst_47 ?_
        exact z_iret dX4_worst_48 (⟨congrArg (fun z => (some (zI z) : Option zAV)) (by rw [hv]; unfold zWo; rw [if_neg c0, show (μ (h + 5) 6).toNat = s by omega]), rfl⟩)
      · have := hs s (by omega) (by omega)
        subst hv
        refine z_iload_1 dX4_worst_30 ?_
        refine z_aload_0 dX4_worst_31 ?_
        refine z_getF (n + 1) 1 rfl f_X4_9 (hn.at 0 rfl) rfl rfl dX4_worst_32 ?_
        refine z_iload_2 dX4_worst_35 ?_
        refine z_iald (hn.at 1 rfl) (by omega) (by omega) dX4_worst_36 ?_
        refine z_min l_X4_164 ⟨Nat.le_of_ble_eq_true rfl, Nat.le_of_ble_eq_true rfl⟩ dX4_worst_37 ?_
        refine z_istore_1 rfl dX4_worst_40 ?_
        refine z_iinc_2 rfl dX4_worst_41 (by omega) ?_
        refine z_goto (tgt := 19) dX4_worst_44 (by decide) ?_
        exact ih (s + 1) _ (by omega) (zmw_s (f := μ (n + 1))).symm (by omega)
  refine z_aload_0 dX4_worst_0 ?_
  refine z_getM 8 rfl (h + 5) f_X4_45 (hn.at 0 rfl) rfl h8 dX4_worst_1 ?_
  refine z_getI 6 rfl f_X4_60 (hh.at 5 rfl) rfl dX4_worst_4 ?_
  refine z_ifne (tgt := 14) dX4_worst_7 (by decide) (fun h_7 => ?_) (fun h_7 => ?_)
  · have c0 : ¬ μ (h + 5) 6 = 0 := h_7
    refine z_bipush dX4_worst_14 (by decide) ?_
    refine z_istore_1 rfl dX4_worst_16 ?_
    refine z_iconst dX4_worst_17 (by decide) ?_
    refine z_istore_2 rfl dX4_worst_18 ?_
    exact L c0 9 0 40 (by omega) rfl (by omega)
  · refine z_iconst dX4_worst_10 (by decide) ?_
    refine z_goto (tgt := 16) dX4_worst_11 (by decide) ?_
    refine z_istore_1 rfl dX4_worst_16 ?_
    refine z_iconst dX4_worst_17 (by decide) ?_
    refine z_istore_2 rfl dX4_worst_18 ?_
    refine z_iload_2 dX4_worst_19 ?_
    refine z_aload_0 dX4_worst_20 ?_
    refine z_getM 8 rfl (h + 5) f_X4_45 (hn.at 0 rfl) rfl h8 dX4_worst_21 ?_
    refine z_getI 6 rfl f_X4_60 (hh.at 5 rfl) rfl dX4_worst_24 ?_
    refine z_icmpge (tgt := 47) dX4_worst_27 (by decide) (fun h_27 => ?_) (fun h_27 => ?_)
    · refine z_iload_1 dX4_worst_47 ?_
      exact z_iret dX4_worst_48 (⟨congrArg (fun z => (some (zI z) : Option zAV)) (by unfold zWo; rw [if_pos h_7]), rfl⟩)
    · exact absurd h_27 (by omega)
set_option maxRecDepth 100000 in
set_option maxHeartbeats 4000000 in
theorem k_X4_good {l : Launch} {E : zE} {n h : Nat} {μ : zM} (hn : zAt zp4 n) (hh : zAt zp2 h) (h8 : μ n 8 = ((h + 5 : Nat) : Int)) (hc : 0 ≤ μ (h + 5) 6 ∧ μ (h + 5) 6 ≤ 5) (hs : ∀ s, 0 ≤ s → s < μ (h + 5) 6 → 0 ≤ μ (n + 1) s ∧ μ (n + 1) s ≤ 40) : Ct l E yX4_good cX4_good 3 (some .int) ({ frames := 0, cells := 0, slots := 0, locals := 0 }) [zR n] μ (fun r ν => r = some (zI (zGo (μ (h + 5) 6) (μ (n + 1)))) ∧ ν = μ) := by
  refine Ct.of RX4 [zR n, zU, zU] (by decide +kernel) rfl ⟨rfl, rfl⟩ rfl (Nat.le_of_ble_eq_true rfl) (fun X hX hc0 ha0 => ?_)
  subst hX
  have L : ∀ (k : Nat) (s : Nat) (v : Int), (s : Int) ≤ μ (h + 5) 6 → v = zsum (μ (n + 1)) s → μ (h + 5) 6 - s < k → MW X E cX4_good RX4 ({ frames := 0, cells := 0, slots := 0, locals := 0 }) (some .int) (fun r ν => r = some (zI (zGo (μ (h + 5) 6) (μ (n + 1)))) ∧ ν = μ) 4 [zR n, zI v, zI (s : Int)] [] μ := by
    intro k
    induction k with
    | zero => intro s v hs1 hv h3; omega
    | succ k ih =>
      intro s v hs1 hv h3
      refine z_iload_2 dX4_good_4 ?_
      refine z_aload_0 dX4_good_5 ?_
      refine z_getM 8 rfl (h + 5) f_X4_45 (hn.at 0 rfl) rfl h8 dX4_good_6 ?_
      refine z_getI 6 rfl f_X4_60 (hh.at 5 rfl) rfl dX4_good_9 ?_
      refine z_icmpge (tgt := 30) dX4_good_12 (by decide) (fun h_12 => ?_) (fun h_12 => ?_)
      · refine z_iload_1 dX4_good_30 ?_
        exact z_iret dX4_good_31 (⟨congrArg (fun z => (some (zI z) : Option zAV)) (by rw [hv]; unfold zGo; rw [show (μ (h + 5) 6).toNat = s by omega]), rfl⟩)
      · have := hs s (by omega) (by omega)
        have hb := zsum_b (f := μ (n + 1)) (B := 40) (n := s) (fun i h0 h1 => hs i h0 (by omega))
        refine z_iload_1 dX4_good_15 ?_
        refine z_aload_0 dX4_good_16 ?_
        refine z_getF (n + 1) 1 rfl f_X4_9 (hn.at 0 rfl) rfl rfl dX4_good_17 ?_
        refine z_iload_2 dX4_good_20 ?_
        refine z_iald (hn.at 1 rfl) (by omega) (by omega) dX4_good_21 ?_
        refine z_iadd dX4_good_22 (by omega) ?_
        refine z_istore_1 rfl dX4_good_23 ?_
        refine z_iinc_2 rfl dX4_good_24 (by omega) ?_
        refine z_goto (tgt := 4) dX4_good_27 (by decide) ?_
        exact ih (s + 1) _ (by omega) (by rw [hv]; rfl) (by omega)
  refine z_iconst dX4_good_0 (by decide) ?_
  refine z_istore_1 rfl dX4_good_1 ?_
  refine z_iconst dX4_good_2 (by decide) ?_
  refine z_istore_2 rfl dX4_good_3 ?_
  exact L 9 0 0 (by omega) rfl (by omega)
set_option maxRecDepth 100000 in
set_option maxHeartbeats 4000000 in
theorem k_X4_isBetter {l : Launch} {E : zE} {a b : Int} {n h : Nat} {μ : zM} (hn : zAt zp4 n) (hh : zAt zp2 h) (h8 : μ n 8 = ((h + 5 : Nat) : Int)) (hc : 0 ≤ μ (h + 5) 6 ∧ μ (h + 5) 6 ≤ 5) (hs : ∀ s, 0 ≤ s → s < μ (h + 5) 6 → 0 ≤ μ (n + 1) s ∧ μ (n + 1) s ≤ 40) : Ct l E yX4_isBetter cX4_isBetter 4 (some .boolean) ({ frames := 2, cells := 0, slots := 0, locals := 43 }) [zR n, zI a, zI b] μ (fun r ν => r = some (zI (zb (a < zWo (μ (h + 5) 6) (μ (n + 1)) ∨ (zWo (μ (h + 5) 6) (μ (n + 1)) = a ∧ b < zGo (μ (h + 5) 6) (μ (n + 1)))))) ∧ ν = μ) := by
  refine Ct.of RX4 [zR n, zI a, zI b, zU] (by decide +kernel) rfl ⟨rfl, rfl⟩ rfl (Nat.le_of_ble_eq_true rfl) (fun X hX hc0 ha0 => ?_)
  subst hX
  refine z_aload_0 dX4_isBetter_0 ?_
  refine z_callV0 (k_X4_worst hn hh h8 hc hs) m_X4_worst (hn.at 0 rfl) l_X4_167 (Nat.le_of_ble_eq_true rfl) ⟨Nat.le_of_ble_eq_true rfl, Nat.le_of_ble_eq_true rfl⟩ ⟨rfl, rfl⟩ dX4_isBetter_1 (fun r μ1 hp => ?_)
  obtain ⟨rfl, hv⟩ := hp
  replace hv := hv.symm
  subst hv
  refine z_istore_3 rfl dX4_isBetter_4 ?_
  refine z_iload_3 dX4_isBetter_5 ?_
  refine z_iload_1 dX4_isBetter_6 ?_
  refine z_icmpgt (tgt := 23) dX4_isBetter_7 (by decide) (fun h_7 => ?_) (fun h_7 => ?_)
  · refine z_iconst dX4_isBetter_23 (by decide) ?_
    refine z_goto (tgt := 28) dX4_isBetter_24 (by decide) ?_
    exact z_zret (by decide) dX4_isBetter_28 (by first | exact zb_r (Or.inl (by omega)) rfl | exact zb_r (Or.inr ⟨by omega, by omega⟩) rfl | exact zb_r0 (by omega) rfl)
  · refine z_iload_3 dX4_isBetter_10 ?_
    refine z_iload_1 dX4_isBetter_11 ?_
    refine z_icmpne (tgt := 27) dX4_isBetter_12 (by decide) (fun h_12 => ?_) (fun h_12 => ?_)
    · refine z_iconst dX4_isBetter_27 (by decide) ?_
      exact z_zret (by decide) dX4_isBetter_28 (by first | exact zb_r (Or.inl (by omega)) rfl | exact zb_r (Or.inr ⟨by omega, by omega⟩) rfl | exact zb_r0 (by omega) rfl)
    · refine z_aload_0 dX4_isBetter_15 ?_
      refine z_callV0 (k_X4_good hn hh h8 hc hs) m_X4_good (hn.at 0 rfl) l_X4_171 (Nat.le_of_ble_eq_true rfl) ⟨Nat.le_of_ble_eq_true rfl, Nat.le_of_ble_eq_true rfl⟩ ⟨rfl, rfl⟩ dX4_isBetter_16 (fun r μ1 hp => ?_)
      obtain ⟨rfl, hv⟩ := hp
      replace hv := hv.symm
      subst hv
      refine z_iload_2 dX4_isBetter_19 ?_
      refine z_icmple (tgt := 27) dX4_isBetter_20 (by decide) (fun h_20 => ?_) (fun h_20 => ?_)
      · refine z_iconst dX4_isBetter_27 (by decide) ?_
        exact z_zret (by decide) dX4_isBetter_28 (by first | exact zb_r (Or.inl (by omega)) rfl | exact zb_r (Or.inr ⟨by omega, by omega⟩) rfl | exact zb_r0 (by omega) rfl)
      · refine z_iconst dX4_isBetter_23 (by decide) ?_
        refine z_goto (tgt := 28) dX4_isBetter_24 (by decide) ?_
        exact z_zret (by decide) dX4_isBetter_28 (by first | exact zb_r (Or.inl (by omega)) rfl | exact zb_r (Or.inr ⟨by omega, by omega⟩) rfl | exact zb_r0 (by omega) rfl)
set_option maxRecDepth 100000 in
set_option maxHeartbeats 4000000 in
theorem k_X4_lack {l : Launch} {E : zE} {n : Nat} {μ : zM} {s : Int} (hn : zAt zp4 n) (s0 : 0 ≤ s) (s1 : s < 5) (hs : 0 ≤ μ (n + 1) s ∧ μ (n + 1) s ≤ 40) : Ct l E yX4_lack cX4_lack 2 (some .int) ({ frames := 1, cells := 0, slots := 0, locals := 21 }) [zR n, zI s] μ (fun r ν => r = some (zI (zLk (μ (n + 1) s))) ∧ ν = μ) := by
  refine Ct.of RX4 [zR n, zI s] (by decide +kernel) rfl ⟨rfl, rfl⟩ rfl (Nat.le_of_ble_eq_true rfl) (fun X hX hc0 ha0 => ?_)
  subst hX
  refine z_iconst dX4_lack_0 (by decide) ?_
  refine z_bipush dX4_lack_1 (by decide) ?_
  refine z_aload_0 dX4_lack_3 ?_
  refine z_getF (n + 1) 1 rfl f_X4_9 (hn.at 0 rfl) rfl rfl dX4_lack_4 ?_
  refine z_iload_1 dX4_lack_7 ?_
  refine z_iald (hn.at 1 rfl) (by omega) (by omega) dX4_lack_8 ?_
  refine z_isub dX4_lack_9 (by omega) ?_
  refine z_max l_X4_109 ⟨Nat.le_of_ble_eq_true rfl, Nat.le_of_ble_eq_true rfl⟩ dX4_lack_10 ?_
  exact z_iret dX4_lack_13 (⟨rfl, rfl⟩)
set_option maxRecDepth 100000 in
set_option maxHeartbeats 4000000 in
theorem k_X4_greatestLackOfTwo {l : Launch} {E : zE} {n h : Nat} {μ : zM} (hn : zAt zp4 n) (hh : zAt zp2 h) (h8 : μ n 8 = ((h + 5 : Nat) : Int)) (hc : 0 ≤ μ (h + 5) 6 ∧ μ (h + 5) 6 ≤ 5) (hs : ∀ s, 0 ≤ s → s < μ (h + 5) 6 → 0 ≤ μ (n + 1) s ∧ μ (n + 1) s ≤ 40) : Ct l E yX4_greatestLackOfTwo cX4_greatestLackOfTwo 4 (some .int) ({ frames := 2, cells := 0, slots := 0, locals := 42 }) [zR n] μ (fun r ν => (∃ g, r = some (zI g) ∧ zG2 (μ (n + 1)) (μ (h + 5) 6) g) ∧ ν = μ) := by
  refine Ct.of RX4 [zR n, zU, zU, zU] (by decide +kernel) rfl ⟨rfl, rfl⟩ rfl (Nat.le_of_ble_eq_true rfl) (fun X hX hc0 ha0 => ?_)
  subst hX
  have LI : ∀ (k : Nat) (i : Nat) (v : Int), (i : Int) ≤ μ (h + 5) 6 → 0 ≤ v ∧ v ≤ 48 ∧ (∀ a b : Int, 0 ≤ a → a < b → b < μ (h + 5) 6 → a < i → zLk (μ (n + 1) a) + zLk (μ (n + 1) b) ≤ v) ∧ (v = 0 ∨ ∃ a b : Int, 0 ≤ a ∧ a < b ∧ b < μ (h + 5) 6 ∧ zLk (μ (n + 1) a) + zLk (μ (n + 1) b) = v) → μ (h + 5) 6 - i < k → MW X E cX4_greatestLackOfTwo RX4 ({ frames := 2, cells := 0, slots := 0, locals := 42 }) (some .int) (fun r ν => (∃ g, r = some (zI g) ∧ zG2 (μ (n + 1)) (μ (h + 5) 6) g) ∧ ν = μ) 4 [zR n, zI v, zI (i : Int), zU] [] μ := by
    intro k
    induction k with
    | zero => intro i v hi1 hv h3; omega
    | succ k ih =>
      intro i v hi1 hv h3
      refine z_iload_2 dX4_greatestLackOfTwo_4 ?_
      refine z_aload_0 dX4_greatestLackOfTwo_5 ?_
      refine z_getM 8 rfl (h + 5) f_X4_45 (hn.at 0 rfl) rfl h8 dX4_greatestLackOfTwo_6 ?_
      refine z_getI 6 rfl f_X4_60 (hh.at 5 rfl) rfl dX4_greatestLackOfTwo_9 ?_
      refine z_icmpge (tgt := 58) dX4_greatestLackOfTwo_12 (by decide) (fun h_12 => ?_) (fun h_12 => ?_)
      · refine z_iload_1 dX4_greatestLackOfTwo_58 ?_
        exact z_iret dX4_greatestLackOfTwo_59 (⟨⟨v, rfl, hv.1, fun a b a0 ab bc => hv.2.2.1 a b a0 ab bc (by omega), hv.2.2.2⟩, rfl⟩)
      · have LJ : ∀ (k : Nat) (j : Nat) (v : Int), (i : Int) < j → (j : Int) ≤ μ (h + 5) 6 → 0 ≤ v ∧ v ≤ 48 ∧ (∀ a b : Int, 0 ≤ a → a < b → b < μ (h + 5) 6 → (a < i ∨ (a = i ∧ b < j)) → zLk (μ (n + 1) a) + zLk (μ (n + 1) b) ≤ v) ∧ (v = 0 ∨ ∃ a b : Int, 0 ≤ a ∧ a < b ∧ b < μ (h + 5) 6 ∧ zLk (μ (n + 1) a) + zLk (μ (n + 1) b) = v) → μ (h + 5) 6 - j < k → MW X E cX4_greatestLackOfTwo RX4 ({ frames := 2, cells := 0, slots := 0, locals := 42 }) (some .int) (fun r ν => (∃ g, r = some (zI g) ∧ zG2 (μ (n + 1)) (μ (h + 5) 6) g) ∧ ν = μ) 19 [zR n, zI v, zI (i : Int), zI (j : Int)] [] μ := by
          intro k
          induction k with
          | zero => intro j v hj hj1 hv h4; omega
          | succ k ih2 =>
            intro j v hj hj1 hv h4
            refine z_iload_3 dX4_greatestLackOfTwo_19 ?_
            refine z_aload_0 dX4_greatestLackOfTwo_20 ?_
            refine z_getM 8 rfl (h + 5) f_X4_45 (hn.at 0 rfl) rfl h8 dX4_greatestLackOfTwo_21 ?_
            refine z_getI 6 rfl f_X4_60 (hh.at 5 rfl) rfl dX4_greatestLackOfTwo_24 ?_
            refine z_icmpge (tgt := 52) dX4_greatestLackOfTwo_27 (by decide) (fun h_27 => ?_) (fun h_27 => ?_)
            · refine z_iinc_2 rfl dX4_greatestLackOfTwo_52 (by omega) ?_
              refine z_goto (tgt := 4) dX4_greatestLackOfTwo_55 (by decide) ?_
              refine z_weak (ls' := [zR n, zI v, zI ((i + 1 : Nat) : Int), zU]) ⟨Or.inl rfl, Or.inl rfl, Or.inl rfl, Or.inr rfl, trivial⟩ (ih (i + 1) v (by omega) ⟨hv.1, hv.2.1, fun a b a0 ab bc q => hv.2.2.1 a b a0 ab bc (by omega), hv.2.2.2⟩ (by omega))
            · have s1 := hs i (by omega) (by omega)
              have s2 := hs j (by omega) (by omega)
              refine z_iload_1 dX4_greatestLackOfTwo_30 ?_
              refine z_aload_0 dX4_greatestLackOfTwo_31 ?_
              refine z_iload_2 dX4_greatestLackOfTwo_32 ?_
              refine z_callV1 (k_X4_lack hn (by omega) (by omega) (hs _ (by omega) (by omega))) m_X4_lack (hn.at 0 rfl) l_X4_174 (Nat.le_of_ble_eq_true rfl) ⟨Nat.le_of_ble_eq_true rfl, Nat.le_of_ble_eq_true rfl⟩ ⟨rfl, rfl⟩ dX4_greatestLackOfTwo_33 (fun r μ1 hp => ?_)
              obtain ⟨rfl, hv⟩ := hp
              replace hv := hv.symm
              subst hv
              refine z_aload_0 dX4_greatestLackOfTwo_36 ?_
              refine z_iload_3 dX4_greatestLackOfTwo_37 ?_
              refine z_callV1 (k_X4_lack hn (by omega) (by omega) (hs _ (by omega) (by omega))) m_X4_lack (hn.at 0 rfl) l_X4_174 (Nat.le_of_ble_eq_true rfl) ⟨Nat.le_of_ble_eq_true rfl, Nat.le_of_ble_eq_true rfl⟩ ⟨rfl, rfl⟩ dX4_greatestLackOfTwo_38 (fun r μ1 hp => ?_)
              obtain ⟨rfl, hv⟩ := hp
              replace hv := hv.symm
              subst hv
              have q1 : zLk (μ (n + 1) (i : Int)) = max 0 (24 - μ (n + 1) (i : Int)) := rfl
              have q2 : zLk (μ (n + 1) (j : Int)) = max 0 (24 - μ (n + 1) (j : Int)) := rfl
              refine z_iadd dX4_greatestLackOfTwo_41 (by omega) ?_
              refine z_max l_X4_109 ⟨Nat.le_of_ble_eq_true rfl, Nat.le_of_ble_eq_true rfl⟩ dX4_greatestLackOfTwo_42 ?_
              refine z_istore_1 rfl dX4_greatestLackOfTwo_45 ?_
              refine z_iinc_3 rfl dX4_greatestLackOfTwo_46 (by omega) ?_
              refine z_goto (tgt := 19) dX4_greatestLackOfTwo_49 (by decide) ?_
              refine ih2 (j + 1) _ (by omega) (by omega) ⟨by omega, by omega, fun a b a0 ab bc q => ?_, ?_⟩ (by omega)
              · by_cases e : a = i ∧ b = j
                · rw [e.1, e.2]; omega
                · have := hv.2.2.1 a b a0 ab bc (by omega); omega
              · by_cases e : zLk (μ (n + 1) (i : Int)) + zLk (μ (n + 1) (j : Int)) ≤ v
                · rw [show max v (zLk (μ (n + 1) (i : Int)) + zLk (μ (n + 1) (j : Int))) = v by omega]; exact hv.2.2.2
                · exact Or.inr ⟨i, j, by omega, by omega, by omega, by omega⟩
        refine z_iload_2 dX4_greatestLackOfTwo_15 ?_
        refine z_iconst dX4_greatestLackOfTwo_16 (by decide) ?_
        refine z_iadd dX4_greatestLackOfTwo_17 (by omega) ?_
        refine z_istore_3 rfl dX4_greatestLackOfTwo_18 ?_
        exact LJ 9 (i + 1) v (by omega) (by omega) ⟨hv.1, hv.2.1, fun a b a0 ab bc q => hv.2.2.1 a b a0 ab bc (by omega), hv.2.2.2⟩ (by omega)
  refine z_iconst dX4_greatestLackOfTwo_0 (by decide) ?_
  refine z_istore_1 rfl dX4_greatestLackOfTwo_1 ?_
  refine z_iconst dX4_greatestLackOfTwo_2 (by decide) ?_
  refine z_istore_2 rfl dX4_greatestLackOfTwo_3 ?_
  exact LI 9 0 0 (by omega) ⟨by decide, by decide, fun a b a0 ab bc q => by omega, Or.inl rfl⟩ (by omega)
set_option maxRecDepth 100000 in
set_option maxHeartbeats 4000000 in
theorem k_X4_wakingsBy {l : Launch} {E : zE} {S : zM} {a b : Int} {n : Nat} {μ : zM} (hn : zAt zp4 n) (b0 : 0 ≤ b) (b1 : b < 5) (hz : zZ1 μ n S b) (h4 : 0 ≤ S 4 b ∧ S 4 b ≤ 40) (hv : zZv S b) : Ct l E yX4_wakingsBy cX4_wakingsBy 5 (some .int) ({ frames := 0, cells := 0, slots := 0, locals := 0 }) [zR n, zI a, zI b] μ (fun r ν => r = some (zI (zWb S a b)) ∧ ν = μ) := by
  refine Ct.of RX4 [zR n, zI a, zI b, zU, zU] (by decide +kernel) rfl ⟨rfl, rfl⟩ rfl (Nat.le_of_ble_eq_true rfl) (fun X hX hc0 ha0 => ?_)
  subst hX
  have g2 := hz.2.2.1
  have g5 := hz.2.2.2.2.2
  have L : ∀ (m : Nat) (k : Nat) (x : Int), (k : Int) ≤ S 4 b → x = zct (fun k => S 10 (40 * b + k) % 100 = a) k → S 4 b - k < m → MW X E cX4_wakingsBy RX4 ({ frames := 0, cells := 0, slots := 0, locals := 0 }) (some .int) (fun r ν => r = some (zI (zWb S a b)) ∧ ν = μ) 5 [zR n, zI a, zI b, zI x, zI (k : Int)] [] μ := by
    intro m
    induction m with
    | zero => intro k x hk1 hx h3; omega
    | succ m ih =>
      intro k x hk1 hx h3
      refine z_iload_4 dX4_wakingsBy_5 ?_
      refine z_aload_0 dX4_wakingsBy_7 ?_
      refine z_getF (n + 2) 2 rfl f_X4_15 (hn.at 0 rfl) rfl rfl dX4_wakingsBy_8 ?_
      refine z_iload_2 dX4_wakingsBy_11 ?_
      refine z_iald (hn.at 2 rfl) (by omega) (by omega) dX4_wakingsBy_12 ?_
      rw [g2]
      refine z_icmpge (tgt := 41) dX4_wakingsBy_13 (by decide) (fun h_13 => ?_) (fun h_13 => ?_)
      · refine z_iload_3 dX4_wakingsBy_41 ?_
        exact z_iret dX4_wakingsBy_42 (⟨congrArg (fun z => (some (zI z) : Option zAV)) (by rw [hx]; unfold zWb; rw [show (S 4 b).toNat = k by omega]), rfl⟩)
      · have hvk := hv k (by omega) (by omega)
        have gk := g5 k (by omega) (by omega)
        have cb := zct_b (Q := fun k => S 10 (40 * b + k) % 100 = a) (n := k)
        refine z_aload_0 dX4_wakingsBy_16 ?_
        refine z_getF (n + 3) 3 rfl f_X4_20 (hn.at 0 rfl) rfl rfl dX4_wakingsBy_17 ?_
        refine z_iload_2 dX4_wakingsBy_20 ?_
        refine z_row (n + 4 + b.toNat) (by omega) (hn.at 3 rfl) (by omega) (by omega) dX4_wakingsBy_21 ?_
        refine z_iload_4 dX4_wakingsBy_22 ?_
        refine z_iald (zN_wok hn b0 b1) (by omega) (by omega) dX4_wakingsBy_24 ?_
        rw [gk]
        refine z_bipush dX4_wakingsBy_25 (by decide) ?_
        refine z_irem dX4_wakingsBy_27 (by omega) (by omega) ?_
        refine z_iload_1 dX4_wakingsBy_28 ?_
        refine z_icmpne (tgt := 35) dX4_wakingsBy_29 (by decide) (fun h_29 => ?_) (fun h_29 => ?_)
        · refine z_iinc_4 rfl dX4_wakingsBy_35 (by omega) ?_
          refine z_goto (tgt := 5) dX4_wakingsBy_38 (by decide) ?_
          exact ih (k + 1) _ (by omega) (by rw [hx, zct_s, zb_f h_29]; omega) (by omega)
        · refine z_iinc_3 rfl dX4_wakingsBy_32 (by omega) ?_
          refine z_iinc_4 rfl dX4_wakingsBy_35 (by omega) ?_
          refine z_goto (tgt := 5) dX4_wakingsBy_38 (by decide) ?_
          exact ih (k + 1) _ (by omega) (by rw [zct_s, zb_t h_29, hx]) (by omega)
  refine z_iconst dX4_wakingsBy_0 (by decide) ?_
  refine z_istore_3 rfl dX4_wakingsBy_1 ?_
  refine z_iconst dX4_wakingsBy_2 (by decide) ?_
  refine z_istore_4 rfl dX4_wakingsBy_3 ?_
  exact L 50 0 0 (by omega) rfl (by omega)
set_option maxRecDepth 100000 in
set_option maxHeartbeats 4000000 in
theorem k_X4_wakingsTogether {l : Launch} {E : zE} {S : zM} {x : Int} {n h : Nat} {μ : zM} (hn : zAt zp4 n) (hh : zAt zp2 h) (h8 : μ n 8 = ((h + 5 : Nat) : Int)) (hc : 0 ≤ μ (h + 5) 6 ∧ μ (h + 5) 6 ≤ 5) (hz : ∀ s, 0 ≤ s → s < μ (h + 5) 6 → zZ1 μ n S s ∧ (0 ≤ S 4 s ∧ S 4 s ≤ 40) ∧ zZv S s) : Ct l E yX4_wakingsTogether cX4_wakingsTogether 5 (some .int) ({ frames := 1, cells := 0, slots := 0, locals := 24 }) [zR n, zI x] μ (fun r ν => r = some (zI (zTg S (μ (h + 5) 6) x)) ∧ ν = μ) := by
  refine Ct.of RX4 [zR n, zI x, zU, zU, zU] (by decide +kernel) rfl ⟨rfl, rfl⟩ rfl (Nat.le_of_ble_eq_true rfl) (fun X hX hc0 ha0 => ?_)
  subst hX
  have hw : ∀ (a b : Int), 0 ≤ b → b < μ (h + 5) 6 → 0 ≤ zWb S a b ∧ zWb S a b ≤ 40 := fun a b b0 b1 => by
    have := zct_b (Q := fun k => S 10 (40 * b + k) % 100 = a) (n := (S 4 b).toNat)
    have := (hz b b0 b1).2.1
    unfold zWb
    omega
  have hf : ∀ (a b : Int), 0 ≤ b → b < μ (h + 5) 6 → 0 ≤ zif (a ≠ b ∧ zand (zshr x a) 1 = zand (zshr x b) 1) (zWb S a b) 0 ∧ zif (a ≠ b ∧ zand (zshr x a) 1 = zand (zshr x b) 1) (zWb S a b) 0 ≤ 40 := fun a b b0 b1 => zif_i (p := fun z => 0 ≤ z ∧ z ≤ 40) (fun _ => hw a b b0 b1) (fun _ => by decide)
  have hR : ∀ (i : Nat), (i : Int) ≤ 5 → ∀ (j : Nat), (j : Int) ≤ μ (h + 5) 6 → 0 ≤ zsum (fun b => zif ((i : Int) ≠ b ∧ zand (zshr x (i : Int)) 1 = zand (zshr x b) 1) (zWb S (i : Int) b) 0) j ∧ zsum (fun b => zif ((i : Int) ≠ b ∧ zand (zshr x (i : Int)) 1 = zand (zshr x b) 1) (zWb S (i : Int) b) 0) j ≤ 200 := fun i _ j hj => by
    have := zsum_b (f := (fun b => zif ((i : Int) ≠ b ∧ zand (zshr x (i : Int)) 1 = zand (zshr x b) 1) (zWb S (i : Int) b) 0)) (B := 40) (n := j) (fun b b0 b1 => hf _ b b0 (by omega))
    omega
  have hA : ∀ (i : Nat), (i : Int) ≤ 5 → 0 ≤ zsum (fun a => zsum (fun b => zif (a ≠ b ∧ zand (zshr x a) 1 = zand (zshr x b) 1) (zWb S a b) 0) (μ (h + 5) 6).toNat) i ∧ zsum (fun a => zsum (fun b => zif (a ≠ b ∧ zand (zshr x a) 1 = zand (zshr x b) 1) (zWb S a b) 0) (μ (h + 5) 6).toNat) i ≤ 1000 := fun i hi => by
    have := zsum_b (f := (fun a => zsum (fun b => zif (a ≠ b ∧ zand (zshr x a) 1 = zand (zshr x b) 1) (zWb S a b) 0) (μ (h + 5) 6).toNat)) (B := 200) (n := i) (fun a a0 a1 => by
      have := zsum_b (f := (fun b => zif (a ≠ b ∧ zand (zshr x a) 1 = zand (zshr x b) 1) (zWb S a b) 0)) (B := 40) (n := (μ (h + 5) 6).toNat) (fun b b0 b1 => hf a b b0 (by omega))
      omega)
    omega
  have LI : ∀ (k : Nat) (i : Nat) (v : Int), (i : Int) ≤ μ (h + 5) 6 → v = zsum (fun a => zsum (fun b => zif (a ≠ b ∧ zand (zshr x a) 1 = zand (zshr x b) 1) (zWb S a b) 0) (μ (h + 5) 6).toNat) i → μ (h + 5) 6 - i < k → MW X E cX4_wakingsTogether RX4 ({ frames := 1, cells := 0, slots := 0, locals := 24 }) (some .int) (fun r ν => r = some (zI (zTg S (μ (h + 5) 6) x)) ∧ ν = μ) 4 [zR n, zI x, zI v, zI (i : Int), zU] [] μ := by
    intro k
    induction k with
    | zero => intro i v hi1 hv h3; omega
    | succ k ih =>
      intro i v hi1 hv h3
      refine z_iload_3 dX4_wakingsTogether_4 ?_
      refine z_aload_0 dX4_wakingsTogether_5 ?_
      refine z_getM 8 rfl (h + 5) f_X4_45 (hn.at 0 rfl) rfl h8 dX4_wakingsTogether_6 ?_
      refine z_getI 6 rfl f_X4_60 (hh.at 5 rfl) rfl dX4_wakingsTogether_9 ?_
      refine z_icmpge (tgt := 72) dX4_wakingsTogether_12 (by decide) (fun h_12 => ?_) (fun h_12 => ?_)
      · refine z_iload_2 dX4_wakingsTogether_72 ?_
        exact z_iret dX4_wakingsTogether_73 (⟨congrArg (fun z => (some (zI z) : Option zAV)) (by rw [hv]; unfold zTg; rw [show (μ (h + 5) 6).toNat = i by omega]), rfl⟩)
      · have LJ : ∀ (k : Nat) (j : Nat) (v : Int), (j : Int) ≤ μ (h + 5) 6 → v = zsum (fun a => zsum (fun b => zif (a ≠ b ∧ zand (zshr x a) 1 = zand (zshr x b) 1) (zWb S a b) 0) (μ (h + 5) 6).toNat) i + zsum (fun b => zif ((i : Int) ≠ b ∧ zand (zshr x (i : Int)) 1 = zand (zshr x b) 1) (zWb S (i : Int) b) 0) j → μ (h + 5) 6 - j < k → MW X E cX4_wakingsTogether RX4 ({ frames := 1, cells := 0, slots := 0, locals := 24 }) (some .int) (fun r ν => r = some (zI (zTg S (μ (h + 5) 6) x)) ∧ ν = μ) 18 [zR n, zI x, zI v, zI (i : Int), zI (j : Int)] [] μ := by
          intro k
          induction k with
          | zero => intro j v hj1 hv h4; omega
          | succ k ih2 =>
            intro j v hj1 hv h4
            refine z_iload_4 dX4_wakingsTogether_18 ?_
            refine z_aload_0 dX4_wakingsTogether_20 ?_
            refine z_getM 8 rfl (h + 5) f_X4_45 (hn.at 0 rfl) rfl h8 dX4_wakingsTogether_21 ?_
            refine z_getI 6 rfl f_X4_60 (hh.at 5 rfl) rfl dX4_wakingsTogether_24 ?_
            refine z_icmpge (tgt := 66) dX4_wakingsTogether_27 (by decide) (fun h_27 => ?_) (fun h_27 => ?_)
            · refine z_iinc_3 rfl dX4_wakingsTogether_66 (by omega) ?_
              refine z_goto (tgt := 4) dX4_wakingsTogether_69 (by decide) ?_
              refine z_weak (ls' := [zR n, zI x, zI v, zI ((i + 1 : Nat) : Int), zU]) ⟨Or.inl rfl, Or.inl rfl, Or.inl rfl, Or.inl rfl, Or.inr rfl, trivial⟩ (ih (i + 1) v (by omega) (by rw [hv, zsum_s, show (μ (h + 5) 6).toNat = j by omega]) (by omega))
            · have zb2 := hz j (by omega) (by omega)
              have wb := zct_b (Q := fun k => S 10 (40 * (j : Int) + k) % 100 = (i : Int)) (n := (S 4 (j : Int)).toNat)
              have wb2 : zWb S (i : Int) (j : Int) = zct (fun k => S 10 (40 * (j : Int) + k) % 100 = (i : Int)) (S 4 (j : Int)).toNat := rfl
              have r1 := hR i (by omega) j (by omega)
              have r2 := hA i (by omega)
              refine z_iload_3 dX4_wakingsTogether_30 ?_
              refine z_iload_4 dX4_wakingsTogether_31 ?_
              refine z_icmpeq (tgt := 60) dX4_wakingsTogether_33 (by decide) (fun h_33 => ?_) (fun h_33 => ?_)
              · refine z_iinc_4 rfl dX4_wakingsTogether_60 (by omega) ?_
                refine z_goto (tgt := 18) dX4_wakingsTogether_63 (by decide) ?_
                exact ih2 (j + 1) _ (by omega) (by rw [zsum_s, zif_f (fun c => c.1 h_33), hv]; omega) (by omega)
              · refine z_iload_1 dX4_wakingsTogether_36 ?_
                refine z_iload_3 dX4_wakingsTogether_37 ?_
                refine z_ishr dX4_wakingsTogether_38 ?_
                refine z_iconst dX4_wakingsTogether_39 (by decide) ?_
                refine z_iand dX4_wakingsTogether_40 ?_
                refine z_iload_1 dX4_wakingsTogether_41 ?_
                refine z_iload_4 dX4_wakingsTogether_42 ?_
                refine z_ishr dX4_wakingsTogether_44 ?_
                refine z_iconst dX4_wakingsTogether_45 (by decide) ?_
                refine z_iand dX4_wakingsTogether_46 ?_
                refine z_icmpne (tgt := 60) dX4_wakingsTogether_47 (by decide) (fun h_47 => ?_) (fun h_47 => ?_)
                · refine z_iinc_4 rfl dX4_wakingsTogether_60 (by omega) ?_
                  refine z_goto (tgt := 18) dX4_wakingsTogether_63 (by decide) ?_
                  exact ih2 (j + 1) _ (by omega) (by rw [zsum_s, zif_f (fun c => h_47 c.2), hv]; omega) (by omega)
                · refine z_iload_2 dX4_wakingsTogether_50 ?_
                  refine z_aload_0 dX4_wakingsTogether_51 ?_
                  refine z_iload_3 dX4_wakingsTogether_52 ?_
                  refine z_iload_4 dX4_wakingsTogether_53 ?_
                  refine z_callV2 (k_X4_wakingsBy (S := S) hn (by omega) (by omega) zb2.1 zb2.2.1 zb2.2.2) m_X4_wakingsBy (hn.at 0 rfl) l_X4_178 (Nat.le_of_ble_eq_true rfl) ⟨Nat.le_of_ble_eq_true rfl, Nat.le_of_ble_eq_true rfl⟩ ⟨rfl, rfl⟩ dX4_wakingsTogether_55 (fun r μ1 hp => ?_)
                  obtain ⟨rfl, hv⟩ := hp
                  replace hv := hv.symm
                  subst hv
                  refine z_iadd dX4_wakingsTogether_58 (by omega) ?_
                  refine z_istore_2 rfl dX4_wakingsTogether_59 ?_
                  refine z_iinc_4 rfl dX4_wakingsTogether_60 (by omega) ?_
                  refine z_goto (tgt := 18) dX4_wakingsTogether_63 (by decide) ?_
                  exact ih2 (j + 1) _ (by omega) (by rw [zsum_s, zif_t ⟨h_33, h_47⟩, hv]; omega) (by omega)
        refine z_iconst dX4_wakingsTogether_15 (by decide) ?_
        refine z_istore_4 rfl dX4_wakingsTogether_16 ?_
        exact LJ 9 0 v (by omega) (by rw [hv]; exact (Int.add_zero _).symm) (by omega)
  refine z_iconst dX4_wakingsTogether_0 (by decide) ?_
  refine z_istore_2 rfl dX4_wakingsTogether_1 ?_
  refine z_iconst dX4_wakingsTogether_2 (by decide) ?_
  refine z_istore_3 rfl dX4_wakingsTogether_3 ?_
  exact LI 9 0 0 (by omega) rfl (by omega)
