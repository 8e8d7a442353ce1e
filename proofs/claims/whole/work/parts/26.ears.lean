/-! THE CLASS'S EARS: distances from the beds, what is lost between beds, the loudest of each way, cover, what is due -/
theorem zE_far {e : Nat} (he : zAt zp0 e) {b : Int} (b0 : 0 ≤ b) (b1 : b < 6) : zl (e + 4 + b.toNat) = (20, 36) := by
  rcases (by omega : b = 0 ∨ b = 1 ∨ b = 2 ∨ b = 3 ∨ b = 4 ∨ b = 5) with rfl | rfl | rfl | rfl | rfl | rfl
  · exact he.at 4 rfl
  · exact he.at 5 rfl
  · exact he.at 6 rfl
  · exact he.at 7 rfl
  · exact he.at 8 rfl
  · exact he.at 9 rfl
theorem zE_com {e : Nat} (he : zAt zp0 e) {b : Int} (b0 : 0 ≤ b) (b1 : b < 6) : zl (e + 12 + b.toNat) = (20, 6) := by
  rcases (by omega : b = 0 ∨ b = 1 ∨ b = 2 ∨ b = 3 ∨ b = 4 ∨ b = 5) with rfl | rfl | rfl | rfl | rfl | rfl
  · exact he.at 12 rfl
  · exact he.at 13 rfl
  · exact he.at 14 rfl
  · exact he.at 15 rfl
  · exact he.at 16 rfl
  · exact he.at 17 rfl
theorem zE_go {e : Nat} (he : zAt zp0 e) {b : Int} (b0 : 0 ≤ b) (b1 : b < 6) : zl (e + 19 + b.toNat) = (20, 6) := by
  rcases (by omega : b = 0 ∨ b = 1 ∨ b = 2 ∨ b = 3 ∨ b = 4 ∨ b = 5) with rfl | rfl | rfl | rfl | rfl | rfl
  · exact he.at 19 rfl
  · exact he.at 20 rfl
  · exact he.at 21 rfl
  · exact he.at 22 rfl
  · exact he.at 23 rfl
  · exact he.at 24 rfl
theorem zE_noi {e : Nat} (he : zAt zp0 e) {b : Int} (b0 : 0 ≤ b) (b1 : b < 8) : zl (e + 26 + b.toNat) = (20, 6) := by
  rcases (by omega : b = 0 ∨ b = 1 ∨ b = 2 ∨ b = 3 ∨ b = 4 ∨ b = 5 ∨ b = 6 ∨ b = 7) with rfl | rfl | rfl | rfl | rfl | rfl | rfl | rfl
  · exact he.at 26 rfl
  · exact he.at 27 rfl
  · exact he.at 28 rfl
  · exact he.at 29 rfl
  · exact he.at 30 rfl
  · exact he.at 31 rfl
  · exact he.at 32 rfl
  · exact he.at 33 rfl
theorem zE_los {e : Nat} (he : zAt zp0 e) {b : Int} (b0 : 0 ≤ b) (b1 : b < 6) : zl (e + 37 + b.toNat) = (20, 6) := by
  rcases (by omega : b = 0 ∨ b = 1 ∨ b = 2 ∨ b = 3 ∨ b = 4 ∨ b = 5) with rfl | rfl | rfl | rfl | rfl | rfl
  · exact he.at 37 rfl
  · exact he.at 38 rfl
  · exact he.at 39 rfl
  · exact he.at 40 rfl
  · exact he.at 41 rfl
  · exact he.at 42 rfl
set_option maxRecDepth 100000 in
set_option maxHeartbeats 4000000 in
theorem k_X0_at {l : Launch} {E : zE} {e h : Nat} {μ : zM} (he : zAt zp0 e) (hh : zAt zp2 h) (hd : h + 22 ≤ e ∨ e + 47 ≤ h) (ok : zOK (zHV μ h)) (hf : μ e 9 = ((h + 1 : Nat) : Int)) {b c v : Int} (b0 : 0 ≤ b) (b1 : b < 6) (c0 : 0 ≤ c) (c1 : c < 36) (hv : 0 ≤ v ∧ v ≤ 100) (hb : -1 ≤ μ (e + 4 + b.toNat) c ∧ μ (e + 4 + b.toNat) c ≤ 100) : Ct l E yX0_at cX0_at 4 (some .int) ({ frames := 2, cells := 0, slots := 0, locals := 43 }) [zR e, zI b, zI c, zI v] μ (fun r ν => r = some (zI (zFd v (μ (e + 4 + b.toNat) c) (μ (h + 1) 4))) ∧ ν = μ) := by
  refine Ct.of RX0 [zR e, zI b, zI c, zI v] (by decide +kernel) rfl ⟨rfl, rfl⟩ rfl (Nat.le_of_ble_eq_true rfl) (fun X hX hc0 ha0 => ?_)
  subst hX
  obtain ⟨nb, nf, nd, np, ns, nr⟩ := zOK_n ok
  have hN : h < 420 := zl_lt (hh.at 0 rfl) (by decide)
  refine z_iload_3 dX0_at_0 ?_
  refine z_aload_0 dX0_at_1 ?_
  refine z_getF (e + 3) 3 rfl f_X0_20 (he.at 0 rfl) rfl rfl dX0_at_2 ?_
  refine z_iload_1 dX0_at_5 ?_
  refine z_row (e + 4 + b.toNat) (by omega) (he.at 3 rfl) (by omega) (by omega) dX0_at_6 ?_
  refine z_iload_2 dX0_at_7 ?_
  refine z_iald (zE_far he b0 b1) (by omega) (by omega) dX0_at_8 ?_
  refine z_aload_0 dX0_at_9 ?_
  refine z_getM 9 rfl (h + 1) f_X0_48 (he.at 0 rfl) rfl hf dX0_at_10 ?_
  refine z_getI 4 rfl f_X0_67 (hh.at 1 rfl) rfl dX0_at_13 ?_
  refine z_callN3 (k_X11_faded (by omega) hb nf) m_X11_faded n_X0_140 (Nat.le_of_ble_eq_true rfl) ⟨Nat.le_of_ble_eq_true rfl, Nat.le_of_ble_eq_true rfl⟩ ⟨rfl, rfl⟩ dX0_at_16 (fun r μ1 hp => ?_)
  obtain ⟨rfl, hv⟩ := hp
  replace hv := hv.symm
  subst hv
  exact z_iret dX0_at_19 (⟨rfl, rfl⟩)
set_option maxRecDepth 100000 in
set_option maxHeartbeats 4000000 in
theorem k_X0_measure {l : Launch} {E : zE} {e h : Nat} {μ : zM} (he : zAt zp0 e) (hh : zAt zp2 h) (hd : h + 22 ≤ e ∨ e + 47 ≤ h) (ok : zOK (zHV μ h)) : Ct l E yX0_measure cX0_measure 3 none ({ frames := 2, cells := 0, slots := 0, locals := 51 }) [zR e, zR (h + 1)] μ (fun r ν => r = none ∧ ν e 9 = ((h + 1 : Nat) : Int) ∧ (∀ b, 0 ≤ b → b < μ (h + 1) 3 → zDM (zOp (zHV μ h)) (zHV μ h 2 b) (ν (e + 4 + b.toNat))) ∧ (∀ a, (a < e ∨ e + 10 ≤ a) → ν a = μ a)) := by
  refine Ct.of RX0 [zR e, zR (h + 1), zU] (by decide +kernel) rfl ⟨rfl, rfl⟩ rfl (Nat.le_of_ble_eq_true rfl) (fun X hX hc0 ha0 => ?_)
  subst hX
  obtain ⟨nb, nf, nd, np, ns, nr⟩ := zOK_n ok
  have hN : h < 420 := zl_lt (hh.at 0 rfl) (by decide)
  have L2 : ∀ (k : Nat) (ξ : zM) (i : Int), 0 ≤ i → i ≤ μ (h + 1) 3 → ξ e 9 = ((h + 1 : Nat) : Int) → (∀ b, 0 ≤ b → b < i → zDM (zOp (zHV μ h)) (zHV μ h 2 b) (ξ (e + 4 + b.toNat))) → (∀ a, (a < e ∨ e + 10 ≤ a) → ξ a = μ a) → μ (h + 1) 3 - i < k → MW X E cX0_measure RX0 ({ frames := 2, cells := 0, slots := 0, locals := 51 }) none (fun r ν => r = none ∧ ν e 9 = ((h + 1 : Nat) : Int) ∧ (∀ b, 0 ≤ b → b < μ (h + 1) 3 → zDM (zOp (zHV μ h)) (zHV μ h 2 b) (ν (e + 4 + b.toNat))) ∧ (∀ a, (a < e ∨ e + 10 ≤ a) → ν a = μ a)) 7 [zR e, zR (h + 1), zI i] [] ξ := by
    intro k
    induction k with
    | zero => intro ξ i h0 hi1 h9 hdm hfr h3; omega
    | succ k ih =>
      intro ξ i h0 hi1 h9 hdm hfr h3
      refine z_iload_2 dX0_measure_7 ?_
      refine z_aload_1 dX0_measure_8 ?_
      refine z_getI 3 rfl f_X0_52 (hh.at 1 rfl) rfl dX0_measure_9 ?_
      refine z_icmpge (tgt := 44) dX0_measure_12 (by decide) (fun h_12 => ?_) (fun h_12 => ?_)
      · exact z_vret dX0_measure_44 (⟨rfl, h9, fun b b0 b1 => hdm b b0 (by rw [hfr (h + 1) (by omega)] at h_12; omega), hfr⟩)
      · have h1 : i < μ (h + 1) 3 := by rw [← hfr (h + 1) (by omega)]; exact h_12
        have hV : zHV ξ h = zHV μ h := zHV_fr (a := e) (n := 10) hfr (by omega)
        have e2 : zHV μ h 2 i = ξ (h + 4) i := by rw [zHV_2 h0 h1, hfr (h + 4) (by omega)]
        have hbc : 0 ≤ ξ (h + 4) i ∧ ξ (h + 4) i < 36 := by have := ok.1.2.2.1 i h0 h1; rw [e2] at this; exact ⟨this.1, this.2.1⟩
        refine z_fact (fun hcx _ _ => ?_)
        refine z_aload_0 dX0_measure_15 ?_
        refine z_getF (e + 1) 1 rfl f_X0_12 (he.at 0 rfl) rfl rfl dX0_measure_16 ?_
        refine z_aload_1 dX0_measure_19 ?_
        refine z_getF (h + 2) 1 rfl f_X0_56 (hh.at 1 rfl) rfl rfl dX0_measure_20 ?_
        refine z_aload_1 dX0_measure_23 ?_
        refine z_getF (h + 4) 3 rfl f_X0_60 (hh.at 1 rfl) rfl rfl dX0_measure_24 ?_
        refine z_iload_2 dX0_measure_27 ?_
        refine z_iald (hh.at 4 rfl) (by omega) (by omega) dX0_measure_28 ?_
        refine z_aload_0 dX0_measure_29 ?_
        refine z_getF (e + 3) 3 rfl f_X0_20 (he.at 0 rfl) rfl rfl dX0_measure_30 ?_
        refine z_iload_2 dX0_measure_33 ?_
        refine z_row (e + 4 + i.toNat) (by omega) (he.at 3 rfl) (by omega) (by omega) dX0_measure_34 ?_
        refine z_callV3 (k_X6_spread (he.sub 1 rfl) (hh.at 2 rfl) (zE_far he (by omega) (by omega)) (by omega) hbc) m_X6_spread (he.at 1 rfl) l_X0_63 (Nat.le_of_ble_eq_true rfl) ⟨Nat.le_of_ble_eq_true rfl, Nat.le_of_ble_eq_true rfl⟩ ⟨rfl, rfl⟩ dX0_measure_35 (fun r μ1 hp => ?_)
        obtain ⟨rfl, dd, fr⟩ := hp
        have d1 := zSp hh hcx hbc.1 hbc.2 dd
        rw [hV, ← e2] at d1
        refine z_iinc_2 rfl dX0_measure_38 (by omega) ?_
        refine z_goto (tgt := 7) dX0_measure_41 (by decide) ?_
        exact ih μ1 (i + 1) (by omega) (by omega) (by rw [fr e (by omega) (by omega)]; exact h9) (fun b b0 b1 => by by_cases q : b = i; (subst q; exact d1); (rw [fr (e + 4 + b.toNat) (by omega) (by omega)]; exact hdm b b0 (by omega))) (fun a ha => by rw [fr a (by omega) (by omega)]; exact hfr a ha) (by omega)
  refine z_aload_0 dX0_measure_0 ?_
  refine z_aload_1 dX0_measure_1 ?_
  refine z_putR 9 rfl (by omega) f_X0_48 p_0_9 (he.at 0 rfl) rfl rfl dX0_measure_2 ?_
  refine z_iconst dX0_measure_5 (by decide) ?_
  refine z_istore_2 rfl dX0_measure_6 ?_
  exact L2 8 _ 0 (by omega) (by omega) zup_eq (fun b b0 b1 => by omega) (fun a ha => zup_row (by omega)) (by omega)
/-- what a noise loses over so many steps -/
def zLs (d f : Int) : Int := if d = -1 then 60 else f * d
theorem zOK_bed {V : zM} (ok : zOK V) {b : Int} (b0 : 0 ≤ b) (b1 : b < V 3 0) : 0 ≤ V 2 b ∧ V 2 b < 36 := ⟨(ok.1.2.2.1 b b0 b1).1, (ok.1.2.2.1 b b0 b1).2.1⟩
set_option maxRecDepth 100000 in
set_option maxHeartbeats 4000000 in
theorem k_X0_measureBeds {l : Launch} {E : zE} {e h : Nat} {μ : zM} (he : zAt zp0 e) (hh : zAt zp2 h) (hd : h + 22 ≤ e ∨ e + 47 ≤ h) (ok : zOK (zHV μ h)) (hf0 : μ e 9 = ((h + 1 : Nat) : Int)) (hdm : ∀ b, 0 ≤ b → b < μ (h + 1) 3 → zDM (zOp (zHV μ h)) (zHV μ h 2 b) (μ (e + 4 + b.toNat))) : Ct l E yX0_measureBeds cX0_measureBeds 4 none ({ frames := 0, cells := 0, slots := 0, locals := 0 }) [zR e] μ (fun r ν => r = none ∧ (∀ b l, 0 ≤ b → b < μ (h + 1) 3 → 0 ≤ l → l < μ (h + 1) 3 → ν (e + 37 + l.toNat) b = zLs (zWk (zHV μ h) (zHV μ h 2 b) (zHV μ h 2 l)) (zHV μ h 3 1)) ∧ (∀ a, (a < e + 37 ∨ e + 43 ≤ a) → ν a = μ a)) := by
  refine Ct.of RX0 [zR e, zU, zU, zU] (by decide +kernel) rfl ⟨rfl, rfl⟩ rfl (Nat.le_of_ble_eq_true rfl) (fun X hX hc0 ha0 => ?_)
  subst hX
  obtain ⟨nb, nf, nd, np, ns, nr⟩ := zOK_n ok
  have hN : h < 420 := zl_lt (hh.at 0 rfl) (by decide)
  have L2 : ∀ (k : Nat) (ξ : zM) (b : Int), 0 ≤ b → b ≤ μ (h + 1) 3 → (∀ x y, 0 ≤ x → x < μ (h + 1) 3 → 0 ≤ y → y < μ (h + 1) 3 → x < b → ξ (e + 37 + y.toNat) x = zLs (zWk (zHV μ h) (zHV μ h 2 x) (zHV μ h 2 y)) (zHV μ h 3 1)) → (∀ a, (a < e + 37 ∨ e + 43 ≤ a) → ξ a = μ a) → μ (h + 1) 3 - b < k → MW X E cX0_measureBeds RX0 ({ frames := 0, cells := 0, slots := 0, locals := 0 }) none (fun r ν => r = none ∧ (∀ b l, 0 ≤ b → b < μ (h + 1) 3 → 0 ≤ l → l < μ (h + 1) 3 → ν (e + 37 + l.toNat) b = zLs (zWk (zHV μ h) (zHV μ h 2 b) (zHV μ h 2 l)) (zHV μ h 3 1)) ∧ (∀ a, (a < e + 37 ∨ e + 43 ≤ a) → ν a = μ a)) 2 [zR e, zI b, zU, zU] [] ξ := by
    intro k
    induction k with
    | zero => intro ξ b hb0 hb1 hls hfr h4; omega
    | succ k ih =>
      intro ξ b hb0 hb1 hls hfr h4
      have hf : ξ e 9 = ((h + 1 : Nat) : Int) := by rw [hfr e (by omega)]; exact hf0
      have hc3 : ξ (h + 1) 3 = μ (h + 1) 3 := by rw [hfr (h + 1) (by omega)]
      refine z_iload_1 dX0_measureBeds_2 ?_
      refine z_aload_0 dX0_measureBeds_3 ?_
      refine z_getM 9 rfl (h + 1) f_X0_48 (he.at 0 rfl) rfl hf dX0_measureBeds_4 ?_
      refine z_getI 3 rfl f_X0_52 (hh.at 1 rfl) rfl dX0_measureBeds_7 ?_
      refine z_icmpge (tgt := 82) dX0_measureBeds_10 (by decide) (fun h_10 => ?_) (fun h_10 => ?_)
      · exact z_vret dX0_measureBeds_82 (⟨rfl, fun x y x0 x1 y0 y1 => hls x y x0 x1 y0 y1 (by omega), hfr⟩)
      · have b1 : b < μ (h + 1) 3 := by rw [← hc3]; exact h_10
        have LI : ∀  (k : Nat) (ξ : zM) (l : Int), 0 ≤ l → l ≤ μ (h + 1) 3 → (∀ x y, 0 ≤ x → x < μ (h + 1) 3 → 0 ≤ y → y < μ (h + 1) 3 → (x < b ∨ (x = b ∧ y < l)) → ξ (e + 37 + y.toNat) x = zLs (zWk (zHV μ h) (zHV μ h 2 x) (zHV μ h 2 y)) (zHV μ h 3 1)) → (∀ a, (a < e + 37 ∨ e + 43 ≤ a) → ξ a = μ a) → μ (h + 1) 3 - l < k → MW X E cX0_measureBeds RX0 ({ frames := 0, cells := 0, slots := 0, locals := 0 }) none (fun r ν => r = none ∧ (∀ b l, 0 ≤ b → b < μ (h + 1) 3 → 0 ≤ l → l < μ (h + 1) 3 → ν (e + 37 + l.toNat) b = zLs (zWk (zHV μ h) (zHV μ h 2 b) (zHV μ h 2 l)) (zHV μ h 3 1)) ∧ (∀ a, (a < e + 37 ∨ e + 43 ≤ a) → ν a = μ a)) 15 [zR e, zI b, zI l, zU] [] ξ := by
          intro  k
          induction k with
          | zero => intro ξ l hl0 hl1 hls hfr h4; omega
          | succ k ih2 =>
            intro ξ l hl0 hl1 hls hfr h4
            have hf : ξ e 9 = ((h + 1 : Nat) : Int) := by rw [hfr e (by omega)]; exact hf0
            have hc3 : ξ (h + 1) 3 = μ (h + 1) 3 := by rw [hfr (h + 1) (by omega)]
            refine z_iload_2 dX0_measureBeds_15 ?_
            refine z_aload_0 dX0_measureBeds_16 ?_
            refine z_getM 9 rfl (h + 1) f_X0_48 (he.at 0 rfl) rfl hf dX0_measureBeds_17 ?_
            refine z_getI 3 rfl f_X0_52 (hh.at 1 rfl) rfl dX0_measureBeds_20 ?_
            refine z_icmpge (tgt := 76) dX0_measureBeds_23 (by decide) (fun h_23 => ?_) (fun h_23 => ?_)
            · refine z_iinc_1 rfl dX0_measureBeds_76 (by omega) ?_
              refine z_goto (tgt := 2) dX0_measureBeds_79 (by decide) ?_
              exact z_weak (ls' := [zR e, zI (b + 1), zU, zU]) ⟨Or.inl rfl, Or.inl rfl, Or.inr rfl, Or.inr rfl, trivial⟩ (ih ξ (b + 1) (by omega) (by omega) (fun x y x0 x1 y0 y1 hxy => hls x y x0 x1 y0 y1 (by omega)) hfr (by omega))
            · have l1 : l < μ (h + 1) 3 := by rw [← hc3]; exact h_23
              have hbl := zOK_bed ok hl0 l1
              have h2l : ξ (h + 4) l = zHV μ h 2 l := by rw [zHV_2 hl0 l1, hfr (h + 4) (by omega)]
              have hfar : ξ (e + 4 + b.toNat) = μ (e + 4 + b.toNat) := hfr _ (by omega)
              have hw4 := zWk_eq (hdm b hb0 b1) hbl.1 hbl.2
              have hdb := zDM_b (hdm b hb0 b1) hbl.1 hbl.2
              have hfd : ξ (h + 1) 4 = zHV μ h 3 1 := by rw [hfr (h + 1) (by omega)]; rfl
              rw [← h2l, ← hfar] at hw4 hdb
              rw [← h2l] at hbl
              refine z_aload_0 dX0_measureBeds_26 ?_
              refine z_getF (e + 3) 3 rfl f_X0_20 (he.at 0 rfl) rfl rfl dX0_measureBeds_27 ?_
              refine z_iload_1 dX0_measureBeds_30 ?_
              refine z_row (e + 4 + b.toNat) (by omega) (he.at 3 rfl) (by omega) (by omega) dX0_measureBeds_31 ?_
              refine z_aload_0 dX0_measureBeds_32 ?_
              refine z_getM 9 rfl (h + 1) f_X0_48 (he.at 0 rfl) rfl hf dX0_measureBeds_33 ?_
              refine z_getF (h + 4) 3 rfl f_X0_60 (hh.at 1 rfl) rfl rfl dX0_measureBeds_36 ?_
              refine z_iload_2 dX0_measureBeds_39 ?_
              refine z_iald (hh.at 4 rfl) (by omega) (by omega) dX0_measureBeds_40 ?_
              refine z_iald (zE_far he (by omega) (by omega)) (by omega) (by omega) dX0_measureBeds_41 ?_
              refine z_istore_3 rfl dX0_measureBeds_42 ?_
              refine z_aload_0 dX0_measureBeds_43 ?_
              refine z_getF (e + 36) 36 rfl f_X0_42 (he.at 0 rfl) rfl rfl dX0_measureBeds_44 ?_
              refine z_iload_2 dX0_measureBeds_47 ?_
              refine z_row (e + 37 + l.toNat) (by omega) (he.at 36 rfl) (by omega) (by omega) dX0_measureBeds_48 ?_
              refine z_iload_1 dX0_measureBeds_49 ?_
              refine z_iload_3 dX0_measureBeds_50 ?_
              refine z_iconst dX0_measureBeds_51 (by decide) ?_
              refine z_icmpne (tgt := 60) dX0_measureBeds_52 (by decide) (fun h_52 => ?_) (fun h_52 => ?_)
              · have hmm := zmul_c (f := ξ (h + 1) 4) (d := ξ (e + 4 + b.toNat) (ξ (h + 4) l)) (by rw [hfd]; exact nf) (by omega)
                refine z_aload_0 dX0_measureBeds_60 ?_
                refine z_getM 9 rfl (h + 1) f_X0_48 (he.at 0 rfl) rfl hf dX0_measureBeds_61 ?_
                refine z_getI 4 rfl f_X0_67 (hh.at 1 rfl) rfl dX0_measureBeds_64 ?_
                refine z_iload_3 dX0_measureBeds_67 ?_
                refine z_imul dX0_measureBeds_68 (by omega) ?_
                refine z_iast (zE_los he (by omega) (by omega)) (by omega) (by omega) dX0_measureBeds_69 ?_
                refine z_iinc_2 rfl dX0_measureBeds_70 (by omega) ?_
                refine z_goto (tgt := 15) dX0_measureBeds_73 (by decide) ?_
                exact z_weak (ls' := [zR e, zI b, zI (l + 1), zU]) ⟨Or.inl rfl, Or.inl rfl, Or.inl rfl, Or.inr rfl, trivial⟩ (ih2 (zup ξ (e + 37 + l.toNat) b (ξ (h + 1) 4 * ξ (e + 4 + b.toNat) (ξ (h + 4) l))) (l + 1) (by omega) (by omega) (fun x y x0 x1 y0 y1 hxy => by by_cases q : x = b ∧ y = l; (obtain ⟨rfl, rfl⟩ := q; rw [zup_eq, ← h2l, ← hw4, ← hfd]; unfold zLs; first | rw [if_pos h_52] | rw [if_neg h_52]); (rw [zup_ne (by by_cases q1 : y = l; exact Or.inr (fun q2 => q ⟨q2, q1⟩); exact Or.inl (by omega))]; exact hls x y x0 x1 y0 y1 (by omega))) (fun a ha => by rw [zup_row (by omega)]; exact hfr a ha) (by omega))
              · refine z_bipush dX0_measureBeds_55 (by decide) ?_
                refine z_goto (tgt := 69) dX0_measureBeds_57 (by decide) ?_
                refine z_iast (zE_los he (by omega) (by omega)) (by omega) (by omega) dX0_measureBeds_69 ?_
                refine z_iinc_2 rfl dX0_measureBeds_70 (by omega) ?_
                refine z_goto (tgt := 15) dX0_measureBeds_73 (by decide) ?_
                exact z_weak (ls' := [zR e, zI b, zI (l + 1), zU]) ⟨Or.inl rfl, Or.inl rfl, Or.inl rfl, Or.inr rfl, trivial⟩ (ih2 (zup ξ (e + 37 + l.toNat) b 60) (l + 1) (by omega) (by omega) (fun x y x0 x1 y0 y1 hxy => by by_cases q : x = b ∧ y = l; (obtain ⟨rfl, rfl⟩ := q; rw [zup_eq, ← h2l, ← hw4, ← hfd]; unfold zLs; first | rw [if_pos h_52] | rw [if_neg h_52]); (rw [zup_ne (by by_cases q1 : y = l; exact Or.inr (fun q2 => q ⟨q2, q1⟩); exact Or.inl (by omega))]; exact hls x y x0 x1 y0 y1 (by omega))) (fun a ha => by rw [zup_row (by omega)]; exact hfr a ha) (by omega))
        refine z_iconst dX0_measureBeds_13 (by decide) ?_
        refine z_istore_2 rfl dX0_measureBeds_14 ?_
        exact LI 8 ξ 0 (by omega) (by omega) (fun x y x0 x1 y0 y1 hxy => hls x y x0 x1 y0 y1 (by omega)) hfr (by omega)
  refine z_iconst dX0_measureBeds_0 (by decide) ?_
  refine z_istore_1 rfl dX0_measureBeds_1 ?_
  exact L2 8 μ 0 (by omega) (by omega) (fun x y x0 x1 y0 y1 hxy => by omega) (fun _ _ => rfl) (by omega)
