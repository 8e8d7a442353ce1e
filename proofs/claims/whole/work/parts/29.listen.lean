/-- heard in bed l of a noise of v at c, cover aside -/
noncomputable def zHs (V : zM) (l c v : Int) : Int := zFd v (zWk V (V 2 l) c) (V 3 1)
theorem zE_noi2 {e : Nat} (he : zAt zp0 e) {i : Nat} (h : i < 8) : zl (e + 26 + i) = (20, 6) := by
  have := zE_noi he (b := (i : Int)) (by omega) (by omega)
  rwa [Int.toNat_natCast] at this
def zEa (V : zM) (μ : zM) (e : Nat) : Prop := (∀ b, 0 ≤ b → b < V 3 0 → zDM (zOp V) (V 2 b) (μ (e + 4 + b.toNat))) ∧ zDM (zOp V) (V 3 2) (μ (e + 10)) ∧ ∀ b l, 0 ≤ b → b < V 3 0 → 0 ≤ l → l < V 3 0 → μ (e + 37 + l.toNat) b = zLs (zWk V (V 2 b) (V 2 l)) (V 3 1)
def zEb (V : zM) (μ : zM) (e : Nat) (n : Int) : Prop := ∀ b l, 0 ≤ b → b < n → 0 ≤ l → l < V 3 0 → μ (e + 12 + b.toNat) l = zWc V l (V 3 2) (V 2 b) ∧ μ (e + 19 + b.toNat) l = zWc V l (V 2 b) (V 3 2)
def zEc (V : zM) (fan : Int) (μ : zM) (e : Nat) (n : Int) : Prop := ∀ t, 0 ≤ t → t < n → μ (e + 34) t = fan + zCv V t
def zEd (V : zM) (μ : zM) (e n : Nat) : Prop := (∀ t, 0 ≤ t → t < 40 → zBt (μ (e + 35) t) n (fun j => zDu V j t)) ∧ ∀ i : Nat, i < n → V 10 (i : Int) = 0 → ∀ l, 0 ≤ l → l < V 3 0 → μ (e + 26 + i) l = zHs V l (V 11 (i : Int)) (V 14 (i : Int))
/-- the ears are told of a house and a fan -/
def zEr (V : zM) (fan : Int) (μ : zM) (e : Nat) : Prop := zEa V μ e ∧ zEb V μ e (V 3 0) ∧ zEc V fan μ e 40 ∧ zEd V μ e (V 3 4).toNat
theorem zEa_fr {V μ ν : zM} {e : Nat} (h : zEa V μ e) (hb : V 3 0 ≤ 6) (f1 : ∀ a, e + 4 ≤ a → a ≤ e + 10 → ν a = μ a) (f2 : ∀ a, e + 37 ≤ a → a < e + 43 → ν a = μ a) : zEa V ν e :=
  ⟨fun b b0 b1 => by rw [f1 _ (by omega) (by omega)]; exact h.1 b b0 b1, by rw [f1 _ (by omega) (by omega)]; exact h.2.1, fun b l b0 b1 l0 l1 => by rw [f2 _ (by omega) (by omega)]; exact h.2.2 b l b0 b1 l0 l1⟩
theorem zEb_fr {V μ ν : zM} {e : Nat} {n : Int} (h : zEb V μ e n) (hb : n ≤ 6) (f1 : ∀ a, e + 12 ≤ a → a < e + 18 → ν a = μ a) (f2 : ∀ a, e + 19 ≤ a → a < e + 25 → ν a = μ a) : zEb V ν e n := fun b l b0 b1 l0 l1 => by
  rw [f1 _ (by omega) (by omega), f2 _ (by omega) (by omega)]
  exact h b l b0 b1 l0 l1
set_option maxRecDepth 100000 in
set_option maxHeartbeats 4000000 in
theorem k_X0_listenTo {l : Launch} {E : zE} {e h : Nat} {μ : zM} (he : zAt zp0 e) (hh : zAt zp2 h) (hd : h + 22 ≤ e ∨ e + 47 ≤ h) (ok : zOK (zHV μ h)) (hf0 : μ e 9 = ((h + 1 : Nat) : Int)) (hdm : ∀ b, 0 ≤ b → b < μ (h + 1) 3 → zDM (zOp (zHV μ h)) (zHV μ h 2 b) (μ (e + 4 + b.toNat))) {i : Nat} (hi : (i : Int) < μ (h + 12) 5) (hdu : ∀ y, 0 ≤ y → y < 40 → zBt (μ (e + 35) y) i (fun j => zDu (zHV μ h) j y)) : Ct l E yX0_listenTo cX0_listenTo 4 none ({ frames := 3, cells := 0, slots := 0, locals := 66 }) [zR e, zR (h + 12), zI (i : Int)] μ (fun r ν => r = none ∧ (∀ y, 0 ≤ y → y < 40 → zBt (ν (e + 35) y) (i + 1) (fun j => zDu (zHV μ h) j y)) ∧ (zHV μ h 10 i = 0 → ∀ l, 0 ≤ l → l < μ (h + 1) 3 → ν (e + 26 + i) l = zHs (zHV μ h) l (zHV μ h 11 i) (zHV μ h 14 i)) ∧ ∀ a, a ≠ e + 35 → a ≠ e + 26 + i → ν a = μ a) := by
  refine Ct.of RX0 [zR e, zR (h + 12), zI (i : Int), zU] (by decide +kernel) rfl ⟨rfl, rfl⟩ rfl (Nat.le_of_ble_eq_true rfl) (fun X hX hc0 ha0 => ?_)
  subst hX
  obtain ⟨nb, nf, nd, np, ns, nr⟩ := zOK_n ok
  have hN : h < 420 := zl_lt (hh.at 0 rfl) (by decide)
  have LI : ∀ (k0 : zHV μ h 10 i = 0) (k : Nat) (ξ : zM) (l : Int), 0 ≤ l → l ≤ μ (h + 1) 3 → (∀ y, 0 ≤ y → y < 40 → zBt (ξ (e + 35) y) (i + 1) (fun j => zDu (zHV μ h) j y)) → (∀ y, 0 ≤ y → y < l → ξ (e + 26 + i) y = zHs (zHV μ h) y (zHV μ h 11 i) (zHV μ h 14 i)) → (∀ a, a ≠ e + 35 → a ≠ e + 26 + i → ξ a = μ a) → μ (h + 1) 3 - l < k → MW X E cX0_listenTo RX0 ({ frames := 3, cells := 0, slots := 0, locals := 66 }) none (fun r ν => r = none ∧ (∀ y, 0 ≤ y → y < 40 → zBt (ν (e + 35) y) (i + 1) (fun j => zDu (zHV μ h) j y)) ∧ (zHV μ h 10 i = 0 → ∀ l, 0 ≤ l → l < μ (h + 1) 3 → ν (e + 26 + i) l = zHs (zHV μ h) l (zHV μ h 11 i) (zHV μ h 14 i)) ∧ ∀ a, a ≠ e + 35 → a ≠ e + 26 + i → ν a = μ a) 46 [zR e, zR (h + 12), zI (i : Int), zI l] [] ξ := by
    intro k0 k
    induction k with
    | zero => intro ξ l l0 hl1 hbt hls hfr h4; omega
    | succ k ih2 =>
      intro ξ l l0 hl1 hbt hls hfr h4
      have hf : ξ e 9 = ((h + 1 : Nat) : Int) := by rw [hfr e (by omega) (by omega)]; exact hf0
      have hV : zHV ξ h = zHV μ h := by unfold zHV; rw [hfr (h + 1) (by omega) (by omega), hfr (h + 2) (by omega) (by omega), hfr (h + 3) (by omega) (by omega), hfr (h + 4) (by omega) (by omega), hfr (h + 5) (by omega) (by omega), hfr (h + 6) (by omega) (by omega), hfr (h + 7) (by omega) (by omega), hfr (h + 8) (by omega) (by omega), hfr (h + 9) (by omega) (by omega), hfr (h + 10) (by omega) (by omega), hfr (h + 11) (by omega) (by omega), hfr (h + 12) (by omega) (by omega), hfr (h + 13) (by omega) (by omega), hfr (h + 14) (by omega) (by omega), hfr (h + 15) (by omega) (by omega), hfr (h + 16) (by omega) (by omega), hfr (h + 17) (by omega) (by omega), hfr (h + 18) (by omega) (by omega), hfr (h + 19) (by omega) (by omega), hfr (h + 20) (by omega) (by omega), hfr (h + 21) (by omega) (by omega)]
      have hc3 : ξ (h + 1) 3 = μ (h + 1) 3 := by rw [hfr (h + 1) (by omega) (by omega)]
      have hx : ξ (h + 14) i = zHV μ h 11 i := by rw [zHV_11 (by omega) hi, hfr (h + 14) (by omega) (by omega)]
      have hvv : ξ (h + 17) i = zHV μ h 14 i := by rw [zHV_14 (by omega) hi, hfr (h + 17) (by omega) (by omega)]
      have so := ok.2.2.1.2 i (by omega) hi
      have hxr := so.2.1 k0
      refine z_iload_3 dX0_listenTo_46 ?_
      refine z_aload_0 dX0_listenTo_47 ?_
      refine z_getM 9 rfl (h + 1) f_X0_48 (he.at 0 rfl) rfl hf dX0_listenTo_48 ?_
      refine z_getI 3 rfl f_X0_52 (hh.at 1 rfl) rfl dX0_listenTo_51 ?_
      refine z_icmpge (tgt := 88) dX0_listenTo_54 (by decide) (fun h_54 => ?_) (fun h_54 => ?_)
      · exact z_vret dX0_listenTo_88 (⟨rfl, hbt, fun _ l l0 l1 => hls l l0 (by omega), hfr⟩)
      · have l1 : l < μ (h + 1) 3 := by rw [← hc3]; exact h_54
        have hfa : ξ (e + 4 + l.toNat) = μ (e + 4 + l.toNat) := hfr _ (by omega) (by omega)
        have hw4 := zWk_eq (hdm l l0 l1) hxr.1 hxr.2
        have hdb := zDM_b (hdm l l0 l1) hxr.1 hxr.2
        have hat : zFd (ξ (h + 17) i) (ξ (e + 4 + l.toNat) (ξ (h + 14) i)) (ξ (h + 1) 4) = zHs (zHV μ h) l (zHV μ h 11 i) (zHV μ h 14 i) := by rw [hvv, hx, hfa, hw4, hfr (h + 1) (by omega) (by omega)]; rfl
        refine z_aload_0 dX0_listenTo_57 ?_
        refine z_getF (e + 25) 25 rfl f_X0_33 (he.at 0 rfl) rfl rfl dX0_listenTo_58 ?_
        refine z_iload_2 dX0_listenTo_61 ?_
        refine z_row (e + 26 + i) (by omega) (he.at 25 rfl) (by omega) (by omega) dX0_listenTo_62 ?_
        refine z_iload_3 dX0_listenTo_63 ?_
        refine z_aload_0 dX0_listenTo_64 ?_
        refine z_iload_3 dX0_listenTo_65 ?_
        refine z_aload_1 dX0_listenTo_66 ?_
        refine z_getF (h + 14) 2 rfl f_X0_111 (hh.at 12 rfl) rfl rfl dX0_listenTo_67 ?_
        refine z_iload_2 dX0_listenTo_70 ?_
        refine z_iald (hh.at 14 rfl) (by omega) (by omega) dX0_listenTo_71 ?_
        refine z_aload_1 dX0_listenTo_72 ?_
        refine z_getF (h + 17) 5 rfl f_X0_114 (hh.at 12 rfl) rfl rfl dX0_listenTo_73 ?_
        refine z_iload_2 dX0_listenTo_76 ?_
        refine z_iald (hh.at 17 rfl) (by omega) (by omega) dX0_listenTo_77 ?_
        refine z_callV3 (k_X0_at he hh hd (by rw [hV]; exact ok) hf (by omega) (by omega) (by rw [hx]; exact hxr.1) (by rw [hx]; exact hxr.2) (by rw [hvv]; omega) (by rw [hx, hfa]; omega)) m_X0_at (he.at 0 rfl) l_X0_117 (Nat.le_of_ble_eq_true rfl) ⟨Nat.le_of_ble_eq_true rfl, Nat.le_of_ble_eq_true rfl⟩ ⟨rfl, rfl⟩ dX0_listenTo_78 (fun r μ1 hp => ?_)
        obtain ⟨rfl, hv⟩ := hp
        replace hv := hv.symm
        subst hv
        rw [hat]
        refine z_iast (zE_noi2 he (by omega)) (by omega) (by omega) dX0_listenTo_81 ?_
        refine z_iinc_3 rfl dX0_listenTo_82 (by omega) ?_
        refine z_goto (tgt := 46) dX0_listenTo_85 (by decide) ?_
        exact ih2 (zup ξ (e + 26 + i) l (zHs (zHV μ h) l (zHV μ h 11 i) (zHV μ h 14 i))) (l + 1) (by omega) (by omega) (fun y y0 y1 => by rw [zup_id (by omega)]; exact hbt y y0 y1) (fun y y0 y1 => by by_cases q : y = l; (subst q; rw [zup_eq]); (rw [zup_ne (Or.inr q)]; exact hls y y0 (by omega))) (fun a ha hb => by rw [zup_row hb]; exact hfr a ha hb) (by omega)
  have L2 : ∀ (k : Nat) (ξ : zM) (t : Int), 0 ≤ t → t ≤ 40 → (∀ y, 0 ≤ y → y < t → zBt (ξ (e + 35) y) (i + 1) (fun j => zDu (zHV μ h) j y)) → (∀ y, t ≤ y → y < 40 → zBt (ξ (e + 35) y) i (fun j => zDu (zHV μ h) j y)) → (∀ a, a ≠ e + 35 → ξ a = μ a) → 40 - t < k → MW X E cX0_listenTo RX0 ({ frames := 3, cells := 0, slots := 0, locals := 66 }) none (fun r ν => r = none ∧ (∀ y, 0 ≤ y → y < 40 → zBt (ν (e + 35) y) (i + 1) (fun j => zDu (zHV μ h) j y)) ∧ (zHV μ h 10 i = 0 → ∀ l, 0 ≤ l → l < μ (h + 1) 3 → ν (e + 26 + i) l = zHs (zHV μ h) l (zHV μ h 11 i) (zHV μ h 14 i)) ∧ ∀ a, a ≠ e + 35 → a ≠ e + 26 + i → ν a = μ a) 2 [zR e, zR (h + 12), zI (i : Int), zI t] [] ξ := by
    intro k
    induction k with
    | zero => intro ξ t t0 ht1 hlo hup hfr h3; omega
    | succ k ih2 =>
      intro ξ t t0 ht1 hlo hup hfr h3
      have hV : zHV ξ h = zHV μ h := zHV_fr (a := e + 35) (n := 1) (fun a ha => hfr a (by omega)) (by omega)
      refine z_iload_3 dX0_listenTo_2 ?_
      refine z_bipush dX0_listenTo_3 (by decide) ?_
      refine z_icmpge (tgt := 35) dX0_listenTo_5 (by decide) (fun h_5 => ?_) (fun h_5 => ?_)
      · have e10 : ξ (h + 13) i = zHV μ h 10 i := by rw [zHV_10 (by omega) hi, hfr (h + 13) (by omega)]
        have hN9 : (0 : Int) ≤ i := by omega
        refine z_aload_1 dX0_listenTo_35 ?_
        refine z_getF (h + 13) 1 rfl f_X0_108 (hh.at 12 rfl) rfl rfl dX0_listenTo_36 ?_
        refine z_iload_2 dX0_listenTo_39 ?_
        refine z_iald (hh.at 13 rfl) (by omega) (by omega) dX0_listenTo_40 ?_
        rw [e10]
        refine z_ifne (tgt := 88) dX0_listenTo_41 (by decide) (fun h_41 => ?_) (fun h_41 => ?_)
        · exact z_vret dX0_listenTo_88 (⟨rfl, fun y y0 y1 => hlo y y0 (by omega), fun q => absurd q h_41, fun a ha _ => hfr a ha⟩)
        · refine z_iconst dX0_listenTo_44 (by decide) ?_
          refine z_istore_3 rfl dX0_listenTo_45 ?_
          exact LI h_41 8 ξ 0 (by omega) (by omega) (fun y y0 y1 => hlo y y0 (by omega)) (fun y y0 y1 => by omega) (fun a ha _ => hfr a ha) (by omega)
      · refine z_aload_1 dX0_listenTo_8 ?_
        refine z_iload_2 dX0_listenTo_9 ?_
        refine z_iload_3 dX0_listenTo_10 ?_
        refine z_callV2 (k_X9_isDue hh (by rw [hV]; exact ok) (by omega) (by rw [hfr (h + 12) (by omega)]; exact hi) (by omega)) m_X9_isDue (hh.at 12 rfl) l_X0_104 (Nat.le_of_ble_eq_true rfl) ⟨Nat.le_of_ble_eq_true rfl, Nat.le_of_ble_eq_true rfl⟩ ⟨rfl, rfl⟩ dX0_listenTo_11 (fun r μ1 hp => ?_)
        obtain ⟨rfl, hv⟩ := hp
        replace hv := hv.symm
        subst hv
        rw [hV]
        refine z_ifeq (tgt := 29) dX0_listenTo_14 (by decide) (fun h_14 => ?_) (fun h_14 => ?_)
        · replace h_14 := zb_0.mp h_14
          refine z_iinc_3 rfl dX0_listenTo_29 (by omega) ?_
          refine z_goto (tgt := 2) dX0_listenTo_32 (by decide) ?_
          exact ih2 ξ (t + 1) (by omega) (by omega) (fun y y0 y1 => by by_cases q : y = t; (subst q; exact zBt_n (hup y (by omega) (by omega)) (by omega) h_14); exact hlo y y0 (by omega)) (fun y y0 y1 => hup y (by omega) y1) hfr (by omega)
        · replace h_14 := zb_n.mp h_14
          refine z_aload_0 dX0_listenTo_17 ?_
          refine z_getF (e + 35) 35 rfl f_X0_39 (he.at 0 rfl) rfl rfl dX0_listenTo_18 ?_
          refine z_iload_3 dX0_listenTo_21 ?_
          refine z_dup2 dX0_listenTo_22 rfl rfl ?_
          refine z_iald (he.at 35 rfl) (by omega) (by omega) dX0_listenTo_23 ?_
          refine z_iconst dX0_listenTo_24 (by decide) ?_
          refine z_iload_2 dX0_listenTo_25 ?_
          refine z_ishl dX0_listenTo_26 ?_
          refine z_ior dX0_listenTo_27 ?_
          refine z_iast (he.at 35 rfl) (by omega) (by omega) dX0_listenTo_28 ?_
          refine z_iinc_3 rfl dX0_listenTo_29 (by omega) ?_
          refine z_goto (tgt := 2) dX0_listenTo_32 (by decide) ?_
          exact ih2 (zup ξ (e + 35) t (zor (ξ (e + 35) t) (zshl 1 (i : Int)))) (t + 1) (by omega) (by omega) (fun y y0 y1 => by by_cases q : y = t; (subst q; rw [zup_eq]; exact zBt_s (hup y (by omega) (by omega)) (by omega) h_14); (rw [zup_ne (Or.inr q)]; exact hlo y y0 (by omega))) (fun y y0 y1 => by rw [zup_ne (Or.inr (by omega))]; exact hup y (by omega) y1) (fun a ha => by rw [zup_row ha]; exact hfr a ha) (by omega)
  refine z_iconst dX0_listenTo_0 (by decide) ?_
  refine z_istore_3 rfl dX0_listenTo_1 ?_
  exact L2 41 μ 0 (by omega) (by omega) (fun y y0 y1 => by omega) hdu (fun _ _ => rfl) (by omega)
