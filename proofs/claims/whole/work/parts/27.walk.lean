/-- the loudest of the cells of a way, all but the first, so many steps far -/
def zWy (g : Int → Int) (F : Int → Int) : Nat → Int → Int
  | 0, _ => 0
  | n + 1, c => max (g (zNx F c)) (zWy g F n (zNx F c))
theorem zWy_s {g F : Int → Int} {n : Nat} {c : Int} : zWy g F (n + 1) c = max (g (zNx F c)) (zWy g F n (zNx F c)) := rfl
theorem zWy_n {g F : Int → Int} : ∀ {n : Nat} {c : Int}, 0 ≤ zWy g F n c
  | 0, _ => by show (0 : Int) ≤ 0; omega
  | n + 1, c => by rw [zWy_s]; have := zWy_n (g := g) (F := F) (n := n) (c := zNx F c); omega
/-- heard in the cell of a bed l of a creak at c -/
noncomputable def zHc (V : zM) (l c : Int) : Int := zFd (V 1 c) (zWk V (V 2 l) c) (V 3 1)
/-- the loudest creak heard in bed l of the way from s to d -/
noncomputable def zWc (V : zM) (l s d : Int) : Int := zWy (zHc V l) (zWk V d) (zWk V d s).toNat s
theorem zHc_b {V : zM} (ok : zOK V) {l c : Int} {F : Int → Int} (d : zDM (zOp V) (V 2 l) F) (l0 : 0 ≤ l) (l1 : l < V 3 0) (c0 : 0 ≤ c) (c1 : c < 36) : 0 ≤ zHc V l c ∧ zHc V l c ≤ 40 := by
  have hb := zDM_b (zWk_of d) c0 c1
  have := zFd_b (v := V 1 c) hb.1 ok.1.2.2.2.1 (ok.1.1 c c0 c1).2.1
  have := (ok.1.1 c c0 c1).2
  unfold zHc
  omega
set_option maxRecDepth 100000 in
set_option maxHeartbeats 4000000 in
theorem k_X0_walk {l : Launch} {E : zE} {f g : Nat} {s d : Int} {e h : Nat} {μ : zM} (he : zAt zp0 e) (hh : zAt zp2 h) (hd : h + 22 ≤ e ∨ e + 47 ≤ h) (ok : zOK (zHV μ h)) (hf0 : μ e 9 = ((h + 1 : Nat) : Int)) (hdm : ∀ b, 0 ≤ b → b < μ (h + 1) 3 → zDM (zOp (zHV μ h)) (zHV μ h 2 b) (μ (e + 4 + b.toNat))) (hD : zDM (zOp (zHV μ h)) d (μ f)) (d0 : 0 ≤ d) (d1 : d < 36) (s0 : 0 ≤ s) (s1 : s < 36) (hfl : zl f = (20, 36)) (hgl : zl g = (20, 6)) (hfr0 : e + 4 ≤ f ∧ f ≤ e + 10) (hgr0 : e + 11 < g ∧ g < e + 25) : Ct l E yX0_walk cX0_walk 7 none ({ frames := 3, cells := 0, slots := 0, locals := 66 }) [zR e, zI s, zR f, zR g] μ (fun r ν => r = none ∧ (∀ l, 0 ≤ l → l < μ (h + 1) 3 → ν g l = zWc (zHV μ h) l s d) ∧ ∀ a, a ≠ g → ν a = μ a) := by
  refine Ct.of RX0 [zR e, zI s, zR f, zR g, zU, zU, zU] (by decide +kernel) rfl ⟨rfl, rfl⟩ rfl (Nat.le_of_ble_eq_true rfl) (fun X hX hc0 ha0 => ?_)
  subst hX
  obtain ⟨nb, nf, nd, np, ns, nr⟩ := zOK_n ok
  have hN : h < 420 := zl_lt (hh.at 0 rfl) (by decide)
  have LI : ∀ (ζ : zM) (c2 i : Int) (c0 : 0 ≤ c2) (c1 : c2 < 36) (ib : 0 < i ∧ i < 1000) (KK : ∀ (ξ : zM), (∀ y, 0 ≤ y → y < μ (h + 1) 3 → ξ g y = max (ζ g y) (zHc (zHV μ h) y c2)) → (∀ a, a ≠ g → ξ a = μ a) → MW X E cX0_walk RX0 ({ frames := 3, cells := 0, slots := 0, locals := 66 }) none (fun r ν => r = none ∧ (∀ l, 0 ≤ l → l < μ (h + 1) 3 → ν g l = zWc (zHV μ h) l s d) ∧ ∀ a, a ≠ g → ν a = μ a) 13 [zR e, zI s, zR f, zR g, zI c2, zI (i + -1), zU] [] ξ) (k : Nat) (ξ : zM) (x : Int), 0 ≤ x → x ≤ μ (h + 1) 3 → (∀ y, 0 ≤ y → y < x → ξ g y = max (ζ g y) (zHc (zHV μ h) y c2)) → (∀ y, x ≤ y → y < μ (h + 1) 3 → ξ g y = ζ g y) → (∀ a, a ≠ g → ξ a = μ a) → μ (h + 1) 3 - x < k → MW X E cX0_walk RX0 ({ frames := 3, cells := 0, slots := 0, locals := 66 }) none (fun r ν => r = none ∧ (∀ l, 0 ≤ l → l < μ (h + 1) 3 → ν g l = zWc (zHV μ h) l s d) ∧ ∀ a, a ≠ g → ν a = μ a) 36 [zR e, zI s, zR f, zR g, zI c2, zI i, zI x] [] ξ := by
    intro ζ c2 i c0 c1 ib KK k
    induction k with
    | zero => intro ξ x x0 hx1 hlo hup hfr h4; omega
    | succ k ih2 =>
      intro ξ x x0 hx1 hlo hup hfr h4
      have hf : ξ e 9 = ((h + 1 : Nat) : Int) := by rw [hfr e (by omega)]; exact hf0
      have hV : zHV ξ h = zHV μ h := zHV_fr (a := g) (n := 1) (fun a ha => hfr a (by omega)) (by omega)
      have hc3 : ξ (h + 1) 3 = μ (h + 1) 3 := by rw [hfr (h + 1) (by omega)]
      refine z_iload_6 dX0_walk_36 ?_
      refine z_aload_0 dX0_walk_38 ?_
      refine z_getM 9 rfl (h + 1) f_X0_48 (he.at 0 rfl) rfl hf dX0_walk_39 ?_
      refine z_getI 3 rfl f_X0_52 (hh.at 1 rfl) rfl dX0_walk_42 ?_
      refine z_icmpge (tgt := 83) dX0_walk_45 (by decide) (fun h_45 => ?_) (fun h_45 => ?_)
      · refine z_iinc_5 rfl dX0_walk_83 (by omega) ?_
        refine z_goto (tgt := 13) dX0_walk_86 (by decide) ?_
        exact z_weak (ls' := [zR e, zI s, zR f, zR g, zI c2, zI (i + -1), zU]) ⟨Or.inl rfl, Or.inl rfl, Or.inl rfl, Or.inl rfl, Or.inl rfl, Or.inl rfl, Or.inr rfl, trivial⟩ (KK ξ (fun y y0 y1 => hlo y y0 (by omega)) hfr)
      · have x1 : x < μ (h + 1) 3 := by rw [← hc3]; exact h_45
        have hfa : ξ (e + 4 + x.toNat) = μ (e + 4 + x.toNat) := hfr _ (by omega)
        have hbl := zOK_bed ok x0 x1
        have hw4 := zWk_eq (hdm x x0 x1) c0 c1
        have hdb := zDM_b (hdm x x0 x1) c0 c1
        have hcr : ξ (h + 3) c2 = zHV μ h 1 c2 := by rw [zHV_1 c0 c1, hfr (h + 3) (by omega)]
        have hck := (ok.1.1 c2 c0 c1).2
        have hat : zFd (ξ (h + 3) c2) (ξ (e + 4 + x.toNat) c2) (ξ (h + 1) 4) = zHc (zHV μ h) x c2 := by rw [hcr, hfa, hw4, hfr (h + 1) (by omega)]; rfl
        refine z_aload_3 dX0_walk_48 ?_
        refine z_iload_6 dX0_walk_49 ?_
        refine z_aload_3 dX0_walk_51 ?_
        refine z_iload_6 dX0_walk_52 ?_
        refine z_iald hgl (by omega) (by omega) dX0_walk_54 ?_
        refine z_aload_0 dX0_walk_55 ?_
        refine z_iload_6 dX0_walk_56 ?_
        refine z_iload_4 dX0_walk_58 ?_
        refine z_aload_0 dX0_walk_60 ?_
        refine z_getM 9 rfl (h + 1) f_X0_48 (he.at 0 rfl) rfl hf dX0_walk_61 ?_
        refine z_getF (h + 3) 2 rfl f_X0_131 (hh.at 1 rfl) rfl rfl dX0_walk_64 ?_
        refine z_iload_4 dX0_walk_67 ?_
        refine z_iald (hh.at 3 rfl) (by omega) (by omega) dX0_walk_69 ?_
        refine z_callV3 (k_X0_at he hh hd (by rw [hV]; exact ok) hf (by omega) (by omega) c0 c1 (by rw [hcr]; omega) (by rw [hfa]; omega)) m_X0_at (he.at 0 rfl) l_X0_117 (Nat.le_of_ble_eq_true rfl) ⟨Nat.le_of_ble_eq_true rfl, Nat.le_of_ble_eq_true rfl⟩ ⟨rfl, rfl⟩ dX0_walk_70 (fun r μ1 hp => ?_)
        obtain ⟨rfl, hv⟩ := hp
        replace hv := hv.symm
        subst hv
        rw [hat]
        refine z_max l_X0_134 ⟨Nat.le_of_ble_eq_true rfl, Nat.le_of_ble_eq_true rfl⟩ dX0_walk_73 ?_
        refine z_iast hgl (by omega) (by omega) dX0_walk_76 ?_
        refine z_iinc_6 rfl dX0_walk_77 (by omega) ?_
        refine z_goto (tgt := 36) dX0_walk_80 (by decide) ?_
        exact z_weak (ls' := [zR e, zI s, zR f, zR g, zI c2, zI i, zI (x + 1)]) ⟨Or.inl rfl, Or.inl rfl, Or.inl rfl, Or.inl rfl, Or.inl rfl, Or.inl rfl, Or.inl rfl, trivial⟩ (ih2 (zup ξ g x (max (ξ g x) (zHc (zHV μ h) x c2))) (x + 1) (by omega) (by omega) (fun y y0 y1 => by by_cases q : y = x; (subst q; rw [zup_eq, hup y (by omega) (by omega)]); (rw [zup_ne (Or.inr q)]; exact hlo y y0 (by omega))) (fun y y0 y1 => by rw [zup_ne (Or.inr (by omega))]; exact hup y (by omega) y1) (fun a ha => by rw [zup_row ha]; exact hfr a ha) (by omega))
  have L2 : ∀ (k : Nat) (ξ : zM) (c i : Int), 0 ≤ c → c < 36 → zWk (zHV μ h) d c = i → -1 ≤ i → (∀ l, 0 ≤ l → l < μ (h + 1) 3 → (0 ≤ ξ g l ∧ ξ g l ≤ 100) ∧ max (ξ g l) (zWy (zHc (zHV μ h) l) (zWk (zHV μ h) d) i.toNat c) = zWc (zHV μ h) l s d) → (∀ a, a ≠ g → ξ a = μ a) → i + 1 < k → MW X E cX0_walk RX0 ({ frames := 3, cells := 0, slots := 0, locals := 66 }) none (fun r ν => r = none ∧ (∀ l, 0 ≤ l → l < μ (h + 1) 3 → ν g l = zWc (zHV μ h) l s d) ∧ ∀ a, a ≠ g → ν a = μ a) 13 [zR e, zI s, zR f, zR g, zI c, zI i, zU] [] ξ := by
    intro k
    induction k with
    | zero => intro ξ c i c0 c1 hci hi1 hmx hfr h3; omega
    | succ k ih =>
      intro ξ c i c0 c1 hci hi1 hmx hfr h3
      have hff : ξ f = μ f := hfr f (by omega)
      refine z_iload_5 dX0_walk_13 ?_
      refine z_ifle (tgt := 89) dX0_walk_15 (by decide) (fun h_15 => ?_) (fun h_15 => ?_)
      · exact z_vret dX0_walk_89 (⟨rfl, fun l l0 l1 => by have hm := hmx l l0 l1; rw [show i.toNat = 0 by omega] at hm; have : zWy (zHc (zHV μ h) l) (zWk (zHV μ h) d) 0 c = 0 := rfl; omega, hfr⟩)
      · refine z_iload_4 dX0_walk_18 ?_
        refine z_aload_2 dX0_walk_20 ?_
        refine z_callS2 (k_X6_onward hfl ⟨c0, c1⟩) m_X6_onward l_X0_127 (Nat.le_of_ble_eq_true rfl) ⟨Nat.le_of_ble_eq_true rfl, Nat.le_of_ble_eq_true rfl⟩ ⟨rfl, rfl⟩ dX0_walk_21 (fun r μ1 hp => ?_)
        obtain ⟨rfl, hv⟩ := hp
        replace hv := hv.symm
        subst hv
        have e6 : zNx (ξ f) c = zNx (zWk (zHV μ h) d) c := zNx_cg (fun x x0 x1 => by rw [hff]; exact zWk_eq hD x0 x1) c0 c1
        have c2r := zNx_ok (zWk_of hD) c0 c1 (by omega)
        rw [e6]
        refine z_istore_4 rfl dX0_walk_24 ?_
        refine z_iload_4 dX0_walk_26 ?_
        refine z_iconst dX0_walk_28 (by decide) ?_
        refine z_icmpne (tgt := 33) dX0_walk_29 (by decide) (fun h_29 => ?_) (fun h_29 => ?_)
        · refine z_iconst dX0_walk_33 (by decide) ?_
          refine z_istore_6 rfl dX0_walk_34 ?_
          refine LI ξ (zNx (zWk (zHV μ h) d) c) i c2r.1.1 c2r.1.2 (by have := zDM_b (zWk_of hD) c0 c1; omega) (fun ξ2 hl2 hf2 => ?_) 8 ξ 0 (by omega) (by omega) (fun y y0 y1 => by omega) (fun y y0 y1 => rfl) hfr (by omega)
          refine z_eqs (ih ξ2 (zNx (zWk (zHV μ h) d) c) (i - 1) c2r.1.1 c2r.1.2 (by rw [c2r.2, hci]) (by omega) (fun l l0 l1 => ?_) hf2 (by omega)) rfl (by rw [show i + -1 = i - 1 by omega]) rfl rfl
          have hm := hmx l l0 l1
          have hb := zHc_b ok (hdm l l0 l1) l0 l1 c2r.1.1 c2r.1.2
          rw [show i.toNat = (i - 1).toNat + 1 by omega, zWy_s] at hm
          rw [hl2 l l0 l1]
          omega
        · exact z_vret dX0_walk_32 (⟨rfl, fun l l0 l1 => by have hm := hmx l l0 l1; rw [show i.toNat = 0 by omega] at hm; have : zWy (zHc (zHV μ h) l) (zWk (zHV μ h) d) 0 c = 0 := rfl; omega, hfr⟩)
  refine z_aload_3 dX0_walk_0 ?_
  refine z_iconst dX0_walk_1 (by decide) ?_
  refine z_callS2 (k_J7_fill_53178 hgl (by decide)) m_J7_fill_53178 l_X0_121 (Nat.le_of_ble_eq_true rfl) ⟨Nat.le_of_ble_eq_true rfl, Nat.le_of_ble_eq_true rfl⟩ ⟨rfl, rfl⟩ dX0_walk_2 (fun r μ1 hp => ?_)
  obtain ⟨rfl, hv⟩ := hp
  subst hv
  have hff : zfl μ g (6 : Nat) 0 f = μ f := zfl_ne (by omega)
  have hs := zWk_eq hD s0 s1
  have hsb := zDM_b hD s0 s1
  refine z_iload_1 dX0_walk_5 ?_
  refine z_istore_4 rfl dX0_walk_6 ?_
  refine z_aload_2 dX0_walk_8 ?_
  refine z_iload_1 dX0_walk_9 ?_
  refine z_iald hfl (by omega) (by omega) dX0_walk_10 ?_
  rw [hff, hs]
  refine z_istore_5 rfl dX0_walk_11 ?_
  exact L2 60 _ s _ s0 s1 rfl (by omega) (fun l l0 l1 => by rw [zfl_at l0 (by omega)]; refine ⟨by decide, ?_⟩; have := zWy_n (g := zHc (zHV μ h) l) (F := zWk (zHV μ h) d) (n := (zWk (zHV μ h) d s).toNat) (c := s); unfold zWc; omega) (fun a ha => zfl_ne ha) (by omega)
