/-! WORTH, SCREW, ROOMS -/
theorem zshl_b {c : Int} (h0 : 0 ≤ c) (h1 : c ≤ 5) : 1 ≤ zshl 1 c ∧ zshl 1 c ≤ 32 := by
  rcases (by omega : c = 0 ∨ c = 1 ∨ c = 2 ∨ c = 3 ∨ c = 4 ∨ c = 5) with rfl | rfl | rfl | rfl | rfl | rfl <;> decide +kernel
theorem zWb_b {S : zM} {a b : Int} (h4 : 0 ≤ S 4 b ∧ S 4 b ≤ 40) : 0 ≤ zWb S a b ∧ zWb S a b ≤ 40 := by
  have := zct_b (Q := fun k => S 10 (40 * b + k) % 100 = a) (n := (S 4 b).toNat)
  unfold zWb
  omega
noncomputable def zTr (S : zM) (x a b : Int) : Int := zif (a ≠ b ∧ zand (zshr x a) 1 = zand (zshr x b) 1) (zWb S a b) 0
theorem zTg_e {S : zM} {c x : Int} : zTg S c x = zsum (fun a => zsum (zTr S x a) c.toNat) c.toNat := rfl
theorem zTr_b {S : zM} {c x a : Int} (hc : c ≤ 5) (h4 : ∀ s, 0 ≤ s → s < c → 0 ≤ S 4 s ∧ S 4 s ≤ 40) {n : Nat} (hn : (n : Int) ≤ c) : 0 ≤ zsum (zTr S x a) n ∧ zsum (zTr S x a) n ≤ 200 := by
  have := zsum_b (f := zTr S x a) (B := 40) (n := n) (fun b b0 b1 => zif_i (p := fun z => 0 ≤ z ∧ z ≤ 40) (fun _ => zWb_b (h4 b b0 (by omega))) (fun _ => by decide))
  omega
theorem zTg_b {S : zM} {c x : Int} (hc : 0 ≤ c ∧ c ≤ 5) (h4 : ∀ s, 0 ≤ s → s < c → 0 ≤ S 4 s ∧ S 4 s ≤ 40) {n : Nat} (hn : (n : Int) ≤ c) : 0 ≤ zsum (fun a => zsum (zTr S x a) c.toNat) n ∧ zsum (fun a => zsum (zTr S x a) c.toNat) n ≤ 1000 := by
  have := zsum_b (f := fun a => zsum (zTr S x a) c.toNat) (B := 200) (n := n) (fun a a0 a1 => zTr_b hc.2 h4 (by omega))
  omega
noncomputable def zSw (V : zM) : Nat → Int × Int × Int
  | 0 => (-1, 0, 0)
  | n + 1 => zif (0 < V 1 (n : Int) ∧ ((zSw V n).1 = -1 ∨ (zSw V n).2.1 < zWR (zTw V 2 n) 0 ∨ (zWR (zTw V 2 n) 0 = (zSw V n).2.1 ∧ (zSw V n).2.2 < zGR (zTw V 2 n) 0))) ((n : Int), zWR (zTw V 2 n) 0, zGR (zTw V 2 n) 0) (zSw V n)
theorem zSw_s {V : zM} {n : Nat} : zSw V (n + 1) = zif (0 < V 1 (n : Int) ∧ ((zSw V n).1 = -1 ∨ (zSw V n).2.1 < zWR (zTw V 2 n) 0 ∨ (zWR (zTw V 2 n) 0 = (zSw V n).2.1 ∧ (zSw V n).2.2 < zGR (zTw V 2 n) 0))) ((n : Int), zWR (zTw V 2 n) 0, zGR (zTw V 2 n) 0) (zSw V n) := rfl
noncomputable def zRo (S : zM) (c : Int) : Nat → Int × Int
  | 0 => (0, zTg S c 0)
  | n + 1 => zif (zTg S c (2 * ((n : Int) + 1)) < (zRo S c n).2) (2 * ((n : Int) + 1), zTg S c (2 * ((n : Int) + 1))) (zRo S c n)
theorem zRo_s {S : zM} {c : Int} {n : Nat} : zRo S c (n + 1) = zif (zTg S c (2 * ((n : Int) + 1)) < (zRo S c n).2) (2 * ((n : Int) + 1), zTg S c (2 * ((n : Int) + 1))) (zRo S c n) := rfl
def zRm (S : zM) (c z : Int) : Prop := ∃ n : Nat, z = (zRo S c n).1 ∧ zshl 1 c ≤ 2 * ((n : Int) + 1) ∧ (2 * (n : Int) < zshl 1 c ∨ n = 0)
theorem zRm_u {S : zM} {c z y : Int} (h : zRm S c z) (g : zRm S c y) : z = y := by
  obtain ⟨n, rfl, n1, n2⟩ := h
  obtain ⟨m, rfl, m1, m2⟩ := g
  have : n = m := by omega
  rw [this]
set_option maxRecDepth 100000 in
set_option maxHeartbeats 4000000 in
theorem k_X11_worth {l : Launch} {E : zE} {μ : zM} (hm : zXpre μ) {t x : Int} (he : zHe (zHV μ 1)) : Ct l E yX11_worth cX11_worth 4 (some .int) ({ frames := 7, cells := 0, slots := 0, locals := 159 }) [zR 0, zI t, zI x] μ (fun r ν => (¬ zTh (zHV μ 1) t x ∧ r = some (zI (-100)) ∧ ν = zCt μ (-2)) ∨ (zTh (zHV μ 1) t x ∧ r = some (zI (zWR (zTw (zHV μ 1) t x) (zTf t) - zWR (zHV μ 1) 0)) ∧ zXf μ ν)) := by
  refine Ct.of RX11 [zR 0, zI t, zI x, zU] (by decide +kernel) rfl ⟨rfl, rfl⟩ rfl (Nat.le_of_ble_eq_true rfl) (fun X hX hc0 ha0 => ?_)
  subst hX
  refine z_aload_0 dX11_worth_0 ?_
  refine z_iload_1 dX11_worth_1 ?_
  refine z_iload_2 dX11_worth_2 ?_
  refine z_callV2 (k_X11_isThing hm) m_X11_isThing zl_0 l_X11_266 (Nat.le_of_ble_eq_true rfl) ⟨Nat.le_of_ble_eq_true rfl, Nat.le_of_ble_eq_true rfl⟩ ⟨rfl, rfl⟩ dX11_worth_3 (fun r μ1 hp => ?_)
  obtain ⟨rfl, hv⟩ := hp
  replace hv := hv.symm
  subst hv
  refine z_ifne (tgt := 18) dX11_worth_6 (by decide) (fun h_6 => ?_) (fun h_6 => ?_)
  · replace h_6 := zb_n.mp h_6
    refine z_aload_0 dX11_worth_18 ?_
    refine z_aload_0 dX11_worth_19 ?_
    refine z_getF 1 1 rfl f_X11_10 zl_0 rfl rfl dX11_worth_20 ?_
    refine z_iconst dX11_worth_23 (by decide) ?_
    refine z_callV2 (k_X11_pass zq2_1 (Or.inl (by decide)) hm.1 (by decide)) m_X11_pass zl_0 l_X11_196 (Nat.le_of_ble_eq_true rfl) ⟨Nat.le_of_ble_eq_true rfl, Nat.le_of_ble_eq_true rfl⟩ ⟨rfl, rfl⟩ dX11_worth_24 (fun r μ1 hp => ?_)
    obtain ⟨rfl, hni, hr⟩ := hp
    have hxf : zXf μ μ1 := fun a ha => hr a (by omega)
    have np := hm.1.2.1.1
    have pc3 : zHV μ 1 3 3 = μ 6 6 := rfl
    have hc6 : μ1 6 6 = μ 6 6 := by rw [hr 6 (by decide)]
    obtain ⟨ζ1, hζ9⟩ : ∃ z, z = μ1 := ⟨_, rfl⟩
    subst hζ9
    have hV1 : zHV ζ1 1 = zHV μ 1 := zHV_fr (a := 111) (n := 78) (fun a ha => hr a (by omega)) (by decide)
    have hm1 : zXpre ζ1 := ⟨by rw [hV1]; exact hm.1, fun j j0 j1 => by rw [hr 348 (by decide)]; exact hm.2 j j0 j1⟩
    refine z_aload_0 dX11_worth_27 ?_
    refine z_getF 111 111 rfl f_X11_37 zl_0 rfl rfl dX11_worth_28 ?_
    refine z_callV0 (k_X4_worst (h := 1) zq4_111 zq2_1 hni.2.1 (by rw [hc6]; exact np) (fun i i0 i1 => by rw [(hni.1 i i0 (by rw [hc6] at i1; exact i1)).1.2.1]; exact zNV_3 hm.1 i0 (by rw [hc6] at i1; exact i1))) m_X4_worst zl_111 l_X11_215 (Nat.le_of_ble_eq_true rfl) ⟨Nat.le_of_ble_eq_true rfl, Nat.le_of_ble_eq_true rfl⟩ ⟨rfl, rfl⟩ dX11_worth_31 (fun r μ1 hp => ?_)
    obtain ⟨rfl, hv⟩ := hp
    replace hv := hv.symm
    subst hv
    have hwo : zWo (ζ1 6 6) (ζ1 112) = zWR (zHV μ 1) 0 := by rw [hc6]; exact zWo_c (fun i i0 i1 => (hni.1 i i0 i1).1.2.1)
    refine z_istore_3 rfl dX11_worth_34 ?_
    refine z_aload_0 dX11_worth_35 ?_
    refine z_iload_1 dX11_worth_36 ?_
    refine z_iload_2 dX11_worth_37 ?_
    refine z_callV2 (k_X11_passWith (t := t) (x := x) hm1 (by rw [hV1]; exact h_6) (by rw [hV1]; exact he)) m_X11_passWith zl_0 l_X11_270 (Nat.le_of_ble_eq_true rfl) ⟨Nat.le_of_ble_eq_true rfl, Nat.le_of_ble_eq_true rfl⟩ ⟨rfl, rfl⟩ dX11_worth_38 (fun r μ1 hp => ?_)
    rw [hV1] at hp
    obtain ⟨rfl, hni2, hV2, hr2⟩ := hp
    obtain ⟨ζ2, hζ9⟩ : ∃ z, z = μ1 := ⟨_, rfl⟩
    subst hζ9
    have c28 : ζ2 28 6 = zHV μ 1 3 3 := by have e := congrFun (congrFun hV2 3) 3; rw [zTw_pc] at e; exact e
    have okT := zTw_ok hm.1 he h_6
    have pcT : ∀ i, i < zHV μ 1 3 3 → i < zTw (zHV μ 1) t x 3 3 := fun i h => by rw [zTw_pc]; exact h
    refine z_aload_0 dX11_worth_41 ?_
    refine z_getF 111 111 rfl f_X11_37 zl_0 rfl rfl dX11_worth_42 ?_
    refine z_callV0 (k_X4_worst (h := 23) zq4_111 zq2_23 hni2.2.1 (by rw [c28]; exact hm.1.2.1.1) (fun i i0 i1 => by rw [c28] at i1; rw [(hni2.1 i i0 (pcT i i1)).1.2.1]; exact zNV_3 okT i0 (pcT i i1))) m_X4_worst zl_111 l_X11_215 (Nat.le_of_ble_eq_true rfl) ⟨Nat.le_of_ble_eq_true rfl, Nat.le_of_ble_eq_true rfl⟩ ⟨rfl, rfl⟩ dX11_worth_45 (fun r μ1 hp => ?_)
    obtain ⟨rfl, hv⟩ := hp
    replace hv := hv.symm
    subst hv
    have hwo2 : zWo (ζ2 28 6) (ζ2 112) = zWR (zTw (zHV μ 1) t x) (zTf t) := by unfold zWR; rw [c28, zTw_pc]; exact zWo_c (fun i i0 i1 => (hni2.1 i i0 (pcT i i1)).1.2.1)
    refine z_iload_3 dX11_worth_48 ?_
    rw [hwo, hwo2]
    have wb1 := zWR_b (fan := 0) hm.1
    have wb2 := zWR_b (fan := zTf t) okT
    refine z_isub dX11_worth_49 (by omega) ?_
    exact z_iret dX11_worth_50 (Or.inr ⟨h_6, rfl, fun a ha => (hr2 a (by omega)).trans (hr a (by omega))⟩)
  · replace h_6 := zb_0.mp h_6
    refine z_aload_0 dX11_worth_9 ?_
    refine z_bipush dX11_worth_10 (by decide) ?_
    refine z_bipush dX11_worth_12 (by decide) ?_
    refine z_callV2 (k_X11_refused (by decide) hm.2) m_X11_refused zl_0 l_X11_116 (Nat.le_of_ble_eq_true rfl) ⟨Nat.le_of_ble_eq_true rfl, Nat.le_of_ble_eq_true rfl⟩ ⟨rfl, rfl⟩ dX11_worth_14 (fun r μ1 hp => ?_)
    obtain ⟨rfl, hv⟩ := hp
    replace hv := hv.symm
    subst hv
    exact z_iret dX11_worth_17 (Or.inl ⟨h_6, rfl, zCt_2.symm⟩)
set_option maxRecDepth 100000 in
set_option maxHeartbeats 4000000 in
theorem k_X11_screw {l : Launch} {E : zE} {μ : zM} (hm : zXpre μ) (he : zHe (zHV μ 1)) : Ct l E yX11_screw cX11_screw 5 (some .int) ({ frames := 7, cells := 0, slots := 0, locals := 159 }) [zR 0] μ (fun r ν => r = some (zI (zSw (zHV μ 1) 36).1) ∧ zXf μ ν) := by
  refine Ct.of RX11 [zR 0, zU, zU, zU, zU] (by decide +kernel) rfl ⟨rfl, rfl⟩ rfl (Nat.le_of_ble_eq_true rfl) (fun X hX hc0 ha0 => ?_)
  subst hX
  have L : ∀ (k : Nat) (c : Nat) (p1 p2 p3 : Int) (ξ : zM), (c : Int) ≤ 36 → (p1, p2, p3) = zSw (zHV μ 1) c → (∀ a : Nat, (a < 23 ∨ (45 ≤ a ∧ a < 111) ∨ 189 ≤ a) → ξ a = μ a) → 36 - (c : Int) < k → MW X E cX11_screw RX11 ({ frames := 7, cells := 0, slots := 0, locals := 159 }) (some .int) (fun r ν => r = some (zI (zSw (zHV μ 1) 36).1) ∧ zXf μ ν) 9 [zR 0, zI p1, zI p2, zI p3, zI (c : Int)] [] ξ := by
    intro k
    induction k with
    | zero => intro c p1 p2 p3 ξ hc hp9 hx h3; omega
    | succ k ih =>
      intro c p1 p2 p3 ξ hc hp9 hx h3
      refine z_iload_4 dX11_screw_9 ?_
      refine z_bipush dX11_screw_11 (by decide) ?_
      refine z_icmpge (tgt := 81) dX11_screw_13 (by decide) (fun h_13 => ?_) (fun h_13 => ?_)
      · refine z_iload_1 dX11_screw_81 ?_
        exact z_iret dX11_screw_82 (⟨congrArg (fun z => (some (zI z) : Option zAV)) (by obtain rfl : c = 36 := (by omega); rw [← hp9]), fun a ha => hx a (by omega)⟩)
      · have c1 : (c : Int) < 36 := by omega
        have hV1 : zHV ξ 1 = zHV μ 1 := by
          have := zHV_fr (μ := μ) (ν := ξ) (h := 1) (a := 23) (n := 400) (fun a ha => hx a (by omega)) (by decide)
          exact this
        have hm1 : zXpre ξ := ⟨by rw [hV1]; exact hm.1, fun j j0 j1 => by rw [hx 348 (by decide)]; exact hm.2 j j0 j1⟩
        have hth : zTh (zHV ξ 1) 2 (c : Int) := Or.inr (Or.inr (Or.inl ⟨rfl, by omega, c1⟩))
        have hth9 : zTh (zHV μ 1) 2 (c : Int) := Or.inr (Or.inr (Or.inl ⟨rfl, by omega, c1⟩))
        have ecr : ξ 4 (c : Int) = zHV μ 1 1 (c : Int) := by rw [hx 4 (by decide)]; exact (zHV_1 (h := 1) (by omega) c1).symm
        refine z_aload_0 dX11_screw_16 ?_
        refine z_getF 1 1 rfl f_X11_10 zl_0 rfl rfl dX11_screw_17 ?_
        refine z_getF 2 1 rfl f_X11_76 zl_1 rfl rfl dX11_screw_20 ?_
        refine z_getF 4 2 rfl f_X11_274 zl_2 rfl rfl dX11_screw_23 ?_
        refine z_iload_4 dX11_screw_26 ?_
        refine z_iald zl_4 (by omega) (by omega) dX11_screw_28 ?_
        rw [ecr]
        refine z_ifle (tgt := 75) dX11_screw_29 (by decide) (fun h_29 => ?_) (fun h_29 => ?_)
        · refine z_iinc_4 rfl dX11_screw_75 (by omega) ?_
          refine z_goto (tgt := 9) dX11_screw_78 (by decide) ?_
          refine z_weak (ls' := [zR 0, zI p1, zI p2, zI p3, zI ((c + 1 : Nat) : Int)]) ⟨Or.inl rfl, Or.inl rfl, Or.inl rfl, Or.inl rfl, Or.inl rfl, trivial⟩ (ih (c + 1) p1 p2 p3 ξ (by omega) (by rw [zSw_s, ← hp9, zif_f (fun q => by have := q.1; omega)]) hx (by omega))
        · have hcr : 0 < zHV μ 1 1 (c : Int) := by omega
          refine z_aload_0 dX11_screw_32 ?_
          refine z_iconst dX11_screw_33 (by decide) ?_
          refine z_iload_4 dX11_screw_34 ?_
          refine z_callV2 (k_X11_passWith (t := 2) (x := (c : Int)) hm1 hth (by rw [hV1]; exact he)) m_X11_passWith zl_0 l_X11_270 (Nat.le_of_ble_eq_true rfl) ⟨Nat.le_of_ble_eq_true rfl, Nat.le_of_ble_eq_true rfl⟩ ⟨rfl, rfl⟩ dX11_screw_36 (fun r μ1 hp => ?_)
          rw [hV1] at hp
          obtain ⟨rfl, hni2, hV2, hr2⟩ := hp
          obtain ⟨ζ2, hζ9⟩ : ∃ z, z = μ1 := ⟨_, rfl⟩
          subst hζ9
          have c28 : ζ2 28 6 = zHV μ 1 3 3 := by have e := congrFun (congrFun hV2 3) 3; rw [zTw_pc] at e; exact e
          have okT := zTw_ok hm.1 he hth9
          have pcT : ∀ i, i < zHV μ 1 3 3 → i < zTw (zHV μ 1) 2 (c : Int) 3 3 := fun i h => by rw [zTw_pc]; exact h
          have hx2 : ∀ a : Nat, (a < 23 ∨ (45 ≤ a ∧ a < 111) ∨ 189 ≤ a) → ζ2 a = μ a := fun a ha => (hr2 a ha).trans (hx a ha)
          refine z_iload_1 dX11_screw_39 ?_
          refine z_iconst dX11_screw_40 (by decide) ?_
          refine z_icmpeq (tgt := 56) dX11_screw_41 (by decide) (fun h_41 => ?_) (fun h_41 => ?_)
          · refine z_iload_4 dX11_screw_56 ?_
            refine z_istore_1 rfl dX11_screw_58 ?_
            refine z_aload_0 dX11_screw_59 ?_
            refine z_getF 111 111 rfl f_X11_37 zl_0 rfl rfl dX11_screw_60 ?_
            refine z_callV0 (k_X4_worst (h := 23) zq4_111 zq2_23 hni2.2.1 (by rw [c28]; exact hm.1.2.1.1) (fun i i0 i1 => by rw [c28] at i1; rw [(hni2.1 i i0 (pcT i i1)).1.2.1]; exact zNV_3 okT i0 (pcT i i1))) m_X4_worst zl_111 l_X11_215 (Nat.le_of_ble_eq_true rfl) ⟨Nat.le_of_ble_eq_true rfl, Nat.le_of_ble_eq_true rfl⟩ ⟨rfl, rfl⟩ dX11_screw_63 (fun r μ1 hp => ?_)
            obtain ⟨rfl, hv⟩ := hp
            replace hv := hv.symm
            subst hv
            have hwo3 : zWo (ζ2 28 6) (ζ2 112) = zWR (zTw (zHV μ 1) 2 (c : Int)) 0 := by unfold zWR; rw [c28, zTw_pc]; exact zWo_c (fun i i0 i1 => (hni2.1 i i0 (pcT i i1)).1.2.1)
            rw [hwo3]
            refine z_istore_2 rfl dX11_screw_66 ?_
            refine z_aload_0 dX11_screw_67 ?_
            refine z_getF 111 111 rfl f_X11_37 zl_0 rfl rfl dX11_screw_68 ?_
            refine z_callV0 (k_X4_good (h := 23) zq4_111 zq2_23 hni2.2.1 (by rw [c28]; exact hm.1.2.1.1) (fun i i0 i1 => by rw [c28] at i1; rw [(hni2.1 i i0 (pcT i i1)).1.2.1]; exact zNV_3 okT i0 (pcT i i1))) m_X4_good zl_111 l_X11_218 (Nat.le_of_ble_eq_true rfl) ⟨Nat.le_of_ble_eq_true rfl, Nat.le_of_ble_eq_true rfl⟩ ⟨rfl, rfl⟩ dX11_screw_71 (fun r μ1 hp => ?_)
            obtain ⟨rfl, hv⟩ := hp
            replace hv := hv.symm
            subst hv
            have hgo3 : zGo (ζ2 28 6) (ζ2 112) = zGR (zTw (zHV μ 1) 2 (c : Int)) 0 := by unfold zGR; rw [c28, zTw_pc]; exact zGo_c (fun i i0 i1 => (hni2.1 i i0 (pcT i i1)).1.2.1)
            rw [hgo3]
            refine z_istore_3 rfl dX11_screw_74 ?_
            refine z_iinc_4 rfl dX11_screw_75 (by omega) ?_
            refine z_goto (tgt := 9) dX11_screw_78 (by decide) ?_
            refine z_weak (ls' := [zR 0, zI (c : Int), zI (zWR (zTw (zHV μ 1) 2 (c : Int)) 0), zI (zGR (zTw (zHV μ 1) 2 (c : Int)) 0), zI ((c + 1 : Nat) : Int)]) ⟨Or.inl rfl, Or.inl rfl, Or.inl rfl, Or.inl rfl, Or.inl rfl, trivial⟩ (ih (c + 1) _ _ _ ζ2 (by omega) (by rw [zSw_s, ← hp9, zif_t ⟨hcr, Or.inl h_41⟩]) hx2 (by omega))
          · refine z_aload_0 dX11_screw_44 ?_
            refine z_getF 111 111 rfl f_X11_37 zl_0 rfl rfl dX11_screw_45 ?_
            refine z_iload_2 dX11_screw_48 ?_
            refine z_iload_3 dX11_screw_49 ?_
            refine z_callV2 (k_X4_isBetter (h := 23) zq4_111 zq2_23 hni2.2.1 (by rw [c28]; exact hm.1.2.1.1) (fun i i0 i1 => by rw [c28] at i1; rw [(hni2.1 i i0 (pcT i i1)).1.2.1]; exact zNV_3 okT i0 (pcT i i1))) m_X4_isBetter zl_111 l_X11_277 (Nat.le_of_ble_eq_true rfl) ⟨Nat.le_of_ble_eq_true rfl, Nat.le_of_ble_eq_true rfl⟩ ⟨rfl, rfl⟩ dX11_screw_50 (fun r μ1 hp => ?_)
            obtain ⟨rfl, hv⟩ := hp
            replace hv := hv.symm
            subst hv
            have hwo2 : zWo (ζ2 28 6) (ζ2 112) = zWR (zTw (zHV μ 1) 2 (c : Int)) 0 := by unfold zWR; rw [c28, zTw_pc]; exact zWo_c (fun i i0 i1 => (hni2.1 i i0 (pcT i i1)).1.2.1)
            have hgo2 : zGo (ζ2 28 6) (ζ2 112) = zGR (zTw (zHV μ 1) 2 (c : Int)) 0 := by unfold zGR; rw [c28, zTw_pc]; exact zGo_c (fun i i0 i1 => (hni2.1 i i0 (pcT i i1)).1.2.1)
            rw [hwo2, hgo2]
            refine z_ifeq (tgt := 75) dX11_screw_53 (by decide) (fun h_53 => ?_) (fun h_53 => ?_)
            · replace h_53 := zb_0.mp h_53
              refine z_iinc_4 rfl dX11_screw_75 (by omega) ?_
              refine z_goto (tgt := 9) dX11_screw_78 (by decide) ?_
              refine z_weak (ls' := [zR 0, zI p1, zI p2, zI p3, zI ((c + 1 : Nat) : Int)]) ⟨Or.inl rfl, Or.inl rfl, Or.inl rfl, Or.inl rfl, Or.inl rfl, trivial⟩ (ih (c + 1) p1 p2 p3 ζ2 (by omega) (by rw [zSw_s, ← hp9, zif_f (fun q => h_53 (q.2.resolve_left h_41))]) hx2 (by omega))
            · replace h_53 := zb_n.mp h_53
              refine z_iload_4 dX11_screw_56 ?_
              refine z_istore_1 rfl dX11_screw_58 ?_
              refine z_aload_0 dX11_screw_59 ?_
              refine z_getF 111 111 rfl f_X11_37 zl_0 rfl rfl dX11_screw_60 ?_
              refine z_callV0 (k_X4_worst (h := 23) zq4_111 zq2_23 hni2.2.1 (by rw [c28]; exact hm.1.2.1.1) (fun i i0 i1 => by rw [c28] at i1; rw [(hni2.1 i i0 (pcT i i1)).1.2.1]; exact zNV_3 okT i0 (pcT i i1))) m_X4_worst zl_111 l_X11_215 (Nat.le_of_ble_eq_true rfl) ⟨Nat.le_of_ble_eq_true rfl, Nat.le_of_ble_eq_true rfl⟩ ⟨rfl, rfl⟩ dX11_screw_63 (fun r μ1 hp => ?_)
              obtain ⟨rfl, hv⟩ := hp
              replace hv := hv.symm
              subst hv
              have hwo3 : zWo (ζ2 28 6) (ζ2 112) = zWR (zTw (zHV μ 1) 2 (c : Int)) 0 := by unfold zWR; rw [c28, zTw_pc]; exact zWo_c (fun i i0 i1 => (hni2.1 i i0 (pcT i i1)).1.2.1)
              rw [hwo3]
              refine z_istore_2 rfl dX11_screw_66 ?_
              refine z_aload_0 dX11_screw_67 ?_
              refine z_getF 111 111 rfl f_X11_37 zl_0 rfl rfl dX11_screw_68 ?_
              refine z_callV0 (k_X4_good (h := 23) zq4_111 zq2_23 hni2.2.1 (by rw [c28]; exact hm.1.2.1.1) (fun i i0 i1 => by rw [c28] at i1; rw [(hni2.1 i i0 (pcT i i1)).1.2.1]; exact zNV_3 okT i0 (pcT i i1))) m_X4_good zl_111 l_X11_218 (Nat.le_of_ble_eq_true rfl) ⟨Nat.le_of_ble_eq_true rfl, Nat.le_of_ble_eq_true rfl⟩ ⟨rfl, rfl⟩ dX11_screw_71 (fun r μ1 hp => ?_)
              obtain ⟨rfl, hv⟩ := hp
              replace hv := hv.symm
              subst hv
              have hgo3 : zGo (ζ2 28 6) (ζ2 112) = zGR (zTw (zHV μ 1) 2 (c : Int)) 0 := by unfold zGR; rw [c28, zTw_pc]; exact zGo_c (fun i i0 i1 => (hni2.1 i i0 (pcT i i1)).1.2.1)
              rw [hgo3]
              refine z_istore_3 rfl dX11_screw_74 ?_
              refine z_iinc_4 rfl dX11_screw_75 (by omega) ?_
              refine z_goto (tgt := 9) dX11_screw_78 (by decide) ?_
              refine z_weak (ls' := [zR 0, zI (c : Int), zI (zWR (zTw (zHV μ 1) 2 (c : Int)) 0), zI (zGR (zTw (zHV μ 1) 2 (c : Int)) 0), zI ((c + 1 : Nat) : Int)]) ⟨Or.inl rfl, Or.inl rfl, Or.inl rfl, Or.inl rfl, Or.inl rfl, trivial⟩ (ih (c + 1) _ _ _ ζ2 (by omega) (by rw [zSw_s, ← hp9, zif_t ⟨hcr, Or.inr h_53⟩]) hx2 (by omega))
  refine z_iconst dX11_screw_0 (by decide) ?_
  refine z_istore_1 rfl dX11_screw_1 ?_
  refine z_iconst dX11_screw_2 (by decide) ?_
  refine z_istore_2 rfl dX11_screw_3 ?_
  refine z_iconst dX11_screw_4 (by decide) ?_
  refine z_istore_3 rfl dX11_screw_5 ?_
  refine z_iconst dX11_screw_6 (by decide) ?_
  refine z_istore_4 rfl dX11_screw_7 ?_
  exact L 37 0 (-1) 0 0 μ (by decide) rfl (fun _ _ => rfl) (by decide)
set_option maxRecDepth 100000 in
set_option maxHeartbeats 4000000 in
theorem k_X11_rooms {l : Launch} {E : zE} {μ : zM} (hm : zXpre μ) : Ct l E yX11_rooms cX11_rooms 5 (some .int) ({ frames := 6, cells := 0, slots := 0, locals := 137 }) [zR 0] μ (fun r ν => (zHV μ 1 3 3 = 0 ∧ r = some (zI (-3)) ∧ ν = zCt μ (-3)) ∨ (zHV μ 1 3 3 ≠ 0 ∧ (∃ z, r = some (zI z) ∧ zRm (zNV (zHV μ 1) 0) (zHV μ 1 3 3) z) ∧ zXf μ ν)) := by
  refine Ct.of RX11 [zR 0, zU, zU, zU, zU] (by decide +kernel) rfl ⟨rfl, rfl⟩ rfl (Nat.le_of_ble_eq_true rfl) (fun X hX hc0 ha0 => ?_)
  subst hX
  have J : zHV μ 1 3 3 ≠ 0 → ∀ ζ : zM, zXf μ ζ → (∀ s, 0 ≤ s → s < zHV μ 1 3 3 → zZ1 ζ 111 (zNV (zHV μ 1) 0) s) → ζ 111 8 = ((1 + 5 : Nat) : Int) → MW X E cX11_rooms RX11 ({ frames := 6, cells := 0, slots := 0, locals := 137 }) (some .int) (fun r ν => (zHV μ 1 3 3 = 0 ∧ r = some (zI (-3)) ∧ ν = zCt μ (-3)) ∨ (zHV μ 1 3 3 ≠ 0 ∧ (∃ z, r = some (zI z) ∧ zRm (zNV (zHV μ 1) 0) (zHV μ 1 3 3) z) ∧ zXf μ ν)) 29 [zR 0, zU, zU, zU, zU] [] ζ := by
    intro h0 ζ hxf hz h8
    have np := hm.1.2.1.1
    have hc6 : ζ 6 6 = zHV μ 1 3 3 := by rw [hxf 6 (by decide)]; rfl
    have hsh := zshl_b np.1 np.2
    have L : ∀ (k : Nat) (n : Nat) (p1 p2 : Int), (p1, p2) = zRo (zNV (zHV μ 1) 0) (zHV μ 1 3 3) n → (2 * (n : Int) < zshl 1 (zHV μ 1 3 3) ∨ n = 0) → 40 - 2 * (n : Int) < k → MW X E cX11_rooms RX11 ({ frames := 6, cells := 0, slots := 0, locals := 137 }) (some .int) (fun r ν => (zHV μ 1 3 3 = 0 ∧ r = some (zI (-3)) ∧ ν = zCt μ (-3)) ∨ (zHV μ 1 3 3 ≠ 0 ∧ (∃ z, r = some (zI z) ∧ zRm (zNV (zHV μ 1) 0) (zHV μ 1 3 3) z) ∧ zXf μ ν)) 42 [zR 0, zI p1, zI p2, zI (2 * ((n : Int) + 1)), zU] [] ζ := by
      intro k
      induction k with
      | zero => intro n p1 p2 hp9 hn2 h3; omega
      | succ k ih =>
        intro n p1 p2 hp9 hn2 h3
        refine z_iload_3 dX11_rooms_42 ?_
        refine z_iconst dX11_rooms_43 (by decide) ?_
        refine z_aload_0 dX11_rooms_44 ?_
        refine z_getF 1 1 rfl f_X11_10 zl_0 rfl rfl dX11_rooms_45 ?_
        refine z_getF 6 5 rfl f_X11_103 zl_1 rfl rfl dX11_rooms_48 ?_
        refine z_getI 6 rfl f_X11_261 zl_6 rfl dX11_rooms_51 ?_
        rw [hc6]
        refine z_ishl dX11_rooms_54 ?_
        refine z_icmpge (tgt := 85) dX11_rooms_55 (by decide) (fun h_55 => ?_) (fun h_55 => ?_)
        · refine z_iload_1 dX11_rooms_85 ?_
          exact z_iret dX11_rooms_86 (Or.inr ⟨h0, ⟨_, rfl, n, by rw [← hp9], by omega, hn2⟩, hxf⟩)
        · refine z_aload_0 dX11_rooms_58 ?_
          refine z_getF 111 111 rfl f_X11_37 zl_0 rfl rfl dX11_rooms_59 ?_
          refine z_iload_3 dX11_rooms_62 ?_
          refine z_callV1 (k_X4_wakingsTogether (S := (zNV (zHV μ 1) 0)) (h := 1) zq4_111 zq2_1 h8 (by rw [hc6]; exact np) (fun i i0 i1 => by rw [hc6] at i1; exact ⟨hz i i0 i1, zNV_4 hm.1 i0 i1, zZt_v hm.1 (by decide) i0 i1 40 (by decide)⟩)) m_X4_wakingsTogether zl_111 l_X11_280 (Nat.le_of_ble_eq_true rfl) ⟨Nat.le_of_ble_eq_true rfl, Nat.le_of_ble_eq_true rfl⟩ ⟨rfl, rfl⟩ dX11_rooms_63 (fun r μ1 hp => ?_)
          obtain ⟨rfl, hv⟩ := hp
          replace hv := hv.symm
          subst hv
          rw [hc6]
          refine z_istore_4 rfl dX11_rooms_66 ?_
          refine z_iload_4 dX11_rooms_68 ?_
          refine z_iload_2 dX11_rooms_70 ?_
          refine z_icmpge (tgt := 79) dX11_rooms_71 (by decide) (fun h_71 => ?_) (fun h_71 => ?_)
          · refine z_iinc_3 rfl dX11_rooms_79 (by omega) ?_
            refine z_goto (tgt := 42) dX11_rooms_82 (by decide) ?_
            refine z_weak (ls' := [zR 0, zI p1, zI p2, zI (2 * (((n + 1 : Nat) : Int) + 1)), zU]) ⟨Or.inl rfl, Or.inl rfl, Or.inl rfl, Or.inl (congrArg zI (by omega)), Or.inr rfl, trivial⟩ (ih (n + 1) _ _ (by rw [zRo_s, ← hp9, zif_f (by omega)]) (Or.inl (by omega)) (by omega))
          · refine z_iload_3 dX11_rooms_74 ?_
            refine z_istore_1 rfl dX11_rooms_75 ?_
            refine z_iload_4 dX11_rooms_76 ?_
            refine z_istore_2 rfl dX11_rooms_78 ?_
            refine z_iinc_3 rfl dX11_rooms_79 (by omega) ?_
            refine z_goto (tgt := 42) dX11_rooms_82 (by decide) ?_
            refine z_weak (ls' := [zR 0, zI (2 * ((n : Int) + 1)), zI (zTg (zNV (zHV μ 1) 0) (zHV μ 1 3 3) (2 * ((n : Int) + 1))), zI (2 * (((n + 1 : Nat) : Int) + 1)), zU]) ⟨Or.inl rfl, Or.inl rfl, Or.inl rfl, Or.inl (congrArg zI (by omega)), Or.inr rfl, trivial⟩ (ih (n + 1) _ _ (by rw [zRo_s, ← hp9, zif_t (by omega)]) (Or.inl (by omega)) (by omega))
    refine z_iconst dX11_rooms_29 (by decide) ?_
    refine z_istore_1 rfl dX11_rooms_30 ?_
    refine z_aload_0 dX11_rooms_31 ?_
    refine z_getF 111 111 rfl f_X11_37 zl_0 rfl rfl dX11_rooms_32 ?_
    refine z_iconst dX11_rooms_35 (by decide) ?_
    refine z_callV1 (k_X4_wakingsTogether (S := (zNV (zHV μ 1) 0)) (h := 1) zq4_111 zq2_1 h8 (by rw [hc6]; exact np) (fun i i0 i1 => by rw [hc6] at i1; exact ⟨hz i i0 i1, zNV_4 hm.1 i0 i1, zZt_v hm.1 (by decide) i0 i1 40 (by decide)⟩)) m_X4_wakingsTogether zl_111 l_X11_280 (Nat.le_of_ble_eq_true rfl) ⟨Nat.le_of_ble_eq_true rfl, Nat.le_of_ble_eq_true rfl⟩ ⟨rfl, rfl⟩ dX11_rooms_36 (fun r μ1 hp => ?_)
    obtain ⟨rfl, hv⟩ := hp
    replace hv := hv.symm
    subst hv
    rw [hc6]
    refine z_istore_2 rfl dX11_rooms_39 ?_
    refine z_iconst dX11_rooms_40 (by decide) ?_
    refine z_istore_3 rfl dX11_rooms_41 ?_
    exact L 41 0 0 _ rfl (Or.inr rfl) (by decide)
  refine z_aload_0 dX11_rooms_0 ?_
  refine z_getF 1 1 rfl f_X11_10 zl_0 rfl rfl dX11_rooms_1 ?_
  refine z_getF 6 5 rfl f_X11_103 zl_1 rfl rfl dX11_rooms_4 ?_
  refine z_getI 6 rfl f_X11_261 zl_6 rfl dX11_rooms_7 ?_
  refine z_ifne (tgt := 20) dX11_rooms_10 (by decide) (fun h_10 => ?_) (fun h_10 => ?_)
  · refine z_aload_0 dX11_rooms_20 ?_
    refine z_aload_0 dX11_rooms_21 ?_
    refine z_getF 1 1 rfl f_X11_10 zl_0 rfl rfl dX11_rooms_22 ?_
    refine z_iconst dX11_rooms_25 (by decide) ?_
    refine z_callV2 (k_X11_pass zq2_1 (Or.inl (by decide)) hm.1 (by decide)) m_X11_pass zl_0 l_X11_196 (Nat.le_of_ble_eq_true rfl) ⟨Nat.le_of_ble_eq_true rfl, Nat.le_of_ble_eq_true rfl⟩ ⟨rfl, rfl⟩ dX11_rooms_26 (fun r μ1 hp => ?_)
    obtain ⟨rfl, hni, hr⟩ := hp
    have hxf : zXf μ μ1 := fun a ha => hr a (by omega)
    have np := hm.1.2.1.1
    have pc3 : zHV μ 1 3 3 = μ 6 6 := rfl
    have hc6 : μ1 6 6 = μ 6 6 := by rw [hr 6 (by decide)]
    exact J h_10 μ1 hxf (fun s s0 s1 => (hni.1 s s0 s1).1) hni.2.1
  · refine z_aload_0 dX11_rooms_13 ?_
    refine z_bipush dX11_rooms_14 (by decide) ?_
    refine z_callV1 (k_X11_counted hm.2) m_X11_counted zl_0 l_X11_86 (Nat.le_of_ble_eq_true rfl) ⟨Nat.le_of_ble_eq_true rfl, Nat.le_of_ble_eq_true rfl⟩ ⟨rfl, rfl⟩ dX11_rooms_16 (fun r μ1 hp => ?_)
    obtain ⟨rfl, hv⟩ := hp
    replace hv := hv.symm
    subst hv
    exact z_iret dX11_rooms_19 (Or.inl ⟨h_10, rfl, rfl⟩)
