/-! WAYS -/
def zmf (f : Int → Int) : Nat → Int
  | 0 => 0
  | n + 1 => max (zmf f n) (f (n : Int))
theorem zmf_s {f : Int → Int} {n : Nat} : zmf f (n + 1) = max (zmf f n) (f (n : Int)) := rfl
theorem zmf_b {f : Int → Int} {B : Int} (hB : 0 ≤ B) : ∀ {n : Nat}, (∀ i : Int, 0 ≤ i → i < n → f i ≤ B) → 0 ≤ zmf f n ∧ zmf f n ≤ B
  | 0, _ => ⟨Int.le_refl _, hB⟩
  | n + 1, h => by
    have := zmf_b hB (n := n) (fun i h0 h1 => h i h0 (by omega))
    have := h (n : Int) (by omega) (by omega)
    rw [zmf_s]; omega
/-- as each hears a step on a cell -/
noncomputable def zLf (V : zM) (c s : Int) : Int := zif (V 9 s ≠ -1) (zHc V (V 9 s) c) 0
noncomputable def zLo (V : zM) (c : Int) : Int := zmf (zLf V c) (V 3 3).toNat
def zPo (V : zM) (a m c : Int) : Prop := V 0 c ≠ 1 ∧ (c = a ∨ zLo V c ≤ m)
noncomputable def zPd (V : zM) (a b m : Int) : Int → Int := zDs (zPo V a m) b
/-- m is what the loudest cell of the least heard way is heard -/
def zWq (V : zM) (a b m : Int) : Prop := 0 ≤ m ∧ m ≤ 40 ∧ zPd V a b m a ≠ -1 ∧ ∀ k, 0 ≤ k → k < m → zPd V a b k a = -1
theorem zWq_u {V : zM} {a b m k : Int} (h : zWq V a b m) (g : zWq V a b k) : m = k := by
  by_cases q : m < k
  · exact absurd (g.2.2.2 m h.1 q) h.2.2.1
  · by_cases q2 : k < m
    · exact absurd (h.2.2.2 k g.1 q2) g.2.2.1
    · omega
def zWa9 (V : zM) (a b w z : Int) : Prop := ∃ m, zWq V a b m ∧ z = (if w = 0 then m else if w = 1 then zPd V a b m a else zNx (zPd V a b m) a)
theorem zWa9_u {V : zM} {a b w z y : Int} (h : zWa9 V a b w z) (g : zWa9 V a b w y) : z = y := by
  obtain ⟨m, hm, rfl⟩ := h
  obtain ⟨k, hk, rfl⟩ := g
  rw [zWq_u hm hk]
theorem zDM_mo {op op2 : Int → Prop} {s : Int} {F G : Int → Int} (hF : zDM op s F) (hG : zDM op2 s G) (h : ∀ c, 0 ≤ c → c < 36 → op c → op2 c) : ∀ (k : Nat) (c : Int), 0 ≤ c → c < 36 → F c = (k : Int) → G c ≠ -1 := by
  intro k
  induction k with
  | zero =>
    intro c h0 h1 e
    have e2 := hF.2.2.1 c h0 h1 (by omega)
    subst e2
    have := hG.2.1 (h _ h0 h1 (zDM_op hF h0 h1 (by omega)))
    omega
  | succ k ih =>
    intro c h0 h1 e
    obtain ⟨n, aj, en⟩ := hF.2.2.2.1 c h0 h1 (by omega)
    have hn := zAj_r h0 h1 aj
    have i1 := ih n hn.1 hn.2 (by omega)
    have := hG.2.2.2.2 c n hn.1 hn.2 (zAj_s h0 h1 aj) (h _ h0 h1 (zDM_op hF h0 h1 (by omega))) i1
    omega
theorem zLo_b {V : zM} (ok : zOK V) (hd : ∀ x, 0 ≤ x → x < 36 → zDM (zOp V) x (zWk V x)) {c : Int} (c0 : 0 ≤ c) (c1 : c < 36) : 0 ≤ zLo V c ∧ zLo V c ≤ 40 := by
  have np := ok.2.1.1
  refine zmf_b (by decide) (fun i i0 i1 => ?_)
  unfold zLf
  refine zif_i (p := fun z => z ≤ 40) (fun q => ?_) (fun _ => by decide)
  have p := (ok.2.1.2 i i0 (by omega)).2.2.2.2
  have b := zOK_bed ok (b := V 9 i) (by omega) p.2
  exact (zHc_b ok (hd _ b.1 b.2) (by omega) p.2 c0 c1).2
/-- no way at all where walls bar it; a way with no cell louder than 40 where they don't -/
theorem zWq_no {V : zM} {a b : Int} (ok : zOK V) (hd : ∀ x, 0 ≤ x → x < 36 → zDM (zOp V) x (zWk V x)) (a0 : 0 ≤ a) (a1 : a < 36) (b0 : 0 ≤ b) (b1 : b < 36) (F : Int → Int) (hF : zDM (zPo V a 40) b F) (h : zPd V a b 40 a = -1) : zWk V b a = -1 := by
  have e : zDM (zOp V) b F := zDM_cg hF (fun c c0 c1 => ⟨fun q => q.1, fun q => ⟨q, Or.inr (zLo_b ok hd c0 c1).2⟩⟩) b0 b1 (fun _ _ _ => rfl)
  rw [← zWk_eq e a0 a1, zDs_eq hF a0 a1]
  exact h
theorem zWq_yes {V : zM} {a b m : Int} (hd : zDM (zOp V) b (zWk V b)) (a0 : 0 ≤ a) (a1 : a < 36) (F : Int → Int) (hF : zDM (zPo V a m) b F) (h : zPd V a b m a ≠ -1) : zWk V b a ≠ -1 := by
  have hb := zDM_b (zDs_of hF) a0 a1
  exact zDM_mo (zDs_of hF) hd (fun c _ _ q => q.1) (zPd V a b m a).toNat a a0 a1 (by unfold zPd at *; omega)
theorem zmf_n {f : Int → Int} : ∀ {n : Nat}, 0 ≤ zmf f n
  | 0 => Int.le_refl _
  | n + 1 => by have := zmf_n (f := f) (n := n); rw [zmf_s]; omega
set_option maxRecDepth 100000 in
set_option maxHeartbeats 4000000 in
theorem k_X3_listenIn {l : Launch} {E : zE} {μ : zM} (ok : zOK (zHV μ 1)) : Ct l E yX3_listenIn cX3_listenIn 5 none ({ frames := 3, cells := 0, slots := 0, locals := 73 }) [zR 292, zR 1] μ (fun r ν => r = none ∧ (∀ c, 0 ≤ c → c < 36 → ν 342 c = zLo (zHV μ 1) c) ∧ ∀ a : Nat, (a < 292 ∨ 345 ≤ a) → ν a = μ a) := by
  refine Ct.of RX3 [zR 292, zR 1, zU, zU, zU] (by decide +kernel) rfl ⟨rfl, rfl⟩ rfl (Nat.le_of_ble_eq_true rfl) (fun X hX hc0 ha0 => ?_)
  subst hX
  obtain ⟨nb, nf, nd, npp, ns, nr⟩ := zOK_n ok
  have npp6 : 0 ≤ μ 6 6 ∧ μ 6 6 ≤ 5 := npp
  have nb6 : 0 ≤ μ 2 3 ∧ μ 2 3 ≤ 6 := nb
  refine z_aload_0 dX3_listenIn_0 ?_
  refine z_getF 293 1 rfl f_X3_12 zl_292 rfl rfl dX3_listenIn_1 ?_
  refine z_aload_1 dX3_listenIn_4 ?_
  refine z_getF 2 1 rfl f_X3_40 zl_1 rfl rfl dX3_listenIn_5 ?_
  refine z_callV1 (k_X0_measure (h := 1) zq0_293 zq2_1 (by omega) ok) m_X0_measure zl_293 l_X3_69 (Nat.le_of_ble_eq_true rfl) ⟨Nat.le_of_ble_eq_true rfl, Nat.le_of_ble_eq_true rfl⟩ ⟨rfl, rfl⟩ dX3_listenIn_8 (fun r μ1 hp => ?_)
  obtain ⟨rfl, h9, hdm, hr9⟩ := hp
  obtain ⟨ζ, hζ9⟩ : ∃ z, z = μ1 := ⟨_, rfl⟩
  subst hζ9
  have hr : ∀ a : Nat, (a < 292 ∨ 345 ≤ a) → ζ a = μ a := fun a ha => hr9 a (by omega)
  refine z_iconst dX3_listenIn_11 (by decide) ?_
  refine z_istore_2 rfl dX3_listenIn_12 ?_
  have LC : ∀ (k : Nat) (c : Nat) (ξ : zM), (c : Int) ≤ 36 → (∀ y : Int, 0 ≤ y → y < c → ξ 342 y = zLo (zHV μ 1) y) → (∀ a : Nat, a ≠ 342 → ξ a = ζ a) → 36 - (c : Int) < k → MW X E cX3_listenIn RX3 ({ frames := 3, cells := 0, slots := 0, locals := 73 }) none (fun r ν => r = none ∧ (∀ c, 0 ≤ c → c < 36 → ν 342 c = zLo (zHV μ 1) c) ∧ ∀ a : Nat, (a < 292 ∨ 345 ≤ a) → ν a = μ a) 13 [zR 292, zR 1, zI (c : Int), zU, zU] [] ξ := by
    intro k
    induction k with
    | zero => intro c ξ hc hlo hx h3; omega
    | succ k ih =>
      intro c ξ hc hlo hx h3
      have hfr : ∀ a : Nat, (a < 292 ∨ 345 ≤ a) → ξ a = μ a := fun a ha => (hx a (by omega)).trans (hr a ha)
      have hV : zHV ξ 1 = zHV μ 1 := by
        have := zHV_fr (μ := μ) (ν := ξ) (h := 1) (a := 292) (n := 53) (fun a ha => hfr a (by omega)) (by decide)
        exact this
      have hc6 : ξ 6 6 = μ 6 6 := by rw [hfr 6 (by decide)]
      refine z_iload_2 dX3_listenIn_13 ?_
      refine z_bipush dX3_listenIn_14 (by decide) ?_
      refine z_icmpge (tgt := 102) dX3_listenIn_16 (by decide) (fun h_16 => ?_) (fun h_16 => ?_)
      · exact z_vret dX3_listenIn_102 (⟨rfl, fun y y0 y1 => hlo y y0 (by omega), hfr⟩)
      · have c1 : (c : Int) < 36 := by omega
        refine z_aload_0 dX3_listenIn_19 ?_
        refine z_getF 342 50 rfl f_X3_25 zl_292 rfl rfl dX3_listenIn_20 ?_
        refine z_iload_2 dX3_listenIn_23 ?_
        refine z_iconst dX3_listenIn_24 (by decide) ?_
        refine z_iast zl_342 (by omega) (by omega) dX3_listenIn_25 ?_
        have LI : ∀ (k : Nat) (s : Nat) (ξ : zM), (s : Int) ≤ μ 6 6 → ξ 342 (c : Int) = zmf (zLf (zHV μ 1) (c : Int)) s → (∀ y : Int, 0 ≤ y → y < c → ξ 342 y = zLo (zHV μ 1) y) → (∀ a : Nat, a ≠ 342 → ξ a = ζ a) → μ 6 6 - s < k → MW X E cX3_listenIn RX3 ({ frames := 3, cells := 0, slots := 0, locals := 73 }) none (fun r ν => r = none ∧ (∀ c, 0 ≤ c → c < 36 → ν 342 c = zLo (zHV μ 1) c) ∧ ∀ a : Nat, (a < 292 ∨ 345 ≤ a) → ν a = μ a) 28 [zR 292, zR 1, zI (c : Int), zI (s : Int), zU] [] ξ := by
          intro k
          induction k with
          | zero => intro s ξ hs hcur hlo hx h4; omega
          | succ k ih2 =>
            intro s ξ hs hcur hlo hx h4
            have hfr : ∀ a : Nat, (a < 292 ∨ 345 ≤ a) → ξ a = μ a := fun a ha => (hx a (by omega)).trans (hr a ha)
            have hV : zHV ξ 1 = zHV μ 1 := by
              have := zHV_fr (μ := μ) (ν := ξ) (h := 1) (a := 292) (n := 53) (fun a ha => hfr a (by omega)) (by decide)
              exact this
            have hc6 : ξ 6 6 = μ 6 6 := by rw [hfr 6 (by decide)]
            refine z_iload_3 dX3_listenIn_28 ?_
            refine z_aload_1 dX3_listenIn_29 ?_
            refine z_getF 6 5 rfl f_X3_73 zl_1 rfl rfl dX3_listenIn_30 ?_
            refine z_getI 6 rfl f_X3_77 zl_6 rfl dX3_listenIn_33 ?_
            refine z_icmpge (tgt := 96) dX3_listenIn_36 (by decide) (fun h_36 => ?_) (fun h_36 => ?_)
            · refine z_iinc_2 rfl dX3_listenIn_96 (by omega) ?_
              refine z_goto (tgt := 13) dX3_listenIn_99 (by decide) ?_
              refine z_weak (ls' := [zR 292, zR 1, zI ((c + 1 : Nat) : Int), zU, zU]) ⟨Or.inl rfl, Or.inl rfl, Or.inl rfl, Or.inr rfl, Or.inr rfl, trivial⟩ (ih (c + 1) ξ (by omega) (fun y y0 y1 => by by_cases q : y = c; rw [q, hcur]; unfold zLo; rw [show (zHV μ 1 3 3).toNat = s by show (μ 6 6).toNat = s; omega]; exact hlo y y0 (by omega)) hx (by omega))
            · have s1 : (s : Int) < μ 6 6 := by omega
              have ps := ok.2.1.2 (s : Int) (by omega) s1
              have e9 : ξ 12 (s : Int) = zHV μ 1 9 s := by rw [hfr 12 (by decide)]; exact (zHV_9 (h := 1) (by omega) s1).symm
              have ec : ξ 4 (c : Int) = zHV μ 1 1 (c : Int) := by rw [hfr 4 (by decide)]; exact (zHV_1 (h := 1) (by omega) (by omega)).symm
              have bc3 : zHV μ 1 3 0 = μ 2 3 := rfl
              refine z_aload_1 dX3_listenIn_39 ?_
              refine z_getF 6 5 rfl f_X3_73 zl_1 rfl rfl dX3_listenIn_40 ?_
              refine z_getF 12 6 rfl f_X3_82 zl_6 rfl rfl dX3_listenIn_43 ?_
              refine z_iload_3 dX3_listenIn_46 ?_
              refine z_iald zl_12 (by omega) (by omega) dX3_listenIn_47 ?_
              rw [e9]
              refine z_istore_4 rfl dX3_listenIn_48 ?_
              refine z_iload_4 dX3_listenIn_50 ?_
              refine z_iconst dX3_listenIn_52 (by decide) ?_
              refine z_icmpeq (tgt := 90) dX3_listenIn_53 (by decide) (fun h_53 => ?_) (fun h_53 => ?_)
              · refine z_iinc_3 rfl dX3_listenIn_90 (by omega) ?_
                refine z_goto (tgt := 28) dX3_listenIn_93 (by decide) ?_
                refine z_weak (ls' := [zR 292, zR 1, zI (c : Int), zI ((s + 1 : Nat) : Int), zU]) ⟨Or.inl rfl, Or.inl rfl, Or.inl rfl, Or.inl rfl, Or.inr rfl, trivial⟩ (ih2 (s + 1) ξ (by omega) (by rw [zmf_s, show zLf (zHV μ 1) (c : Int) (s : Int) = 0 from zif_f (by omega)]; have := (zmf_n (f := zLf (zHV μ 1) (c : Int)) (n := s)); omega) hlo hx (by omega))
              · have hbl := zOK_bed ok (b := zHV μ 1 9 (s : Int)) (by omega) ps.2.2.2.2.2
                have hdl := hdm (zHV μ 1 9 (s : Int)) (by omega) ps.2.2.2.2.2
                have hw4 := zWk_eq hdl (c := (c : Int)) (by omega) (by omega)
                have hdb := zDM_b hdl (c := (c : Int)) (by omega) (by omega)
                have hfa : ξ (293 + 4 + (zHV μ 1 9 (s : Int)).toNat) = ζ (293 + 4 + (zHV μ 1 9 (s : Int)).toNat) := hx _ (by omega)
                have hck := (ok.1.1 (c : Int) (by omega) (by omega)).2
                refine z_aload_0 dX3_listenIn_56 ?_
                refine z_getF 342 50 rfl f_X3_25 zl_292 rfl rfl dX3_listenIn_57 ?_
                refine z_iload_2 dX3_listenIn_60 ?_
                refine z_aload_0 dX3_listenIn_61 ?_
                refine z_getF 342 50 rfl f_X3_25 zl_292 rfl rfl dX3_listenIn_62 ?_
                refine z_iload_2 dX3_listenIn_65 ?_
                refine z_iald zl_342 (by omega) (by omega) dX3_listenIn_66 ?_
                refine z_aload_0 dX3_listenIn_67 ?_
                refine z_getF 293 1 rfl f_X3_12 zl_292 rfl rfl dX3_listenIn_68 ?_
                refine z_iload_4 dX3_listenIn_71 ?_
                refine z_iload_2 dX3_listenIn_73 ?_
                refine z_aload_1 dX3_listenIn_74 ?_
                refine z_getF 2 1 rfl f_X3_40 zl_1 rfl rfl dX3_listenIn_75 ?_
                refine z_getF 4 2 rfl f_X3_85 zl_2 rfl rfl dX3_listenIn_78 ?_
                refine z_iload_2 dX3_listenIn_81 ?_
                refine z_iald zl_4 (by omega) (by omega) dX3_listenIn_82 ?_
                rw [ec]
                refine z_callV3 (k_X0_at (h := 1) zq0_293 zq2_1 (by omega) (by rw [hV]; exact ok) (by rw [hx 293 (by decide)]; exact h9) (by omega) (by omega) (by omega) (by omega) ⟨by omega, by omega⟩ (by rw [hfa]; omega)) m_X0_at zl_293 l_X3_88 (Nat.le_of_ble_eq_true rfl) ⟨Nat.le_of_ble_eq_true rfl, Nat.le_of_ble_eq_true rfl⟩ ⟨rfl, rfl⟩ dX3_listenIn_83 (fun r μ1 hp => ?_)
                obtain ⟨rfl, hv⟩ := hp
                replace hv := hv.symm
                subst hv
                rw [hfa, hw4, show ξ 2 4 = zHV μ 1 3 1 by rw [hfr 2 (by decide)]; rfl, show zFd (zHV μ 1 1 (c : Int)) (zWk (zHV μ 1) (zHV μ 1 2 (zHV μ 1 9 (s : Int))) (c : Int)) (zHV μ 1 3 1) = zHc (zHV μ 1) (zHV μ 1 9 (s : Int)) (c : Int) from rfl]
                refine z_max l_X3_92 ⟨Nat.le_of_ble_eq_true rfl, Nat.le_of_ble_eq_true rfl⟩ dX3_listenIn_86 ?_
                refine z_iast zl_342 (by omega) (by omega) dX3_listenIn_89 ?_
                refine z_iinc_3 rfl dX3_listenIn_90 (by omega) ?_
                refine z_goto (tgt := 28) dX3_listenIn_93 (by decide) ?_
                refine z_weak (ls' := [zR 292, zR 1, zI (c : Int), zI ((s + 1 : Nat) : Int), zU]) ⟨Or.inl rfl, Or.inl rfl, Or.inl rfl, Or.inl rfl, Or.inr rfl, trivial⟩ (ih2 (s + 1) _ (by omega) (by rw [zup_eq, zmf_s, hcur, show zLf (zHV μ 1) (c : Int) (s : Int) = zHc (zHV μ 1) (zHV μ 1 9 (s : Int)) (c : Int) from zif_t (by omega)]) (fun y y0 y1 => by rw [zup_ne (Or.inr (by omega))]; exact hlo y y0 y1) (fun a ha => by rw [zup_row ha]; exact hx a ha) (by omega))
        refine z_iconst dX3_listenIn_26 (by decide) ?_
        refine z_istore_3 rfl dX3_listenIn_27 ?_
        exact LI 9 0 _ (by omega) (by rw [zup_eq]; rfl) (fun y y0 y1 => by rw [zup_ne (Or.inr (by omega))]; exact hlo y y0 y1) (fun a ha => by rw [zup_row ha]; exact hx a ha) (by omega)
  exact LC 37 0 ζ (by decide) (fun y y0 y1 => by omega) (fun _ _ => rfl) (by decide)
def zFq (V : zM) (a b : Int) (ν : zM) : Prop := ∃ m, zWq V a b m ∧ ν 292 0 = m ∧ ν 292 1 = zPd V a b m a ∧ ν 292 2 = zNx (zPd V a b m) a
set_option maxRecDepth 100000 in
set_option maxHeartbeats 4000000 in
theorem k_X3_find {l : Launch} {E : zE} {μ : zM} {a b : Int} (ok : zOK (zHV μ 1)) (hd9 : ∀ x, 0 ≤ x → x < 36 → zDM (zOp (zHV μ 1)) x (zWk (zHV μ 1) x)) (a0 : 0 ≤ a) (a1 : a < 36) (b0 : 0 ≤ b) (b1 : b < 36) : Ct l E yX3_find cX3_find 6 (some .boolean) ({ frames := 4, cells := 0, slots := 0, locals := 97 }) [zR 292, zR 1, zI a, zI b] μ (fun r ν => (r = some (zI (zb (zFq (zHV μ 1) a b ν))) ∧ (zFq (zHV μ 1) a b ν → zWk (zHV μ 1) b a ≠ -1) ∧ (¬ zFq (zHV μ 1) a b ν → zWk (zHV μ 1) b a = -1)) ∧ ∀ x : Nat, (x < 292 ∨ 345 ≤ x) → ν x = μ x) := by
  refine Ct.of RX3 [zR 292, zR 1, zI a, zI b, zU, zU] (by decide +kernel) rfl ⟨rfl, rfl⟩ rfl (Nat.le_of_ble_eq_true rfl) (fun X hX hc0 ha0 => ?_)
  subst hX
  have LM : ∀ (k : Nat) (m : Nat) (ξ : zM), (m : Int) ≤ 41 → (∀ k : Int, 0 ≤ k → k < m → zPd (zHV μ 1) a b k a = -1) → (0 < m → ∃ F, zDM (zPo (zHV μ 1) a ((m : Int) - 1)) b F ∧ (m : Int) ≤ 41) → (∀ y : Int, 0 ≤ y → y < 36 → ξ 342 y = zLo (zHV μ 1) y) → (∀ x : Nat, (x < 292 ∨ 345 ≤ x) → ξ x = μ x) → 41 - (m : Int) < k → MW X E cX3_find RX3 ({ frames := 4, cells := 0, slots := 0, locals := 97 }) (some .boolean) (fun r ν => (r = some (zI (zb (zFq (zHV μ 1) a b ν))) ∧ (zFq (zHV μ 1) a b ν → zWk (zHV μ 1) b a ≠ -1) ∧ (¬ zFq (zHV μ 1) a b ν → zWk (zHV μ 1) b a = -1)) ∧ ∀ x : Nat, (x < 292 ∨ 345 ≤ x) → ν x = μ x) 8 [zR 292, zR 1, zI a, zI b, zI (m : Int), zU] [] ξ := by
    intro k
    induction k with
    | zero => intro m ξ hm1 hno hex hlo hr h3; omega
    | succ k ih =>
      intro m ξ hm1 hno hex hlo hr h3
      refine z_iload_4 dX3_find_8 ?_
      refine z_bipush dX3_find_10 (by decide) ?_
      refine z_icmpgt (tgt := 136) dX3_find_12 (by decide) (fun h_12 => ?_) (fun h_12 => ?_)
      · refine z_iconst dX3_find_136 (by decide) ?_
        obtain rfl : m = 41 := by omega
        obtain ⟨F, hF, -⟩ := hex (by decide)
        have hnq : ¬ zFq (zHV μ 1) a b ξ := fun ⟨k, hk, _⟩ => hk.2.2.1 (hno k hk.1 (by have := hk.2.1; omega))
        refine z_zret (Or.inl rfl) dX3_find_137 ⟨⟨by rw [zb_f hnq], fun q => absurd q hnq, fun _ => zWq_no ok hd9 a0 a1 b0 b1 F hF (hno 40 (by decide) (by decide))⟩, hr⟩
      · have J74 : ∀ (ξ : zM) (cc : zAV), (∀ y : Int, 0 ≤ y → y < 36 → (ξ 343 y = 0 ↔ zPo (zHV μ 1) a (m : Int) y)) → (∀ y : Int, 0 ≤ y → y < 36 → ξ 342 y = zLo (zHV μ 1) y) → (∀ x : Nat, (x < 292 ∨ 345 ≤ x) → ξ x = μ x) → MW X E cX3_find RX3 ({ frames := 4, cells := 0, slots := 0, locals := 97 }) (some .boolean) (fun r ν => (r = some (zI (zb (zFq (zHV μ 1) a b ν))) ∧ (zFq (zHV μ 1) a b ν → zWk (zHV μ 1) b a ≠ -1) ∧ (¬ zFq (zHV μ 1) a b ν → zWk (zHV μ 1) b a = -1)) ∧ ∀ x : Nat, (x < 292 ∨ 345 ≤ x) → ν x = μ x) 74 [zR 292, zR 1, zI a, zI b, zI (m : Int), cc] [] ξ := by
          intro ξ cc hcl hlo hr
          refine z_aload_0 dX3_find_74 ?_
          refine z_getF 340 48 rfl f_X3_21 zl_292 rfl rfl dX3_find_75 ?_
          refine z_aload_0 dX3_find_78 ?_
          refine z_getF 343 51 rfl f_X3_29 zl_292 rfl rfl dX3_find_79 ?_
          refine z_iload_3 dX3_find_82 ?_
          refine z_aload_0 dX3_find_83 ?_
          refine z_getF 344 52 rfl f_X3_33 zl_292 rfl rfl dX3_find_84 ?_
          refine z_callV3 (k_X6_spread (w := 343) (f := 344) zq6_340 zl_343 zl_344 (by decide) ⟨b0, b1⟩) m_X6_spread zl_340 l_X3_51 (Nat.le_of_ble_eq_true rfl) ⟨Nat.le_of_ble_eq_true rfl, Nat.le_of_ble_eq_true rfl⟩ ⟨rfl, rfl⟩ dX3_find_87 (fun r μ1 hp => ?_)
          obtain ⟨rfl, hdm, hr2⟩ := hp
          obtain ⟨ζ, hζ9⟩ : ∃ z, z = μ1 := ⟨_, rfl⟩
          subst hζ9
          have hdp : zDM (zPo (zHV μ 1) a (m : Int)) b (ζ 344) := zDM_cg hdm hcl b0 b1 (fun _ _ _ => rfl)
          have hea : ∀ y, 0 ≤ y → y < 36 → ζ 344 y = zPd (zHV μ 1) a b (m : Int) y := fun y y0 y1 => zDs_eq hdp y0 y1
          have hr3 : ∀ x : Nat, (x < 292 ∨ 345 ≤ x) → ζ x = μ x := fun x hx => (hr2 x (by omega) (by omega)).trans (hr x hx)
          refine z_aload_0 dX3_find_90 ?_
          refine z_getF 344 52 rfl f_X3_33 zl_292 rfl rfl dX3_find_91 ?_
          refine z_iload_2 dX3_find_94 ?_
          refine z_iald zl_344 (by omega) (by omega) dX3_find_95 ?_
          rw [hea a a0 a1]
          refine z_iconst dX3_find_96 (by decide) ?_
          refine z_icmpeq (tgt := 130) dX3_find_97 (by decide) (fun h_97 => ?_) (fun h_97 => ?_)
          · refine z_iinc_4 rfl dX3_find_130 (by omega) ?_
            refine z_goto (tgt := 8) dX3_find_133 (by decide) ?_
            refine z_weak (ls' := [zR 292, zR 1, zI a, zI b, zI ((m + 1 : Nat) : Int), zU]) ⟨Or.inl rfl, Or.inl rfl, Or.inl rfl, Or.inl rfl, Or.inl rfl, Or.inr rfl, trivial⟩ (ih (m + 1) ζ (by omega) (fun k k0 k1 => by by_cases q : k = m; rw [q]; exact h_97; exact hno k k0 (by omega)) (fun _ => ⟨_, by rw [show (((m + 1 : Nat) : Int) - 1) = (m : Int) by omega]; exact hdp, by omega⟩) (fun y y0 y1 => by rw [hr2 342 (by decide) (by decide)]; exact hlo y y0 y1) hr3 (by omega))
          · refine z_aload_0 dX3_find_100 ?_
            refine z_iload_4 dX3_find_101 ?_
            refine z_putI 0 rfl f_X3_55 p_3_0 zl_292 rfl rfl dX3_find_103 ?_
            refine z_aload_0 dX3_find_106 ?_
            refine z_aload_0 dX3_find_107 ?_
            refine z_getF 344 52 rfl f_X3_33 zl_292 rfl rfl dX3_find_108 ?_
            refine z_iload_2 dX3_find_111 ?_
            refine z_iald zl_344 (by omega) (by omega) dX3_find_112 ?_
            rw [zup_row (by decide), hea a a0 a1]
            refine z_putI 1 rfl f_X3_59 p_3_1 zl_292 rfl rfl dX3_find_113 ?_
            refine z_aload_0 dX3_find_116 ?_
            refine z_iload_2 dX3_find_117 ?_
            refine z_aload_0 dX3_find_118 ?_
            refine z_getF 344 52 rfl f_X3_33 zl_292 rfl rfl dX3_find_119 ?_
            refine z_callS2 (k_X6_onward zl_344 ⟨a0, a1⟩) m_X6_onward l_X3_62 (Nat.le_of_ble_eq_true rfl) ⟨Nat.le_of_ble_eq_true rfl, Nat.le_of_ble_eq_true rfl⟩ ⟨rfl, rfl⟩ dX3_find_122 (fun r μ1 hp => ?_)
            obtain ⟨rfl, hv⟩ := hp
            replace hv := hv.symm
            subst hv
            rw [show zup (zup ζ 292 0 (m : Int)) 292 1 (zPd (zHV μ 1) a b (m : Int) a) 344 = ζ 344 by rw [zup_row (by decide), zup_row (by decide)], zNx_cg hea a0 a1]
            refine z_putI 2 rfl f_X3_66 p_3_2 zl_292 rfl rfl dX3_find_125 ?_
            refine z_iconst dX3_find_128 (by decide) ?_
            have hfq : zFq (zHV μ 1) a b (zup (zup (zup ζ 292 0 (m : Int)) 292 1 (zPd (zHV μ 1) a b (m : Int) a)) 292 2 (zNx (zPd (zHV μ 1) a b (m : Int)) a)) := ⟨m, ⟨by omega, by omega, h_97, hno⟩, by (repeat (first | rw [zup_eq] | rw [zup_row (by omega)] | rw [zup_ne (Or.inr (by omega))])), by (repeat (first | rw [zup_eq] | rw [zup_row (by omega)] | rw [zup_ne (Or.inr (by omega))])), by (repeat (first | rw [zup_eq] | rw [zup_row (by omega)] | rw [zup_ne (Or.inr (by omega))]))⟩
            refine z_zret (Or.inr rfl) dX3_find_129 ⟨⟨by rw [zb_t hfq], fun _ => zWq_yes (hd9 b b0 b1) a0 a1 _ hdp h_97, fun q => absurd hfq q⟩, fun x hx => by rw [zup_row (by omega), zup_row (by omega), zup_row (by omega)]; exact hr3 x hx⟩
        have LC : ∀ (k : Nat) (c : Nat) (ξ : zM), (c : Int) ≤ 36 → (∀ y : Int, 0 ≤ y → y < c → (ξ 343 y = 0 ↔ zPo (zHV μ 1) a (m : Int) y)) → (∀ y : Int, 0 ≤ y → y < 36 → ξ 342 y = zLo (zHV μ 1) y) → (∀ x : Nat, (x < 292 ∨ 345 ≤ x) → ξ x = μ x) → 36 - (c : Int) < k → MW X E cX3_find RX3 ({ frames := 4, cells := 0, slots := 0, locals := 97 }) (some .boolean) (fun r ν => (r = some (zI (zb (zFq (zHV μ 1) a b ν))) ∧ (zFq (zHV μ 1) a b ν → zWk (zHV μ 1) b a ≠ -1) ∧ (¬ zFq (zHV μ 1) a b ν → zWk (zHV μ 1) b a = -1)) ∧ ∀ x : Nat, (x < 292 ∨ 345 ≤ x) → ν x = μ x) 18 [zR 292, zR 1, zI a, zI b, zI (m : Int), zI (c : Int)] [] ξ := by
          intro k
          induction k with
          | zero => intro c ξ hc hcl hlo hr h4; omega
          | succ k ih2 =>
            intro c ξ hc hcl hlo hr h4
            refine z_iload_5 dX3_find_18 ?_
            refine z_bipush dX3_find_20 (by decide) ?_
            refine z_icmpge (tgt := 74) dX3_find_22 (by decide) (fun h_22 => ?_) (fun h_22 => ?_)
            · exact J74 ξ _ (by obtain rfl : c = 36 := (by omega); exact hcl) hlo hr
            · have c1 : (c : Int) < 36 := by omega
              have e0 : ξ 3 (c : Int) = zHV μ 1 0 (c : Int) := by rw [hr 3 (by decide)]; exact (zHV_0 (h := 1) (by omega) c1).symm
              have o01 := (ok.1.1 (c : Int) (by omega) c1).1
              refine z_aload_0 dX3_find_25 ?_
              refine z_getF 343 51 rfl f_X3_29 zl_292 rfl rfl dX3_find_26 ?_
              refine z_iload_5 dX3_find_29 ?_
              refine z_aload_1 dX3_find_31 ?_
              refine z_getF 2 1 rfl f_X3_40 zl_1 rfl rfl dX3_find_32 ?_
              refine z_getF 3 1 rfl f_X3_46 zl_2 rfl rfl dX3_find_35 ?_
              refine z_iload_5 dX3_find_38 ?_
              refine z_zald zl_3 (by omega) (by omega) dX3_find_40 ?_
              rw [e0]
              refine z_ifne (tgt := 62) dX3_find_41 (by decide) (fun h_41 => ?_) (fun h_41 => ?_)
              · refine z_iconst dX3_find_62 (by decide) ?_
                refine z_goto (tgt := 67) dX3_find_63 (by decide) ?_
                refine z_zast (by decide) zl_343 (by omega) (by omega) dX3_find_67 ?_
                refine z_iinc_5 rfl dX3_find_68 (by omega) ?_
                refine z_goto (tgt := 18) dX3_find_71 (by decide) ?_
                exact ih2 (c + 1) _ (by omega) (fun y y0 y1 => by by_cases q : y = c; rw [q, zup_eq]; exact ⟨fun e => absurd e (by decide), fun e => absurd e.1 (by omega)⟩; rw [zup_ne (Or.inr q)]; exact hcl y y0 (by omega)) (by rw [zup_row (by decide)]; exact hlo) (fun x hx => by rw [zup_row (by omega)]; exact hr x hx) (by omega)
              · refine z_iload_5 dX3_find_44 ?_
                refine z_iload_2 dX3_find_46 ?_
                refine z_icmpeq (tgt := 66) dX3_find_47 (by decide) (fun h_47 => ?_) (fun h_47 => ?_)
                · refine z_iconst dX3_find_66 (by decide) ?_
                  refine z_zast (by decide) zl_343 (by omega) (by omega) dX3_find_67 ?_
                  refine z_iinc_5 rfl dX3_find_68 (by omega) ?_
                  refine z_goto (tgt := 18) dX3_find_71 (by decide) ?_
                  exact ih2 (c + 1) _ (by omega) (fun y y0 y1 => by by_cases q : y = c; rw [q, zup_eq]; exact ⟨fun _ => ⟨by omega, Or.inl h_47⟩, fun _ => rfl⟩; rw [zup_ne (Or.inr q)]; exact hcl y y0 (by omega)) (by rw [zup_row (by decide)]; exact hlo) (fun x hx => by rw [zup_row (by omega)]; exact hr x hx) (by omega)
                · refine z_aload_0 dX3_find_50 ?_
                  refine z_getF 342 50 rfl f_X3_25 zl_292 rfl rfl dX3_find_51 ?_
                  refine z_iload_5 dX3_find_54 ?_
                  refine z_iald zl_342 (by omega) (by omega) dX3_find_56 ?_
                  rw [hlo (c : Int) (by omega) c1]
                  refine z_iload_4 dX3_find_57 ?_
                  refine z_icmple (tgt := 66) dX3_find_59 (by decide) (fun h_59 => ?_) (fun h_59 => ?_)
                  · refine z_iconst dX3_find_66 (by decide) ?_
                    refine z_zast (by decide) zl_343 (by omega) (by omega) dX3_find_67 ?_
                    refine z_iinc_5 rfl dX3_find_68 (by omega) ?_
                    refine z_goto (tgt := 18) dX3_find_71 (by decide) ?_
                    exact ih2 (c + 1) _ (by omega) (fun y y0 y1 => by by_cases q : y = c; rw [q, zup_eq]; exact ⟨fun _ => ⟨by omega, Or.inr h_59⟩, fun _ => rfl⟩; rw [zup_ne (Or.inr q)]; exact hcl y y0 (by omega)) (by rw [zup_row (by decide)]; exact hlo) (fun x hx => by rw [zup_row (by omega)]; exact hr x hx) (by omega)
                  · refine z_iconst dX3_find_62 (by decide) ?_
                    refine z_goto (tgt := 67) dX3_find_63 (by decide) ?_
                    refine z_zast (by decide) zl_343 (by omega) (by omega) dX3_find_67 ?_
                    refine z_iinc_5 rfl dX3_find_68 (by omega) ?_
                    refine z_goto (tgt := 18) dX3_find_71 (by decide) ?_
                    exact ih2 (c + 1) _ (by omega) (fun y y0 y1 => by by_cases q : y = c; rw [q, zup_eq]; exact ⟨fun e => absurd e (by decide), fun e => absurd e.2 (by omega)⟩; rw [zup_ne (Or.inr q)]; exact hcl y y0 (by omega)) (by rw [zup_row (by decide)]; exact hlo) (fun x hx => by rw [zup_row (by omega)]; exact hr x hx) (by omega)
        refine z_iconst dX3_find_15 (by decide) ?_
        refine z_istore_5 rfl dX3_find_16 ?_
        exact LC 37 0 ξ (by decide) (fun y y0 y1 => by omega) hlo hr (by decide)
  refine z_aload_0 dX3_find_0 ?_
  refine z_aload_1 dX3_find_1 ?_
  refine z_callV1 (k_X3_listenIn ok) m_X3_listenIn zl_292 l_X3_36 (Nat.le_of_ble_eq_true rfl) ⟨Nat.le_of_ble_eq_true rfl, Nat.le_of_ble_eq_true rfl⟩ ⟨rfl, rfl⟩ dX3_find_2 (fun r μ1 hp => ?_)
  obtain ⟨rfl, hlo0, hr0⟩ := hp
  obtain ⟨ζ0, hζ9⟩ : ∃ z, z = μ1 := ⟨_, rfl⟩
  subst hζ9
  refine z_iconst dX3_find_5 (by decide) ?_
  refine z_istore_4 rfl dX3_find_6 ?_
  exact LM 42 0 ζ0 (by decide) (fun k k0 k1 => by omega) (fun q => absurd q (by decide)) hlo0 hr0 (by decide)
