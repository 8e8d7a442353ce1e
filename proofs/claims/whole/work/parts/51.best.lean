theorem zpo_p {b : Int} {n : Nat} (h : 0 < zpo b n) (hb : 0 ≤ b) (hn : 0 < n) : 0 < b := by
  by_cases q : b = 0
  · subst q
    obtain ⟨m, rfl⟩ : ∃ m, n = m + 1 := ⟨n - 1, by omega⟩
    rw [zpo_s, Int.mul_zero] at h
    omega
  · omega
def zTB (V : zM) (rules c : Int) : Prop := zUn (zrw c (V 3 0) (V 3 3)) (V 3 3) ∧ (rules ≠ 0 → zAl V (zrw c (V 3 0) (V 3 3)))
noncomputable def zWB (V : zM) (c : Int) : Int := zWR (zVk 9 V (zrw c (V 3 0) (V 3 3))) 0
noncomputable def zGB (V : zM) (c : Int) : Int := zGR (zVk 9 V (zrw c (V 3 0) (V 3 3))) 0
noncomputable def zPB (V : zM) (rules : Int) : Int × Int × Int × Int := zSe (zTB V rules) (zWB V) (zGB V) (zpo (V 3 0) (V 3 3).toNat).toNat
def zTG (V : zM) (c : Int) : Prop := zUn (zrw c (V 3 3) (V 3 3)) (V 3 3) ∧ ∀ k, 0 ≤ k → k < V 3 3 → V 6 (zrw c (V 3 3) (V 3 3) k) < V 7 k
noncomputable def zWG (V : zM) (c : Int) : Int := zWR (zVk 6 V (fun k => V 6 (zrw c (V 3 3) (V 3 3) k))) 0
noncomputable def zGG (V : zM) (c : Int) : Int := zGR (zVk 6 V (fun k => V 6 (zrw c (V 3 3) (V 3 3) k))) 0
noncomputable def zPG (V : zM) : Int × Int × Int × Int := zSe (zTG V) (zWG V) (zGG V) (zpo (V 3 3) (V 3 3).toNat).toNat
theorem zSe_ex {T : Int → Prop} {W G : Int → Int} {c : Nat} (h : T (c : Int)) : ∀ {n : Nat}, c < n → (zSe T W G n).1 = 1
  | 0, hn => by omega
  | n + 1, hn => by
    rw [zSe_s]
    by_cases q : T (n : Int) ∧ ((zSe T W G n).1 = 0 ∨ (zSe T W G n).2.1 < W n ∨ (W n = (zSe T W G n).2.1 ∧ (zSe T W G n).2.2.1 < G n))
    · rw [zif_t q]
    · rw [zif_f q]
      by_cases e : c = n
      · subst e
        rcases (zSe_01 (T := T) (W := W) (G := G) (n := c)).1 with z | z
        · exact absurd ⟨h, Or.inl z⟩ q
        · exact z
      · exact zSe_ex h (by omega)
theorem zid_r : ∀ n : Nat, 0 < n → n < 6 → ∃ c : Nat, (c : Int) < zpo (n : Int) n ∧ ∀ k : Nat, k < n → zrw (c : Int) (n : Int) (n : Int) (k : Int) = (k : Int) := by
  intro n h0 h6
  rcases (by omega : n = 1 ∨ n = 2 ∨ n = 3 ∨ n = 4 ∨ n = 5) with rfl | rfl | rfl | rfl | rfl
  · exact ⟨0, by decide, by decide⟩
  · exact ⟨1, by decide, by decide⟩
  · exact ⟨5, by decide, by decide⟩
  · exact ⟨27, by decide, by decide⟩
  · exact ⟨194, by decide, by decide⟩
/-- somebody's order there always is: as it stands -/
theorem zPG_1 {V : zM} (ok : zOK V) (h0 : V 3 3 ≠ 0) : (zPG V).1 = 1 := by
  have np := ok.2.1.1
  obtain ⟨c, c1, c2⟩ := zid_r (V 3 3).toNat (by omega) (by omega)
  have e : (((V 3 3).toNat : Nat) : Int) = V 3 3 := by omega
  rw [e] at c1 c2
  have hk : ∀ k : Int, 0 ≤ k → k < V 3 3 → zrw (c : Int) (V 3 3) (V 3 3) k = k := fun k k0 k1 => by
    have := c2 k.toNat (by omega)
    rw [show ((k.toNat : Nat) : Int) = k by omega] at this
    exact this
  refine zSe_ex (c := c) ⟨fun i j j0 ji i1 => ?_, fun k k0 k1 => ?_⟩ (by omega)
  · rw [hk i (by omega) i1, hk j j0 (by omega)]; omega
  · rw [hk k k0 k1]; exact (ok.2.1.2 k k0 k1).2.2.1.2.1
/-- the house of the search's trial: as V but in one kind -/
def zTl (k0 : Nat) (V X : zM) : Prop := (∀ k, k ≠ k0 → X k = V k) ∧ ∀ i, ¬ (0 ≤ i ∧ i < V 3 3) → X k0 i = V k0 i
theorem zTl_k {k0 : Nat} {V X : zM} {g : Int → Int} (h : zTl k0 V X) (h3 : k0 ≠ 3) : zVk k0 X g = zVk k0 V g := zVk_2 h.1 h3 h.2
theorem zTl_v {k0 : Nat} {V X : zM} {g : Int → Int} (h : zTl k0 V X) (h3 : k0 ≠ 3) : zTl k0 V (zVk k0 X g) := by
  rw [zTl_k h h3]
  exact ⟨fun k q => zVk_ne q, fun i q => zVk_out q⟩
set_option maxRecDepth 100000 in
set_option maxHeartbeats 4000000 in
theorem k_X8_findBeds {l : Launch} {E : zE} {μ : zM} {rules : Int} (hm : zOK (zHV μ 1)) : Ct l E yX8_findBeds cX8_findBeds 6 (some .boolean) ({ frames := 6, cells := 0, slots := 0, locals := 136 }) [zR 189, zR 1, zI rules] μ (fun r ν => r = some (zI (zb ((zPB (zHV μ 1) rules).1 = 1))) ∧ ((zPB (zHV μ 1) rules).1 = 1 → ν 189 1 = (zPB (zHV μ 1) rules).2.1 ∧ ∀ k, 0 ≤ k → k < (zHV μ 1 3 3) → ν 190 k = zrw (zPB (zHV μ 1) rules).2.2.2 (zHV μ 1 3 0) (zHV μ 1 3 3) k) ∧ ∀ a : Nat, (a < 189 ∨ 292 ≤ a) → ν a = μ a) := by
  refine Ct.of RX8 [zR 189, zR 1, zI rules, zU, zU, zU] (by decide +kernel) rfl ⟨rfl, rfl⟩ rfl (Nat.le_of_ble_eq_true rfl) (fun X hX hc0 ha0 => ?_)
  subst hX
  have np := hm.2.1.1
  have nb := hm.1.2.1
  have tb := zpo_b (b := (zHV μ 1 3 0)) (n := (zHV μ 1 3 3).toNat) nb.1 nb.2 (by omega)
  have LB : ∀ (k : Nat) (i : Nat) (ξ : zM), (i : Int) ≤ (zpo (zHV μ 1 3 0) (zHV μ 1 3 3).toNat) → ξ 189 3 = (zSe (zTB (zHV μ 1) rules) (zWB (zHV μ 1)) (zGB (zHV μ 1)) i).1 → ξ 189 1 = (zSe (zTB (zHV μ 1) rules) (zWB (zHV μ 1)) (zGB (zHV μ 1)) i).2.1 → ξ 189 2 = (zSe (zTB (zHV μ 1) rules) (zWB (zHV μ 1)) (zGB (zHV μ 1)) i).2.2.1 → ((zSe (zTB (zHV μ 1) rules) (zWB (zHV μ 1)) (zGB (zHV μ 1)) i).1 = 1 → ∀ k, 0 ≤ k → k < (zHV μ 1 3 3) → ξ 190 k = zrw (zSe (zTB (zHV μ 1) rules) (zWB (zHV μ 1)) (zGB (zHV μ 1)) i).2.2.2 (zHV μ 1 3 0) (zHV μ 1 3 3) k) → zTl 9 (zHV μ 1) (zHV ξ 192) → zEr (zHV μ 1) 0 ξ 229 → (∀ a : Nat, (a < 189 ∨ 292 ≤ a) → ξ a = μ a) → (zpo (zHV μ 1 3 0) (zHV μ 1 3 3).toNat) - (i : Int) < k → MW X E cX8_findBeds RX8 ({ frames := 6, cells := 0, slots := 0, locals := 136 }) (some .boolean) (fun r ν => r = some (zI (zb ((zPB (zHV μ 1) rules).1 = 1))) ∧ ((zPB (zHV μ 1) rules).1 = 1 → ν 189 1 = (zPB (zHV μ 1) rules).2.1 ∧ ∀ k, 0 ≤ k → k < (zHV μ 1 3 3) → ν 190 k = zrw (zPB (zHV μ 1) rules).2.2.2 (zHV μ 1 3 0) (zHV μ 1 3 3) k) ∧ ∀ a : Nat, (a < 189 ∨ 292 ≤ a) → ν a = μ a) 29 [zR 189, zR 1, zI rules, zI (zHV μ 1 3 3), zI (zpo (zHV μ 1 3 0) (zHV μ 1 3 3).toNat), zI (i : Int)] [] ξ := by
    intro k
    induction k with
    | zero => intro i ξ hi h3_ h1_ h2_ hb_ htl hE hr h9; omega
    | succ k ih =>
      intro i ξ hi h3_ h1_ h2_ hb_ htl hE hr h9
      refine z_iload_5 dX8_findBeds_29 ?_
      refine z_iload_4 dX8_findBeds_31 ?_
      refine z_icmpge (tgt := 117) dX8_findBeds_33 (by decide) (fun h_33 => ?_) (fun h_33 => ?_)
      · refine z_aload_0 dX8_findBeds_117 ?_
        refine z_getI 3 rfl f_X8_92 zl_189 rfl dX8_findBeds_118 ?_
        have hN : (zPB (zHV μ 1) rules) = zSe (zTB (zHV μ 1) rules) (zWB (zHV μ 1)) (zGB (zHV μ 1)) i := by unfold zPB; rw [show (zpo (zHV μ 1 3 0) (zHV μ 1 3 3).toNat).toNat = i by omega]
        exact z_zret (by rcases (zSe_01 (T := (zTB (zHV μ 1) rules)) (W := (zWB (zHV μ 1))) (G := (zGB (zHV μ 1))) (n := i)).1 with q | q <;> omega) dX8_findBeds_121 ⟨by
          refine congrArg (fun z => (some (zI z) : Option zAV)) ?_
          rw [h3_, hN]
          rcases (zSe_01 (T := (zTB (zHV μ 1) rules)) (W := (zWB (zHV μ 1))) (G := (zGB (zHV μ 1))) (n := i)).1 with q | q
          · rw [q, zb_f (by decide)]
          · rw [q, zb_t rfl], fun q => ⟨by rw [h1_, hN], by rw [hN] at q ⊢; exact hb_ q⟩, hr⟩
      · have e3 : ξ 2 3 = (zHV μ 1 3 0) := by rw [hr 2 (by decide)]; rfl
        refine z_aload_0 dX8_findBeds_36 ?_
        refine z_iload_5 dX8_findBeds_37 ?_
        refine z_aload_1 dX8_findBeds_39 ?_
        refine z_getF 2 1 rfl f_X8_46 zl_1 rfl rfl dX8_findBeds_40 ?_
        refine z_getI 3 rfl f_X8_50 zl_2 rfl dX8_findBeds_43 ?_
        rw [e3]
        refine z_iload_3 dX8_findBeds_46 ?_
        refine z_callV3 (k_X8_fillRow (by omega) (by omega) (by omega) (by omega)) m_X8_fillRow zl_189 l_X8_59 (Nat.le_of_ble_eq_true rfl) ⟨Nat.le_of_ble_eq_true rfl, Nat.le_of_ble_eq_true rfl⟩ ⟨rfl, rfl⟩ dX8_findBeds_47 (fun r μ1 hp => ?_)
        obtain ⟨rfl, hrow, hk_⟩ := hp
        obtain ⟨ζ1, hζ9⟩ : ∃ z, z = μ1 := ⟨_, rfl⟩
        subst hζ9
        have hr_ζ1 : ∀ a : Nat, (a < 189 ∨ 292 ≤ a) → ζ1 a = μ a := fun a ha => (hk_ a (by omega)).trans (hr a ha)
        have hbp : 0 < (zHV μ 1 3 3) → 0 < (zHV μ 1 3 0) := fun q => zpo_p (n := (zHV μ 1 3 3).toNat) (by omega) (by omega) (by omega)
        have hrw : ∀ k, 0 ≤ k → k < (zHV μ 1 3 3) → ζ1 191 k = zrw (i : Int) (zHV μ 1 3 0) (zHV μ 1 3 3) k := fun k k0 k1 => hrow (hbp (by omega)) k k0 k1
        have hrb : ∀ k, 0 ≤ k → k < (zHV μ 1 3 3) → 0 ≤ ζ1 191 k ∧ ζ1 191 k < (zHV μ 1 3 0) := fun k k0 k1 => by rw [hrw k k0 k1]; exact zrw_b (hbp (by omega))
        have hV_ζ1 : zHV ζ1 1 = zHV μ 1 := zHV_fr (a := 189) (n := 103) (fun a ha => hr_ζ1 a (by omega)) (by decide)
        have htl1 : zTl 9 (zHV μ 1) (zHV ζ1 192) := by rw [show zHV ζ1 192 = zHV ξ 192 from zHV_fr (a := 191) (n := 1) (fun a ha => hk_ a (by omega)) (by decide)]; exact htl
        have J76 : zTB (zHV μ 1) rules (i : Int) → MW X E cX8_findBeds RX8 ({ frames := 6, cells := 0, slots := 0, locals := 136 }) (some .boolean) (fun r ν => r = some (zI (zb ((zPB (zHV μ 1) rules).1 = 1))) ∧ ((zPB (zHV μ 1) rules).1 = 1 → ν 189 1 = (zPB (zHV μ 1) rules).2.1 ∧ ∀ k, 0 ≤ k → k < (zHV μ 1 3 3) → ν 190 k = zrw (zPB (zHV μ 1) rules).2.2.2 (zHV μ 1 3 0) (zHV μ 1 3 3) k) ∧ ∀ a : Nat, (a < 189 ∨ 292 ≤ a) → ν a = μ a) 76 [zR 189, zR 1, zI rules, zI (zHV μ 1 3 3), zI (zpo (zHV μ 1 3 0) (zHV μ 1 3 3).toNat), zI (i : Int)] [] ζ1 := by
          intro hT
          refine z_aload_0 dX8_findBeds_76 ?_
          refine z_getF 191 2 rfl f_X8_15 zl_189 rfl rfl dX8_findBeds_77 ?_
          refine z_iconst dX8_findBeds_80 (by decide) ?_
          refine z_aload_0 dX8_findBeds_81 ?_
          refine z_getF 192 3 rfl f_X8_21 zl_189 rfl rfl dX8_findBeds_82 ?_
          refine z_getF 197 5 rfl f_X8_36 zl_192 rfl rfl dX8_findBeds_85 ?_
          refine z_getF 203 6 rfl f_X8_77 zl_197 rfl rfl dX8_findBeds_88 ?_
          refine z_iconst dX8_findBeds_91 (by decide) ?_
          refine z_iload_3 dX8_findBeds_92 ?_
          refine z_copy (Or.inl ⟨zl_191, zl_203⟩) np.1 np.2 np.2 l_X8_80 ⟨Nat.le_of_ble_eq_true rfl, Nat.le_of_ble_eq_true rfl⟩ dX8_findBeds_93 ?_
          generalize hζ2 : zcp ζ1 191 203 (zHV μ 1 3 3) = ζ2
          replace hζ2 := hζ2.symm
          have hk2 : ∀ a, a ≠ 203 → ζ2 a = ζ1 a := fun a ha => by rw [hζ2]; exact zcp_row ha
          have c197a : ζ1 197 6 = zHV μ 1 3 3 := by have e := congrFun (htl1.1 3 (by decide)) 3; exact e
          have hV2 : zHV ζ2 192 = zVk 9 (zHV μ 1) (zrw (i : Int) (zHV μ 1 3 0) (zHV μ 1 3 3)) := by
            rw [← zTl_k htl1 (by decide)]
            exact zHV_k9 (h := 192) hk2 (fun x x0 x1 => by
              have x1 : x < (zHV μ 1 3 3) := by rw [← c197a]; exact x1
              rw [hζ2, zcp_self]
              show (if 0 ≤ x ∧ x < (zHV μ 1 3 3) then ζ1 191 x else _) = _
              rw [if_pos ⟨x0, x1⟩]
              exact hrw x x0 x1)
          have hokk : zOK (zVk 9 (zHV μ 1) (zrw (i : Int) (zHV μ 1 3 0) (zHV μ 1 3 3))) := zVk_9ok hm (fun x x0 x1 => by have := zrw_b (c := (i : Int)) (n := (zHV μ 1 3 3)) (k := x) (hbp (by omega)); omega)
          have htl2 : zTl 9 (zHV μ 1) (zHV ζ2 192) := by rw [hV2]; exact ⟨fun k q => zVk_ne q, fun x q => zVk_out q⟩
          have hok2 : zOK (zHV ζ2 192) := by rw [hV2]; exact hokk
          have hE2 : zEr (zHV ζ2 192) 0 ζ2 229 := by rw [hV2]; exact zEr_k (fun k q9 q6 => zVk_ne q9) (zEr_fr hE hm (fun a a0 a1 => (hk2 a (by omega)).trans (hk_ a (by omega))))
          refine z_aload_0 dX8_findBeds_96 ?_
          refine z_getF 214 25 rfl f_X8_28 zl_189 rfl rfl dX8_findBeds_97 ?_
          refine z_aload_0 dX8_findBeds_100 ?_
          refine z_getF 192 3 rfl f_X8_21 zl_189 rfl rfl dX8_findBeds_101 ?_
          refine z_callV1 (k_X4_pass (fan := 0) zq4_214 zq2_192 (Or.inl (by decide)) hok2 (by decide) hE2) m_X4_pass zl_214 l_X8_86 (Nat.le_of_ble_eq_true rfl) ⟨Nat.le_of_ble_eq_true rfl, Nat.le_of_ble_eq_true rfl⟩ ⟨rfl, rfl⟩ dX8_findBeds_104 (fun r μ1 hp => ?_)
          obtain ⟨rfl, hni, hf⟩ := hp
          obtain ⟨ζ3, hζ9⟩ : ∃ z, z = μ1 := ⟨_, rfl⟩
          subst hζ9
          rw [hV2] at hni
          have c197 : ζ3 197 6 = zHV μ 1 3 3 := by
            rw [hf 197 (by decide)]
            have e := congrFun (congrFun hV2 3) 3
            rw [zVk_ne (by decide)] at e
            exact e
          refine z_aload_0 dX8_findBeds_107 ?_
          refine z_callV0 (k_X8_keepIfBetter hni.2.1 (by rw [c197]; exact hm.2.1.1) (fun s s0 s1 => by rw [c197] at s1; rw [(hni.1 s s0 (by rw [zVk_ne (by decide)]; exact s1)).1.2.1]; exact zNV_3 hokk s0 (by rw [zVk_ne (by decide)]; exact s1))) m_X8_keepIfBetter zl_189 l_X8_89 (Nat.le_of_ble_eq_true rfl) ⟨Nat.le_of_ble_eq_true rfl, Nat.le_of_ble_eq_true rfl⟩ ⟨rfl, rfl⟩ dX8_findBeds_108 (fun r μ1 hp => ?_)
          obtain ⟨rfl, hkb⟩ := hp
          obtain ⟨ζ4, hζ9⟩ : ∃ z, z = μ1 := ⟨_, rfl⟩
          subst hζ9
          have hW : zWo (ζ3 197 6) (ζ3 215) = zWB (zHV μ 1) (i : Int) := by
            unfold zWB zWR
            rw [c197, zVk_ne (by decide)]
            exact zWo_c (fun s s0 s1 => (hni.1 s s0 (by rw [zVk_ne (by decide)]; exact s1)).1.2.1)
          have hG : zGo (ζ3 197 6) (ζ3 215) = zGB (zHV μ 1) (i : Int) := by
            unfold zGB zGR
            rw [c197, zVk_ne (by decide)]
            exact zGo_c (fun s s0 s1 => (hni.1 s s0 (by rw [zVk_ne (by decide)]; exact s1)).1.2.1)
          rw [hW, hG] at hkb
          have f9 : ζ3 189 = ξ 189 := by rw [hf 189 (by decide), hk2 189 (by decide), hk_ 189 (by decide)]
          have f190 : ζ3 190 = ξ 190 := by rw [hf 190 (by decide), hk2 190 (by decide), hk_ 190 (by decide)]
          have f191 : ζ3 191 = ζ1 191 := by rw [hf 191 (by decide), hk2 191 (by decide)]
          have e92 : zHV ζ3 192 = zHV ζ2 192 := zHV_fr (a := 214) (n := 78) (fun a ha => hf a (by omega)) (by decide)
          have e3E : ∀ a, 233 ≤ a → a < 272 → ζ3 a = ξ a := fun a a0 a1 => by rw [hf a (by omega), hk2 a (by omega), hk_ a (by omega)]
          have e3r : ∀ a : Nat, (a < 189 ∨ 292 ≤ a) → ζ3 a = μ a := fun a ha => by rw [hf a (by omega), hk2 a (by omega)]; exact hr_ζ1 a ha
          rw [f9, h3_, h1_, h2_] at hkb
          refine z_iinc_5 rfl dX8_findBeds_111 (by omega) ?_
          refine z_goto (tgt := 29) dX8_findBeds_114 (by decide) ?_
          rcases hkb with ⟨hco, w3, w1, w2, wb, wf⟩ | ⟨hco, hev⟩
          · refine z_weak (ls' := [zR 189, zR 1, zI rules, zI (zHV μ 1 3 3), zI (zpo (zHV μ 1 3 0) (zHV μ 1 3 3).toNat), zI ((i + 1 : Nat) : Int)]) ⟨Or.inl rfl, Or.inl rfl, Or.inl rfl, Or.inl rfl, Or.inl rfl, Or.inl rfl, trivial⟩ (ih (i + 1) ζ4 (by omega) (by rw [zSe_s, zif_t ⟨hT, hco⟩]; exact w3) (by rw [zSe_s, zif_t ⟨hT, hco⟩]; exact w1) (by rw [zSe_s, zif_t ⟨hT, hco⟩]; exact w2) (by rw [zSe_s, zif_t ⟨hT, hco⟩]; exact fun _ k k0 k1 => by rw [wb k k0 (by omega), f191]; exact hrw k k0 k1) (by rw [show zHV ζ4 192 = zHV ζ3 192 from zHV_fr (a := 189) (n := 2) (fun a ha => wf a (by omega) (by omega)) (by decide), e92]; exact htl2) (zEr_fr hE hm (fun a a0 a1 => (wf a (by omega) (by omega)).trans (e3E a a0 a1))) (fun a ha => (wf a (by omega) (by omega)).trans (e3r a ha)) (by omega))
          · have hev := hev.symm
            subst hev
            refine z_weak (ls' := [zR 189, zR 1, zI rules, zI (zHV μ 1 3 3), zI (zpo (zHV μ 1 3 0) (zHV μ 1 3 3).toNat), zI ((i + 1 : Nat) : Int)]) ⟨Or.inl rfl, Or.inl rfl, Or.inl rfl, Or.inl rfl, Or.inl rfl, Or.inl rfl, trivial⟩ (ih (i + 1) ζ3 (by omega) (by rw [zSe_s, zif_f (fun q => hco q.2), f9]; exact h3_) (by rw [zSe_s, zif_f (fun q => hco q.2), f9]; exact h1_) (by rw [zSe_s, zif_f (fun q => hco q.2), f9]; exact h2_) (by rw [zSe_s, zif_f (fun q => hco q.2), f190]; exact hb_) (by rw [e92]; exact htl2) (zEr_fr hE hm e3E) e3r (by omega))
        refine z_aload_0 dX8_findBeds_50 ?_
        refine z_iload_3 dX8_findBeds_51 ?_
        refine z_callV1 (k_X8_isUnlike (by omega) (by omega) (fun k k0 k1 => by have := hrb k k0 k1; omega)) m_X8_isUnlike zl_189 l_X8_63 (Nat.le_of_ble_eq_true rfl) ⟨Nat.le_of_ble_eq_true rfl, Nat.le_of_ble_eq_true rfl⟩ ⟨rfl, rfl⟩ dX8_findBeds_52 (fun r μ1 hp => ?_)
        obtain ⟨rfl, hv⟩ := hp
        replace hv := hv.symm
        subst hv
        refine z_ifeq (tgt := 111) dX8_findBeds_55 (by decide) (fun h_55 => ?_) (fun h_55 => ?_)
        · replace h_55 := zb_0.mp h_55
          refine z_iinc_5 rfl dX8_findBeds_111 (by omega) ?_
          refine z_goto (tgt := 29) dX8_findBeds_114 (by decide) ?_
          refine z_weak (ls' := [zR 189, zR 1, zI rules, zI (zHV μ 1 3 3), zI (zpo (zHV μ 1 3 0) (zHV μ 1 3 3).toNat), zI ((i + 1 : Nat) : Int)]) ⟨Or.inl rfl, Or.inl rfl, Or.inl rfl, Or.inl rfl, Or.inl rfl, Or.inl rfl, trivial⟩ (ih (i + 1) ζ1 (by omega) (by rw [zSe_s, zif_f (fun q => h_55 ((zUn_c (fun x x0 x1 => hrw x x0 x1)).mpr q.1.1)), hk_ 189 (by decide)]; exact h3_) (by rw [zSe_s, zif_f (fun q => h_55 ((zUn_c (fun x x0 x1 => hrw x x0 x1)).mpr q.1.1)), hk_ 189 (by decide)]; exact h1_) (by rw [zSe_s, zif_f (fun q => h_55 ((zUn_c (fun x x0 x1 => hrw x x0 x1)).mpr q.1.1)), hk_ 189 (by decide)]; exact h2_) (by rw [zSe_s, zif_f (fun q => h_55 ((zUn_c (fun x x0 x1 => hrw x x0 x1)).mpr q.1.1)), hk_ 190 (by decide)]; exact hb_) htl1 (zEr_fr hE hm (fun a a0 a1 => hk_ a (by omega))) hr_ζ1 (by omega))
        · replace h_55 := zb_n.mp h_55
          refine z_iload_2 dX8_findBeds_58 ?_
          refine z_ifeq (tgt := 76) dX8_findBeds_59 (by decide) (fun h_59 => ?_) (fun h_59 => ?_)
          · exact J76 ⟨(zUn_c (fun x x0 x1 => hrw x x0 x1)).mp h_55, fun q => absurd h_59 q⟩
          · refine z_aload_1 dX8_findBeds_62 ?_
            refine z_getF 19 18 rfl f_X8_67 zl_1 rfl rfl dX8_findBeds_63 ?_
            refine z_aload_0 dX8_findBeds_66 ?_
            refine z_getF 191 2 rfl f_X8_15 zl_189 rfl rfl dX8_findBeds_67 ?_
            refine z_callV1 (k_X7_allow (h := 1) zq2_1 (by rw [hV_ζ1]; exact hm) zl_191) m_X7_allow zl_19 l_X8_71 (Nat.le_of_ble_eq_true rfl) ⟨Nat.le_of_ble_eq_true rfl, Nat.le_of_ble_eq_true rfl⟩ ⟨rfl, rfl⟩ dX8_findBeds_70 (fun r μ1 hp => ?_)
            obtain ⟨rfl, hv⟩ := hp
            replace hv := hv.symm
            subst hv
            have hv9 : zAl (zHV ζ1 1) (ζ1 191) ↔ zAl (zHV μ 1) (zrw (i : Int) (zHV μ 1 3 0) (zHV μ 1 3 3)) := by rw [hV_ζ1]; exact zRu_c hm (fun x x0 x1 => hrw x x0 x1)
            refine z_ifeq (tgt := 111) dX8_findBeds_73 (by decide) (fun h_73 => ?_) (fun h_73 => ?_)
            · replace h_73 := zb_0.mp h_73
              refine z_iinc_5 rfl dX8_findBeds_111 (by omega) ?_
              refine z_goto (tgt := 29) dX8_findBeds_114 (by decide) ?_
              refine z_weak (ls' := [zR 189, zR 1, zI rules, zI (zHV μ 1 3 3), zI (zpo (zHV μ 1 3 0) (zHV μ 1 3 3).toNat), zI ((i + 1 : Nat) : Int)]) ⟨Or.inl rfl, Or.inl rfl, Or.inl rfl, Or.inl rfl, Or.inl rfl, Or.inl rfl, trivial⟩ (ih (i + 1) ζ1 (by omega) (by rw [zSe_s, zif_f (fun q => h_73 (hv9.mpr (q.1.2 h_59))), hk_ 189 (by decide)]; exact h3_) (by rw [zSe_s, zif_f (fun q => h_73 (hv9.mpr (q.1.2 h_59))), hk_ 189 (by decide)]; exact h1_) (by rw [zSe_s, zif_f (fun q => h_73 (hv9.mpr (q.1.2 h_59))), hk_ 189 (by decide)]; exact h2_) (by rw [zSe_s, zif_f (fun q => h_73 (hv9.mpr (q.1.2 h_59))), hk_ 190 (by decide)]; exact hb_) htl1 (zEr_fr hE hm (fun a a0 a1 => hk_ a (by omega))) hr_ζ1 (by omega))
            · replace h_73 := zb_n.mp h_73
              exact J76 ⟨(zUn_c (fun x x0 x1 => hrw x x0 x1)).mp h_55, fun _ => hv9.mp h_73⟩
  refine z_aload_0 dX8_findBeds_0 ?_
  refine z_aload_1 dX8_findBeds_1 ?_
  refine z_callV1 (k_X8_start hm) m_X8_start zl_189 l_X8_32 (Nat.le_of_ble_eq_true rfl) ⟨Nat.le_of_ble_eq_true rfl, Nat.le_of_ble_eq_true rfl⟩ ⟨rfl, rfl⟩ dX8_findBeds_2 (fun r μ1 hp => ?_)
  obtain ⟨rfl, s3, s1, s2, sV, sE, sr⟩ := hp
  obtain ⟨ζ0, hζ9⟩ : ∃ z, z = μ1 := ⟨_, rfl⟩
  subst hζ9
  have c6 : ζ0 6 6 = (zHV μ 1 3 3) := by rw [sr 6 (by decide)]; rfl
  have c3 : ζ0 2 3 = (zHV μ 1 3 0) := by rw [sr 2 (by decide)]; rfl
  refine z_aload_1 dX8_findBeds_5 ?_
  refine z_getF 6 5 rfl f_X8_36 zl_1 rfl rfl dX8_findBeds_6 ?_
  refine z_getI 6 rfl f_X8_40 zl_6 rfl dX8_findBeds_9 ?_
  rw [c6]
  refine z_istore_3 rfl dX8_findBeds_12 ?_
  refine z_aload_1 dX8_findBeds_13 ?_
  refine z_getF 2 1 rfl f_X8_46 zl_1 rfl rfl dX8_findBeds_14 ?_
  refine z_getI 3 rfl f_X8_50 zl_2 rfl dX8_findBeds_17 ?_
  rw [c3]
  refine z_iload_3 dX8_findBeds_20 ?_
  refine z_callS2 (k_X8_power (by omega) (by omega) (by omega) (by omega)) m_X8_power l_X8_55 (Nat.le_of_ble_eq_true rfl) ⟨Nat.le_of_ble_eq_true rfl, Nat.le_of_ble_eq_true rfl⟩ ⟨rfl, rfl⟩ dX8_findBeds_21 (fun r μ1 hp => ?_)
  obtain ⟨rfl, hv⟩ := hp
  replace hv := hv.symm
  subst hv
  refine z_istore_4 rfl dX8_findBeds_24 ?_
  refine z_iconst dX8_findBeds_26 (by decide) ?_
  refine z_istore_5 rfl dX8_findBeds_27 ?_
  exact LB 8000 0 ζ0 (by omega) s3 s1 s2 (fun q => absurd q (by show ¬ ((0 : Int) = 1); decide)) (by rw [sV]; exact ⟨fun _ _ => rfl, fun _ _ => rfl⟩) sE sr (by omega)
set_option maxRecDepth 100000 in
set_option maxHeartbeats 4000000 in
theorem k_X8_findGoes {l : Launch} {E : zE} {μ : zM} (hm : zOK (zHV μ 1)) : Ct l E yX8_findGoes cX8_findGoes 5 (some .boolean) ({ frames := 6, cells := 0, slots := 0, locals := 136 }) [zR 189, zR 1] μ (fun r ν => r = some (zI (zb ((zPG (zHV μ 1)).1 = 1))) ∧ ((zPG (zHV μ 1)).1 = 1 → ν 189 1 = (zPG (zHV μ 1)).2.1 ∧ ∀ k, 0 ≤ k → k < (zHV μ 1 3 3) → ν 190 k = zrw (zPG (zHV μ 1)).2.2.2 (zHV μ 1 3 3) (zHV μ 1 3 3) k) ∧ ∀ a : Nat, (a < 189 ∨ 292 ≤ a) → ν a = μ a) := by
  refine Ct.of RX8 [zR 189, zR 1, zU, zU, zU] (by decide +kernel) rfl ⟨rfl, rfl⟩ rfl (Nat.le_of_ble_eq_true rfl) (fun X hX hc0 ha0 => ?_)
  subst hX
  have np := hm.2.1.1
  have nb := hm.1.2.1
  have tb := zpo_b (b := (zHV μ 1 3 3)) (n := (zHV μ 1 3 3).toNat) np.1 (by omega) (by omega)
  have LB : ∀ (k : Nat) (i : Nat) (ξ : zM), (i : Int) ≤ (zpo (zHV μ 1 3 3) (zHV μ 1 3 3).toNat) → ξ 189 3 = (zSe (zTG (zHV μ 1)) (zWG (zHV μ 1)) (zGG (zHV μ 1)) i).1 → ξ 189 1 = (zSe (zTG (zHV μ 1)) (zWG (zHV μ 1)) (zGG (zHV μ 1)) i).2.1 → ξ 189 2 = (zSe (zTG (zHV μ 1)) (zWG (zHV μ 1)) (zGG (zHV μ 1)) i).2.2.1 → ((zSe (zTG (zHV μ 1)) (zWG (zHV μ 1)) (zGG (zHV μ 1)) i).1 = 1 → ∀ k, 0 ≤ k → k < (zHV μ 1 3 3) → ξ 190 k = zrw (zSe (zTG (zHV μ 1)) (zWG (zHV μ 1)) (zGG (zHV μ 1)) i).2.2.2 (zHV μ 1 3 3) (zHV μ 1 3 3) k) → zTl 6 (zHV μ 1) (zHV ξ 192) → zEr (zHV μ 1) 0 ξ 229 → (∀ a : Nat, (a < 189 ∨ 292 ≤ a) → ξ a = μ a) → (zpo (zHV μ 1 3 3) (zHV μ 1 3 3).toNat) - (i : Int) < k → MW X E cX8_findGoes RX8 ({ frames := 6, cells := 0, slots := 0, locals := 136 }) (some .boolean) (fun r ν => r = some (zI (zb ((zPG (zHV μ 1)).1 = 1))) ∧ ((zPG (zHV μ 1)).1 = 1 → ν 189 1 = (zPG (zHV μ 1)).2.1 ∧ ∀ k, 0 ≤ k → k < (zHV μ 1 3 3) → ν 190 k = zrw (zPG (zHV μ 1)).2.2.2 (zHV μ 1 3 3) (zHV μ 1 3 3) k) ∧ ∀ a : Nat, (a < 189 ∨ 292 ≤ a) → ν a = μ a) 22 [zR 189, zR 1, zI (zHV μ 1 3 3), zI (zpo (zHV μ 1 3 3) (zHV μ 1 3 3).toNat), zI (i : Int)] [] ξ := by
    intro k
    induction k with
    | zero => intro i ξ hi h3_ h1_ h2_ hb_ htl hE hr h9; omega
    | succ k ih =>
      intro i ξ hi h3_ h1_ h2_ hb_ htl hE hr h9
      refine z_iload_4 dX8_findGoes_22 ?_
      refine z_iload_3 dX8_findGoes_24 ?_
      refine z_icmpge (tgt := 76) dX8_findGoes_25 (by decide) (fun h_25 => ?_) (fun h_25 => ?_)
      · refine z_aload_0 dX8_findGoes_76 ?_
        refine z_getI 3 rfl f_X8_92 zl_189 rfl dX8_findGoes_77 ?_
        have hN : (zPG (zHV μ 1)) = zSe (zTG (zHV μ 1)) (zWG (zHV μ 1)) (zGG (zHV μ 1)) i := by unfold zPG; rw [show (zpo (zHV μ 1 3 3) (zHV μ 1 3 3).toNat).toNat = i by omega]
        exact z_zret (by rcases (zSe_01 (T := (zTG (zHV μ 1))) (W := (zWG (zHV μ 1))) (G := (zGG (zHV μ 1))) (n := i)).1 with q | q <;> omega) dX8_findGoes_80 ⟨by
          refine congrArg (fun z => (some (zI z) : Option zAV)) ?_
          rw [h3_, hN]
          rcases (zSe_01 (T := (zTG (zHV μ 1))) (W := (zWG (zHV μ 1))) (G := (zGG (zHV μ 1))) (n := i)).1 with q | q
          · rw [q, zb_f (by decide)]
          · rw [q, zb_t rfl], fun q => ⟨by rw [h1_, hN], by rw [hN] at q ⊢; exact hb_ q⟩, hr⟩
      · refine z_aload_0 dX8_findGoes_28 ?_
        refine z_iload_4 dX8_findGoes_29 ?_
        refine z_iload_2 dX8_findGoes_31 ?_
        refine z_iload_2 dX8_findGoes_32 ?_
        refine z_callV3 (k_X8_fillRow (by omega) (by omega) (by omega) (by omega)) m_X8_fillRow zl_189 l_X8_59 (Nat.le_of_ble_eq_true rfl) ⟨Nat.le_of_ble_eq_true rfl, Nat.le_of_ble_eq_true rfl⟩ ⟨rfl, rfl⟩ dX8_findGoes_33 (fun r μ1 hp => ?_)
        obtain ⟨rfl, hrow, hk_⟩ := hp
        obtain ⟨ζ1, hζ9⟩ : ∃ z, z = μ1 := ⟨_, rfl⟩
        subst hζ9
        have hr_ζ1 : ∀ a : Nat, (a < 189 ∨ 292 ≤ a) → ζ1 a = μ a := fun a ha => (hk_ a (by omega)).trans (hr a ha)
        have hbp : 0 < (zHV μ 1 3 3) → 0 < (zHV μ 1 3 3) := fun q => zpo_p (n := (zHV μ 1 3 3).toNat) (by omega) (by omega) (by omega)
        have hrw : ∀ k, 0 ≤ k → k < (zHV μ 1 3 3) → ζ1 191 k = zrw (i : Int) (zHV μ 1 3 3) (zHV μ 1 3 3) k := fun k k0 k1 => hrow (hbp (by omega)) k k0 k1
        have hrb : ∀ k, 0 ≤ k → k < (zHV μ 1 3 3) → 0 ≤ ζ1 191 k ∧ ζ1 191 k < (zHV μ 1 3 3) := fun k k0 k1 => by rw [hrw k k0 k1]; exact zrw_b (hbp (by omega))
        have hV_ζ1 : zHV ζ1 1 = zHV μ 1 := zHV_fr (a := 189) (n := 103) (fun a ha => hr_ζ1 a (by omega)) (by decide)
        have htl1 : zTl 6 (zHV μ 1) (zHV ζ1 192) := by rw [show zHV ζ1 192 = zHV ξ 192 from zHV_fr (a := 191) (n := 1) (fun a ha => hk_ a (by omega)) (by decide)]; exact htl
        have c66 : ζ1 6 6 = (zHV μ 1 3 3) := by rw [hr_ζ1 6 (by decide)]; rfl
        refine z_aload_0 dX8_findGoes_36 ?_
        refine z_iload_2 dX8_findGoes_37 ?_
        refine z_callV1 (k_X8_isUnlike (by omega) (by omega) (fun k k0 k1 => by have := hrb k k0 k1; omega)) m_X8_isUnlike zl_189 l_X8_63 (Nat.le_of_ble_eq_true rfl) ⟨Nat.le_of_ble_eq_true rfl, Nat.le_of_ble_eq_true rfl⟩ ⟨rfl, rfl⟩ dX8_findGoes_38 (fun r μ1 hp => ?_)
        obtain ⟨rfl, hv⟩ := hp
        replace hv := hv.symm
        subst hv
        refine z_ifeq (tgt := 70) dX8_findGoes_41 (by decide) (fun h_41 => ?_) (fun h_41 => ?_)
        · replace h_41 := zb_0.mp h_41
          refine z_iinc_4 rfl dX8_findGoes_70 (by omega) ?_
          refine z_goto (tgt := 22) dX8_findGoes_73 (by decide) ?_
          refine z_weak (ls' := [zR 189, zR 1, zI (zHV μ 1 3 3), zI (zpo (zHV μ 1 3 3) (zHV μ 1 3 3).toNat), zI ((i + 1 : Nat) : Int)]) ⟨Or.inl rfl, Or.inl rfl, Or.inl rfl, Or.inl rfl, Or.inl rfl, trivial⟩ (ih (i + 1) ζ1 (by omega) (by rw [zSe_s, zif_f (fun q => h_41 ((zUn_c (fun x x0 x1 => hrw x x0 x1)).mpr q.1.1)), hk_ 189 (by decide)]; exact h3_) (by rw [zSe_s, zif_f (fun q => h_41 ((zUn_c (fun x x0 x1 => hrw x x0 x1)).mpr q.1.1)), hk_ 189 (by decide)]; exact h1_) (by rw [zSe_s, zif_f (fun q => h_41 ((zUn_c (fun x x0 x1 => hrw x x0 x1)).mpr q.1.1)), hk_ 189 (by decide)]; exact h2_) (by rw [zSe_s, zif_f (fun q => h_41 ((zUn_c (fun x x0 x1 => hrw x x0 x1)).mpr q.1.1)), hk_ 190 (by decide)]; exact hb_) htl1 (zEr_fr hE hm (fun a a0 a1 => hk_ a (by omega))) hr_ζ1 (by omega))
        · replace h_41 := zb_n.mp h_41
          refine z_aload_0 dX8_findGoes_44 ?_
          refine z_aload_1 dX8_findGoes_45 ?_
          refine z_getF 6 5 rfl f_X8_36 zl_1 rfl rfl dX8_findGoes_46 ?_
          refine z_callV1 (k_X8_exchange (by rw [c66]; exact np) (fun k k0 k1 => by rw [c66] at k1; rw [c66]; exact hrb k k0 k1)) m_X8_exchange zl_189 l_X8_96 (Nat.le_of_ble_eq_true rfl) ⟨Nat.le_of_ble_eq_true rfl, Nat.le_of_ble_eq_true rfl⟩ ⟨rfl, rfl⟩ dX8_findGoes_49 (fun r μ1 hp => ?_)
          obtain ⟨rfl, hgo, hk2⟩ := hp
          obtain ⟨ζ2, hζ9⟩ : ∃ z, z = μ1 := ⟨_, rfl⟩
          subst hζ9
          rw [hV_ζ1, c66] at hgo
          have hQ : (∀ k, 0 ≤ k → k < (zHV μ 1 3 3) → zHV μ 1 6 (ζ1 191 k) < zHV μ 1 7 k) ↔ (∀ k, 0 ≤ k → k < (zHV μ 1 3 3) → zHV μ 1 6 ((zrw (i : Int) (zHV μ 1 3 3) (zHV μ 1 3 3)) k) < zHV μ 1 7 k) := ⟨fun q k k0 k1 => by rw [← hrw k k0 k1]; exact q k k0 k1, fun q k k0 k1 => by rw [hrw k k0 k1]; exact q k k0 k1⟩
          rw [hV_ζ1, c66]
          refine z_ifeq (tgt := 70) dX8_findGoes_52 (by decide) (fun h_52 => ?_) (fun h_52 => ?_)
          · replace h_52 := zb_0.mp h_52
            refine z_iinc_4 rfl dX8_findGoes_70 (by omega) ?_
            refine z_goto (tgt := 22) dX8_findGoes_73 (by decide) ?_
            refine z_weak (ls' := [zR 189, zR 1, zI (zHV μ 1 3 3), zI (zpo (zHV μ 1 3 3) (zHV μ 1 3 3).toNat), zI ((i + 1 : Nat) : Int)]) ⟨Or.inl rfl, Or.inl rfl, Or.inl rfl, Or.inl rfl, Or.inl rfl, trivial⟩ (ih (i + 1) ζ2 (by omega) (by rw [zSe_s, zif_f (fun q => h_52 (hQ.mpr q.1.2)), hk2 189 (by decide), hk_ 189 (by decide)]; exact h3_) (by rw [zSe_s, zif_f (fun q => h_52 (hQ.mpr q.1.2)), hk2 189 (by decide), hk_ 189 (by decide)]; exact h1_) (by rw [zSe_s, zif_f (fun q => h_52 (hQ.mpr q.1.2)), hk2 189 (by decide), hk_ 189 (by decide)]; exact h2_) (by rw [zSe_s, zif_f (fun q => h_52 (hQ.mpr q.1.2)), hk2 190 (by decide), hk_ 190 (by decide)]; exact hb_) (by rw [show zHV ζ2 192 = zVk 6 (zHV ζ1 192) (fun x => ζ2 200 x) from zHV_k6 (h := 192) hk2 (fun _ _ _ => rfl)]; exact zTl_v htl1 (by decide)) (zEr_fr hE hm (fun a a0 a1 => (hk2 a (by omega)).trans (hk_ a (by omega)))) (fun a ha => (hk2 a (by omega)).trans (hr_ζ1 a ha)) (by omega))
          · replace h_52 := zb_n.mp h_52
            have h_52b := hQ.mp h_52
            have c197a : ζ1 197 6 = zHV μ 1 3 3 := by have e := congrFun (htl1.1 3 (by decide)) 3; exact e
            have hV2 : zHV ζ2 192 = zVk 6 (zHV μ 1) (fun k => zHV μ 1 6 (zrw (i : Int) (zHV μ 1 3 3) (zHV μ 1 3 3) k)) := by
              rw [← zTl_k htl1 (by decide)]
              exact zHV_k6 (h := 192) hk2 (fun x x0 x1 => by
                have x1 : x < (zHV μ 1 3 3) := by rw [← c197a]; exact x1
                rw [hgo h_52 x x0 x1, hrw x x0 x1])
            have hgr : ∀ x, 0 ≤ x → x < (zHV μ 1 3 3) → 0 ≤ (zrw (i : Int) (zHV μ 1 3 3) (zHV μ 1 3 3)) x ∧ (zrw (i : Int) (zHV μ 1 3 3) (zHV μ 1 3 3)) x < (zHV μ 1 3 3) := fun x x0 x1 => zrw_b (hbp (by omega))
            have hokk : zOK (zVk 6 (zHV μ 1) (fun k => zHV μ 1 6 (zrw (i : Int) (zHV μ 1 3 3) (zHV μ 1 3 3) k))) := zVk_6ok hm (fun x x0 x1 => ⟨(hm.2.1.2 _ (hgr x x0 x1).1 (hgr x x0 x1).2).2.2.1.1, h_52b x x0 x1⟩)
            have htl2 : zTl 6 (zHV μ 1) (zHV ζ2 192) := by rw [hV2]; exact ⟨fun k q => zVk_ne q, fun x q => zVk_out q⟩
            have hT : zTG (zHV μ 1) (i : Int) := ⟨(zUn_c (fun x x0 x1 => hrw x x0 x1)).mp h_41, h_52b⟩
            have hok2 : zOK (zHV ζ2 192) := by rw [hV2]; exact hokk
            have hE2 : zEr (zHV ζ2 192) 0 ζ2 229 := by rw [hV2]; exact zEr_k (fun k q9 q6 => zVk_ne q6) (zEr_fr hE hm (fun a a0 a1 => (hk2 a (by omega)).trans (hk_ a (by omega))))
            refine z_aload_0 dX8_findGoes_55 ?_
            refine z_getF 214 25 rfl f_X8_28 zl_189 rfl rfl dX8_findGoes_56 ?_
            refine z_aload_0 dX8_findGoes_59 ?_
            refine z_getF 192 3 rfl f_X8_21 zl_189 rfl rfl dX8_findGoes_60 ?_
            refine z_callV1 (k_X4_pass (fan := 0) zq4_214 zq2_192 (Or.inl (by decide)) hok2 (by decide) hE2) m_X4_pass zl_214 l_X8_86 (Nat.le_of_ble_eq_true rfl) ⟨Nat.le_of_ble_eq_true rfl, Nat.le_of_ble_eq_true rfl⟩ ⟨rfl, rfl⟩ dX8_findGoes_63 (fun r μ1 hp => ?_)
            obtain ⟨rfl, hni, hf⟩ := hp
            obtain ⟨ζ3, hζ9⟩ : ∃ z, z = μ1 := ⟨_, rfl⟩
            subst hζ9
            rw [hV2] at hni
            have c197 : ζ3 197 6 = zHV μ 1 3 3 := by
              rw [hf 197 (by decide)]
              have e := congrFun (congrFun hV2 3) 3
              rw [zVk_ne (by decide)] at e
              exact e
            refine z_aload_0 dX8_findGoes_66 ?_
            refine z_callV0 (k_X8_keepIfBetter hni.2.1 (by rw [c197]; exact hm.2.1.1) (fun s s0 s1 => by rw [c197] at s1; rw [(hni.1 s s0 (by rw [zVk_ne (by decide)]; exact s1)).1.2.1]; exact zNV_3 hokk s0 (by rw [zVk_ne (by decide)]; exact s1))) m_X8_keepIfBetter zl_189 l_X8_89 (Nat.le_of_ble_eq_true rfl) ⟨Nat.le_of_ble_eq_true rfl, Nat.le_of_ble_eq_true rfl⟩ ⟨rfl, rfl⟩ dX8_findGoes_67 (fun r μ1 hp => ?_)
            obtain ⟨rfl, hkb⟩ := hp
            obtain ⟨ζ4, hζ9⟩ : ∃ z, z = μ1 := ⟨_, rfl⟩
            subst hζ9
            have hW : zWo (ζ3 197 6) (ζ3 215) = zWG (zHV μ 1) (i : Int) := by
              unfold zWG zWR
              rw [c197, zVk_ne (by decide)]
              exact zWo_c (fun s s0 s1 => (hni.1 s s0 (by rw [zVk_ne (by decide)]; exact s1)).1.2.1)
            have hG : zGo (ζ3 197 6) (ζ3 215) = zGG (zHV μ 1) (i : Int) := by
              unfold zGG zGR
              rw [c197, zVk_ne (by decide)]
              exact zGo_c (fun s s0 s1 => (hni.1 s s0 (by rw [zVk_ne (by decide)]; exact s1)).1.2.1)
            rw [hW, hG] at hkb
            have f9 : ζ3 189 = ξ 189 := by rw [hf 189 (by decide), hk2 189 (by decide), hk_ 189 (by decide)]
            have f190 : ζ3 190 = ξ 190 := by rw [hf 190 (by decide), hk2 190 (by decide), hk_ 190 (by decide)]
            have f191 : ζ3 191 = ζ1 191 := by rw [hf 191 (by decide), hk2 191 (by decide)]
            have e92 : zHV ζ3 192 = zHV ζ2 192 := zHV_fr (a := 214) (n := 78) (fun a ha => hf a (by omega)) (by decide)
            have e3E : ∀ a, 233 ≤ a → a < 272 → ζ3 a = ξ a := fun a a0 a1 => by rw [hf a (by omega), hk2 a (by omega), hk_ a (by omega)]
            have e3r : ∀ a : Nat, (a < 189 ∨ 292 ≤ a) → ζ3 a = μ a := fun a ha => by rw [hf a (by omega), hk2 a (by omega)]; exact hr_ζ1 a ha
            rw [f9, h3_, h1_, h2_] at hkb
            refine z_iinc_4 rfl dX8_findGoes_70 (by omega) ?_
            refine z_goto (tgt := 22) dX8_findGoes_73 (by decide) ?_
            rcases hkb with ⟨hco, w3, w1, w2, wb, wf⟩ | ⟨hco, hev⟩
            · refine z_weak (ls' := [zR 189, zR 1, zI (zHV μ 1 3 3), zI (zpo (zHV μ 1 3 3) (zHV μ 1 3 3).toNat), zI ((i + 1 : Nat) : Int)]) ⟨Or.inl rfl, Or.inl rfl, Or.inl rfl, Or.inl rfl, Or.inl rfl, trivial⟩ (ih (i + 1) ζ4 (by omega) (by rw [zSe_s, zif_t ⟨hT, hco⟩]; exact w3) (by rw [zSe_s, zif_t ⟨hT, hco⟩]; exact w1) (by rw [zSe_s, zif_t ⟨hT, hco⟩]; exact w2) (by rw [zSe_s, zif_t ⟨hT, hco⟩]; exact fun _ k k0 k1 => by rw [wb k k0 (by omega), f191]; exact hrw k k0 k1) (by rw [show zHV ζ4 192 = zHV ζ3 192 from zHV_fr (a := 189) (n := 2) (fun a ha => wf a (by omega) (by omega)) (by decide), e92]; exact htl2) (zEr_fr hE hm (fun a a0 a1 => (wf a (by omega) (by omega)).trans (e3E a a0 a1))) (fun a ha => (wf a (by omega) (by omega)).trans (e3r a ha)) (by omega))
            · have hev := hev.symm
              subst hev
              refine z_weak (ls' := [zR 189, zR 1, zI (zHV μ 1 3 3), zI (zpo (zHV μ 1 3 3) (zHV μ 1 3 3).toNat), zI ((i + 1 : Nat) : Int)]) ⟨Or.inl rfl, Or.inl rfl, Or.inl rfl, Or.inl rfl, Or.inl rfl, trivial⟩ (ih (i + 1) ζ3 (by omega) (by rw [zSe_s, zif_f (fun q => hco q.2), f9]; exact h3_) (by rw [zSe_s, zif_f (fun q => hco q.2), f9]; exact h1_) (by rw [zSe_s, zif_f (fun q => hco q.2), f9]; exact h2_) (by rw [zSe_s, zif_f (fun q => hco q.2), f190]; exact hb_) (by rw [e92]; exact htl2) (zEr_fr hE hm e3E) e3r (by omega))
  refine z_aload_0 dX8_findGoes_0 ?_
  refine z_aload_1 dX8_findGoes_1 ?_
  refine z_callV1 (k_X8_start hm) m_X8_start zl_189 l_X8_32 (Nat.le_of_ble_eq_true rfl) ⟨Nat.le_of_ble_eq_true rfl, Nat.le_of_ble_eq_true rfl⟩ ⟨rfl, rfl⟩ dX8_findGoes_2 (fun r μ1 hp => ?_)
  obtain ⟨rfl, s3, s1, s2, sV, sE, sr⟩ := hp
  obtain ⟨ζ0, hζ9⟩ : ∃ z, z = μ1 := ⟨_, rfl⟩
  subst hζ9
  have c6 : ζ0 6 6 = (zHV μ 1 3 3) := by rw [sr 6 (by decide)]; rfl
  have c3 : ζ0 2 3 = (zHV μ 1 3 0) := by rw [sr 2 (by decide)]; rfl
  refine z_aload_1 dX8_findGoes_5 ?_
  refine z_getF 6 5 rfl f_X8_36 zl_1 rfl rfl dX8_findGoes_6 ?_
  refine z_getI 6 rfl f_X8_40 zl_6 rfl dX8_findGoes_9 ?_
  rw [c6]
  refine z_istore_2 rfl dX8_findGoes_12 ?_
  refine z_iload_2 dX8_findGoes_13 ?_
  refine z_iload_2 dX8_findGoes_14 ?_
  refine z_callS2 (k_X8_power (by omega) (by omega) (by omega) (by omega)) m_X8_power l_X8_55 (Nat.le_of_ble_eq_true rfl) ⟨Nat.le_of_ble_eq_true rfl, Nat.le_of_ble_eq_true rfl⟩ ⟨rfl, rfl⟩ dX8_findGoes_15 (fun r μ1 hp => ?_)
  obtain ⟨rfl, hv⟩ := hp
  replace hv := hv.symm
  subst hv
  refine z_istore_3 rfl dX8_findGoes_18 ?_
  refine z_iconst dX8_findGoes_19 (by decide) ?_
  refine z_istore_4 rfl dX8_findGoes_20 ?_
  exact LB 8000 0 ζ0 (by omega) s3 s1 s2 (fun q => absurd q (by show ¬ ((0 : Int) = 1); decide)) (by rw [sV]; exact ⟨fun _ _ => rfl, fun _ _ => rfl⟩) sE sr (by omega)
set_option maxRecDepth 100000 in
set_option maxHeartbeats 4000000 in
theorem k_X11_best {l : Launch} {E : zE} {μ : zM} (hm : zXpre μ) {rules s : Int} : Ct l E yX11_best cX11_best 3 (some .int) ({ frames := 7, cells := 0, slots := 0, locals := 161 }) [zR 0, zI rules, zI s] μ (fun r ν => (¬ (s = -1 ∨ (0 ≤ s ∧ s < zHV μ 1 3 3)) ∧ r = some (zI (-10)) ∧ ν = zCt μ (-2)) ∨ ((s = -1 ∨ (0 ≤ s ∧ s < zHV μ 1 3 3)) ∧ (zPB (zHV μ 1) rules).1 ≠ 1 ∧ r = some (zI (-20)) ∧ ∃ ζ, zXf μ ζ ∧ ν = zCt ζ (-3)) ∨ ((s = -1 ∨ (0 ≤ s ∧ s < zHV μ 1 3 3)) ∧ (zPB (zHV μ 1) rules).1 = 1 ∧ r = some (zI (zif (s = -1) (zPB (zHV μ 1) rules).2.1 (zrw (zPB (zHV μ 1) rules).2.2.2 (zHV μ 1 3 0) (zHV μ 1 3 3) s))) ∧ zXf μ ν)) := by
  refine Ct.of RX11 [zR 0, zI rules, zI s] (by decide +kernel) rfl ⟨rfl, rfl⟩ rfl (Nat.le_of_ble_eq_true rfl) (fun X hX hc0 ha0 => ?_)
  subst hX
  refine z_iload_2 dX11_best_0 ?_
  refine z_iconst dX11_best_1 (by decide) ?_
  refine z_icmpeq (tgt := 28) dX11_best_2 (by decide) (fun h_2 => ?_) (fun h_2 => ?_)
  · refine z_aload_0 dX11_best_28 ?_
    refine z_getF 189 189 rfl f_X11_44 zl_0 rfl rfl dX11_best_29 ?_
    refine z_aload_0 dX11_best_32 ?_
    refine z_getF 1 1 rfl f_X11_10 zl_0 rfl rfl dX11_best_33 ?_
    refine z_iload_1 dX11_best_36 ?_
    refine z_callV2 (k_X8_findBeds hm.1) m_X8_findBeds zl_189 l_X11_252 (Nat.le_of_ble_eq_true rfl) ⟨Nat.le_of_ble_eq_true rfl, Nat.le_of_ble_eq_true rfl⟩ ⟨rfl, rfl⟩ dX11_best_37 (fun r μ1 hp => ?_)
    obtain ⟨rfl, hb, hr⟩ := hp
    obtain ⟨ζ, hζ9⟩ : ∃ z, z = μ1 := ⟨_, rfl⟩
    subst hζ9
    have hxf : zXf μ ζ := fun a ha => hr a (by omega)
    refine z_ifne (tgt := 52) dX11_best_40 (by decide) (fun h_40 => ?_) (fun h_40 => ?_)
    · replace h_40 := zb_n.mp h_40
      obtain ⟨b1, b2⟩ := hb h_40
      refine z_iload_2 dX11_best_52 ?_
      refine z_iconst dX11_best_53 (by decide) ?_
      refine z_icmpne (tgt := 67) dX11_best_54 (by decide) (fun h_54 => ?_) (fun h_54 => ?_)
      · refine z_aload_0 dX11_best_67 ?_
        refine z_getF 189 189 rfl f_X11_44 zl_0 rfl rfl dX11_best_68 ?_
        refine z_getF 190 1 rfl f_X11_258 zl_189 rfl rfl dX11_best_71 ?_
        refine z_iload_2 dX11_best_74 ?_
        have npb := hm.1.2.1.1
        refine z_iald zl_190 (by omega) (by omega) dX11_best_75 ?_
        exact z_iret dX11_best_76 (Or.inr (Or.inr ⟨by first | exact Or.inl h_2 | exact Or.inr h_16, h_40, congrArg (fun z => (some (zI z) : Option zAV)) (by first | exact (zif_t h_54).symm | (rw [zif_f h_54]; exact b2 s (by omega) (by omega))), hxf⟩))
      · refine z_aload_0 dX11_best_57 ?_
        refine z_getF 189 189 rfl f_X11_44 zl_0 rfl rfl dX11_best_58 ?_
        refine z_getI 1 rfl f_X11_256 zl_189 rfl dX11_best_61 ?_
        rw [b1]
        refine z_goto (tgt := 76) dX11_best_64 (by decide) ?_
        exact z_iret dX11_best_76 (Or.inr (Or.inr ⟨by first | exact Or.inl h_2 | exact Or.inr h_16, h_40, congrArg (fun z => (some (zI z) : Option zAV)) (by first | exact (zif_t h_54).symm | (rw [zif_f h_54]; exact b2 s (by omega) (by omega))), hxf⟩))
    · replace h_40 := zb_0.mp h_40
      refine z_aload_0 dX11_best_43 ?_
      refine z_bipush dX11_best_44 (by decide) ?_
      refine z_bipush dX11_best_46 (by decide) ?_
      refine z_callV2 (k_X11_refused (by decide) (by rw [hr 348 (by decide)]; exact hm.2)) m_X11_refused zl_0 l_X11_116 (Nat.le_of_ble_eq_true rfl) ⟨Nat.le_of_ble_eq_true rfl, Nat.le_of_ble_eq_true rfl⟩ ⟨rfl, rfl⟩ dX11_best_48 (fun r μ1 hp => ?_)
      obtain ⟨rfl, hv⟩ := hp
      replace hv := hv.symm
      subst hv
      exact z_iret dX11_best_51 (Or.inr (Or.inl ⟨by first | exact Or.inl h_2 | exact Or.inr h_16, h_40, rfl, ζ, hxf, zCt_3.symm⟩))
  · refine z_aload_0 dX11_best_5 ?_
    refine z_getF 1 1 rfl f_X11_10 zl_0 rfl rfl dX11_best_6 ?_
    refine z_getF 6 5 rfl f_X11_103 zl_1 rfl rfl dX11_best_9 ?_
    refine z_iload_2 dX11_best_12 ?_
    refine z_callV1 (k_X5_has (h := 1) zq2_1 hm.1) m_X5_has zl_6 l_X11_193 (Nat.le_of_ble_eq_true rfl) ⟨Nat.le_of_ble_eq_true rfl, Nat.le_of_ble_eq_true rfl⟩ ⟨rfl, rfl⟩ dX11_best_13 (fun r μ1 hp => ?_)
    obtain ⟨rfl, hv⟩ := hp
    replace hv := hv.symm
    subst hv
    rw [show μ (1 + 5) 6 = zHV μ 1 3 3 from rfl]
    refine z_ifne (tgt := 28) dX11_best_16 (by decide) (fun h_16 => ?_) (fun h_16 => ?_)
    · replace h_16 := zb_n.mp h_16
      refine z_aload_0 dX11_best_28 ?_
      refine z_getF 189 189 rfl f_X11_44 zl_0 rfl rfl dX11_best_29 ?_
      refine z_aload_0 dX11_best_32 ?_
      refine z_getF 1 1 rfl f_X11_10 zl_0 rfl rfl dX11_best_33 ?_
      refine z_iload_1 dX11_best_36 ?_
      refine z_callV2 (k_X8_findBeds hm.1) m_X8_findBeds zl_189 l_X11_252 (Nat.le_of_ble_eq_true rfl) ⟨Nat.le_of_ble_eq_true rfl, Nat.le_of_ble_eq_true rfl⟩ ⟨rfl, rfl⟩ dX11_best_37 (fun r μ1 hp => ?_)
      obtain ⟨rfl, hb, hr⟩ := hp
      obtain ⟨ζ, hζ9⟩ : ∃ z, z = μ1 := ⟨_, rfl⟩
      subst hζ9
      have hxf : zXf μ ζ := fun a ha => hr a (by omega)
      refine z_ifne (tgt := 52) dX11_best_40 (by decide) (fun h_40 => ?_) (fun h_40 => ?_)
      · replace h_40 := zb_n.mp h_40
        obtain ⟨b1, b2⟩ := hb h_40
        refine z_iload_2 dX11_best_52 ?_
        refine z_iconst dX11_best_53 (by decide) ?_
        refine z_icmpne (tgt := 67) dX11_best_54 (by decide) (fun h_54 => ?_) (fun h_54 => ?_)
        · refine z_aload_0 dX11_best_67 ?_
          refine z_getF 189 189 rfl f_X11_44 zl_0 rfl rfl dX11_best_68 ?_
          refine z_getF 190 1 rfl f_X11_258 zl_189 rfl rfl dX11_best_71 ?_
          refine z_iload_2 dX11_best_74 ?_
          have npb := hm.1.2.1.1
          refine z_iald zl_190 (by omega) (by omega) dX11_best_75 ?_
          exact z_iret dX11_best_76 (Or.inr (Or.inr ⟨by first | exact Or.inl h_2 | exact Or.inr h_16, h_40, congrArg (fun z => (some (zI z) : Option zAV)) (by first | exact (zif_t h_54).symm | (rw [zif_f h_54]; exact b2 s (by omega) (by omega))), hxf⟩))
        · refine z_aload_0 dX11_best_57 ?_
          refine z_getF 189 189 rfl f_X11_44 zl_0 rfl rfl dX11_best_58 ?_
          refine z_getI 1 rfl f_X11_256 zl_189 rfl dX11_best_61 ?_
          rw [b1]
          refine z_goto (tgt := 76) dX11_best_64 (by decide) ?_
          exact z_iret dX11_best_76 (Or.inr (Or.inr ⟨by first | exact Or.inl h_2 | exact Or.inr h_16, h_40, congrArg (fun z => (some (zI z) : Option zAV)) (by first | exact (zif_t h_54).symm | (rw [zif_f h_54]; exact b2 s (by omega) (by omega))), hxf⟩))
      · replace h_40 := zb_0.mp h_40
        refine z_aload_0 dX11_best_43 ?_
        refine z_bipush dX11_best_44 (by decide) ?_
        refine z_bipush dX11_best_46 (by decide) ?_
        refine z_callV2 (k_X11_refused (by decide) (by rw [hr 348 (by decide)]; exact hm.2)) m_X11_refused zl_0 l_X11_116 (Nat.le_of_ble_eq_true rfl) ⟨Nat.le_of_ble_eq_true rfl, Nat.le_of_ble_eq_true rfl⟩ ⟨rfl, rfl⟩ dX11_best_48 (fun r μ1 hp => ?_)
        obtain ⟨rfl, hv⟩ := hp
        replace hv := hv.symm
        subst hv
        exact z_iret dX11_best_51 (Or.inr (Or.inl ⟨by first | exact Or.inl h_2 | exact Or.inr h_16, h_40, rfl, ζ, hxf, zCt_3.symm⟩))
    · replace h_16 := zb_0.mp h_16
      refine z_aload_0 dX11_best_19 ?_
      refine z_bipush dX11_best_20 (by decide) ?_
      refine z_bipush dX11_best_22 (by decide) ?_
      refine z_callV2 (k_X11_refused (by decide) hm.2) m_X11_refused zl_0 l_X11_116 (Nat.le_of_ble_eq_true rfl) ⟨Nat.le_of_ble_eq_true rfl, Nat.le_of_ble_eq_true rfl⟩ ⟨rfl, rfl⟩ dX11_best_24 (fun r μ1 hp => ?_)
      obtain ⟨rfl, hv⟩ := hp
      replace hv := hv.symm
      subst hv
      exact z_iret dX11_best_27 (Or.inl ⟨fun q => q.elim h_2 h_16, rfl, zCt_2.symm⟩)
theorem zSe_w {T : Int → Prop} {W G : Int → Int} {B : Int} (hB : 0 ≤ B) (h : ∀ c : Nat, T (c : Int) → 0 ≤ W c ∧ W c ≤ B) : ∀ {n : Nat}, 0 ≤ (zSe T W G n).2.1 ∧ (zSe T W G n).2.1 ≤ B
  | 0 => ⟨Int.le_refl _, hB⟩
  | n + 1 => by
    rw [zSe_s]
    exact zif_i (p := fun (z : Int × Int × Int × Int) => 0 ≤ z.2.1 ∧ z.2.1 ≤ B) (fun q => h n q.1) (fun _ => zSe_w hB h)
theorem zPB_b {V : zM} {rules : Int} (ok : zOK V) : 0 ≤ (zPB V rules).2.1 ∧ (zPB V rules).2.1 ≤ 40 := by
  have np := ok.2.1.1
  have nb := ok.1.2.1
  by_cases q : V 3 0 = 0 ∧ V 3 3 ≠ 0
  · have : (zpo (V 3 0) (V 3 3).toNat).toNat = 0 := by
      have := zpo_p (b := V 3 0) (n := (V 3 3).toNat)
      have := zpo_n (b := V 3 0) (by omega) (n := (V 3 3).toNat)
      omega
    unfold zPB
    rw [this]
    exact ⟨Int.le_refl _, by show (0 : Int) ≤ 40; decide⟩
  · unfold zPB
    generalize (zpo (V 3 0) (V 3 3).toNat).toNat = N
    refine zSe_w (T := zTB V rules) (W := zWB V) (G := zGB V) (B := 40) (n := N) (by decide) (fun c _ => zWR_b (V := zVk 9 V (zrw (c : Int) (V 3 0) (V 3 3))) (fan := 0) (zVk_9ok ok (fun i i0 i1 => ?_)))
    have := zrw_b (c := (c : Int)) (n := V 3 3) (k := i) (show 0 < V 3 0 by omega)
    omega
set_option maxRecDepth 100000 in
set_option maxHeartbeats 4000000 in
theorem k_X11_cost {l : Launch} {E : zE} {μ : zM} (hm : zXpre μ) : Ct l E yX11_cost cX11_cost 2 (some .int) ({ frames := 7, cells := 0, slots := 0, locals := 161 }) [zR 0] μ (fun r ν => (((zPB (zHV μ 1) 0).1 ≠ 1 ∨ (zPB (zHV μ 1) 1).1 ≠ 1) ∧ r = some (zI (-3)) ∧ ∃ ζ, zXf μ ζ ∧ ν = zCt ζ (-3)) ∨ ((zPB (zHV μ 1) 0).1 = 1 ∧ (zPB (zHV μ 1) 1).1 = 1 ∧ r = some (zI ((zPB (zHV μ 1) 0).2.1 - (zPB (zHV μ 1) 1).2.1)) ∧ zXf μ ν)) := by
  refine Ct.of RX11 [zR 0, zU] (by decide +kernel) rfl ⟨rfl, rfl⟩ rfl (Nat.le_of_ble_eq_true rfl) (fun X hX hc0 ha0 => ?_)
  subst hX
  refine z_aload_0 dX11_cost_0 ?_
  refine z_getF 189 189 rfl f_X11_44 zl_0 rfl rfl dX11_cost_1 ?_
  refine z_aload_0 dX11_cost_4 ?_
  refine z_getF 1 1 rfl f_X11_10 zl_0 rfl rfl dX11_cost_5 ?_
  refine z_iconst dX11_cost_8 (by decide) ?_
  refine z_callV2 (k_X8_findBeds (rules := 0) hm.1) m_X8_findBeds zl_189 l_X11_252 (Nat.le_of_ble_eq_true rfl) ⟨Nat.le_of_ble_eq_true rfl, Nat.le_of_ble_eq_true rfl⟩ ⟨rfl, rfl⟩ dX11_cost_9 (fun r μ1 hp => ?_)
  obtain ⟨rfl, hb, hr⟩ := hp
  obtain ⟨ζ, hζ9⟩ : ∃ z, z = μ1 := ⟨_, rfl⟩
  subst hζ9
  have hxf : zXf μ ζ := fun a ha => hr a (by omega)
  refine z_ifne (tgt := 22) dX11_cost_12 (by decide) (fun h_12 => ?_) (fun h_12 => ?_)
  · replace h_12 := zb_n.mp h_12
    obtain ⟨b1, b2⟩ := hb h_12
    have hV1 : zHV ζ 1 = zHV μ 1 := zHV_fr (a := 189) (n := 103) (fun a ha => hr a (by omega)) (by decide)
    have hm1 : zOK (zHV ζ 1) := by rw [hV1]; exact hm.1
    refine z_aload_0 dX11_cost_22 ?_
    refine z_getF 189 189 rfl f_X11_44 zl_0 rfl rfl dX11_cost_23 ?_
    refine z_getI 1 rfl f_X11_256 zl_189 rfl dX11_cost_26 ?_
    rw [b1]
    refine z_istore_1 rfl dX11_cost_29 ?_
    refine z_aload_0 dX11_cost_30 ?_
    refine z_getF 189 189 rfl f_X11_44 zl_0 rfl rfl dX11_cost_31 ?_
    refine z_aload_0 dX11_cost_34 ?_
    refine z_getF 1 1 rfl f_X11_10 zl_0 rfl rfl dX11_cost_35 ?_
    refine z_iconst dX11_cost_38 (by decide) ?_
    refine z_callV2 (k_X8_findBeds (rules := 1) hm1) m_X8_findBeds zl_189 l_X11_252 (Nat.le_of_ble_eq_true rfl) ⟨Nat.le_of_ble_eq_true rfl, Nat.le_of_ble_eq_true rfl⟩ ⟨rfl, rfl⟩ dX11_cost_39 (fun r μ1 hp => ?_)
    obtain ⟨rfl, hb2, hr2⟩ := hp
    obtain ⟨ζ2, hζ9⟩ : ∃ z, z = μ1 := ⟨_, rfl⟩
    subst hζ9
    rw [hV1] at hb2
    have hxf2 : zXf μ ζ2 := fun a ha => (hr2 a (by omega)).trans (hr a (by omega))
    rw [hV1]
    refine z_ifne (tgt := 52) dX11_cost_42 (by decide) (fun h_42 => ?_) (fun h_42 => ?_)
    · replace h_42 := zb_n.mp h_42
      obtain ⟨d1, d2⟩ := hb2 h_42
      refine z_iload_1 dX11_cost_52 ?_
      refine z_aload_0 dX11_cost_53 ?_
      refine z_getF 189 189 rfl f_X11_44 zl_0 rfl rfl dX11_cost_54 ?_
      refine z_getI 1 rfl f_X11_256 zl_189 rfl dX11_cost_57 ?_
      rw [d1]
      have pb1 := zPB_b (rules := 0) hm.1
      have pb2 := zPB_b (rules := 1) hm.1
      refine z_isub dX11_cost_60 (by omega) ?_
      exact z_iret dX11_cost_61 (Or.inr ⟨h_12, h_42, rfl, hxf2⟩)
    · replace h_42 := zb_0.mp h_42
      refine z_aload_0 dX11_cost_45 ?_
      refine z_bipush dX11_cost_46 (by decide) ?_
      refine z_callV1 (k_X11_counted (by rw [hr2 348 (by decide), hr 348 (by decide)]; exact hm.2)) m_X11_counted zl_0 l_X11_86 (Nat.le_of_ble_eq_true rfl) ⟨Nat.le_of_ble_eq_true rfl, Nat.le_of_ble_eq_true rfl⟩ ⟨rfl, rfl⟩ dX11_cost_48 (fun r μ1 hp => ?_)
      obtain ⟨rfl, hv⟩ := hp
      replace hv := hv.symm
      subst hv
      exact z_iret dX11_cost_51 (Or.inl ⟨Or.inr h_42, rfl, ζ2, hxf2, rfl⟩)
  · replace h_12 := zb_0.mp h_12
    refine z_aload_0 dX11_cost_15 ?_
    refine z_bipush dX11_cost_16 (by decide) ?_
    refine z_callV1 (k_X11_counted (by rw [hr 348 (by decide)]; exact hm.2)) m_X11_counted zl_0 l_X11_86 (Nat.le_of_ble_eq_true rfl) ⟨Nat.le_of_ble_eq_true rfl, Nat.le_of_ble_eq_true rfl⟩ ⟨rfl, rfl⟩ dX11_cost_18 (fun r μ1 hp => ?_)
    obtain ⟨rfl, hv⟩ := hp
    replace hv := hv.symm
    subst hv
    exact z_iret dX11_cost_21 (Or.inl ⟨Or.inl h_12, rfl, ζ, hxf, rfl⟩)
set_option maxRecDepth 100000 in
set_option maxHeartbeats 4000000 in
theorem k_X11_order {l : Launch} {E : zE} {μ : zM} (hm : zXpre μ) {s : Int} : Ct l E yX11_order cX11_order 2 (some .int) ({ frames := 7, cells := 0, slots := 0, locals := 160 }) [zR 0, zI s] μ (fun r ν => (¬ (s = -1 ∨ (0 ≤ s ∧ s < zHV μ 1 3 3)) ∧ r = some (zI (-2)) ∧ ν = zCt μ (-2)) ∨ ((s = -1 ∨ (0 ≤ s ∧ s < zHV μ 1 3 3)) ∧ zHV μ 1 3 3 = 0 ∧ r = some (zI (-3)) ∧ ν = zCt μ (-3)) ∨ ((s = -1 ∨ (0 ≤ s ∧ s < zHV μ 1 3 3)) ∧ zHV μ 1 3 3 ≠ 0 ∧ r = some (zI (zif (s = -1) (zPG (zHV μ 1)).2.1 (zrw (zPG (zHV μ 1)).2.2.2 (zHV μ 1 3 3) (zHV μ 1 3 3) s))) ∧ zXf μ ν)) := by
  refine Ct.of RX11 [zR 0, zI s] (by decide +kernel) rfl ⟨rfl, rfl⟩ rfl (Nat.le_of_ble_eq_true rfl) (fun X hX hc0 ha0 => ?_)
  subst hX
  refine z_iload_1 dX11_order_0 ?_
  refine z_iconst dX11_order_1 (by decide) ?_
  refine z_icmpeq (tgt := 26) dX11_order_2 (by decide) (fun h_2 => ?_) (fun h_2 => ?_)
  · refine z_aload_0 dX11_order_26 ?_
    refine z_getF 1 1 rfl f_X11_10 zl_0 rfl rfl dX11_order_27 ?_
    refine z_getF 6 5 rfl f_X11_103 zl_1 rfl rfl dX11_order_30 ?_
    refine z_getI 6 rfl f_X11_261 zl_6 rfl dX11_order_33 ?_
    refine z_ifne (tgt := 46) dX11_order_36 (by decide) (fun h_36 => ?_) (fun h_36 => ?_)
    · refine z_aload_0 dX11_order_46 ?_
      refine z_getF 189 189 rfl f_X11_44 zl_0 rfl rfl dX11_order_47 ?_
      refine z_aload_0 dX11_order_50 ?_
      refine z_getF 1 1 rfl f_X11_10 zl_0 rfl rfl dX11_order_51 ?_
      refine z_callV1 (k_X8_findGoes hm.1) m_X8_findGoes zl_189 l_X11_262 (Nat.le_of_ble_eq_true rfl) ⟨Nat.le_of_ble_eq_true rfl, Nat.le_of_ble_eq_true rfl⟩ ⟨rfl, rfl⟩ dX11_order_54 (fun r μ1 hp => ?_)
      obtain ⟨rfl, hb, hr⟩ := hp
      obtain ⟨ζ, hζ9⟩ : ∃ z, z = μ1 := ⟨_, rfl⟩
      subst hζ9
      have hxf : zXf μ ζ := fun a ha => hr a (by omega)
      obtain ⟨b1, b2⟩ := hb (zPG_1 hm.1 h_36)
      refine z_pop dX11_order_57 rfl ?_
      refine z_iload_1 dX11_order_58 ?_
      refine z_iconst dX11_order_59 (by decide) ?_
      refine z_icmpne (tgt := 73) dX11_order_60 (by decide) (fun h_60 => ?_) (fun h_60 => ?_)
      · refine z_aload_0 dX11_order_73 ?_
        refine z_getF 189 189 rfl f_X11_44 zl_0 rfl rfl dX11_order_74 ?_
        refine z_getF 190 1 rfl f_X11_258 zl_189 rfl rfl dX11_order_77 ?_
        refine z_iload_1 dX11_order_80 ?_
        have npb := hm.1.2.1.1
        refine z_iald zl_190 (by omega) (by omega) dX11_order_81 ?_
        exact z_iret dX11_order_82 (Or.inr (Or.inr ⟨by first | exact Or.inl h_2 | exact Or.inr h_16, h_36, congrArg (fun z => (some (zI z) : Option zAV)) (by first | exact (zif_t h_60).symm | (rw [zif_f h_60]; exact b2 s (by omega) (by omega))), hxf⟩))
      · refine z_aload_0 dX11_order_63 ?_
        refine z_getF 189 189 rfl f_X11_44 zl_0 rfl rfl dX11_order_64 ?_
        refine z_getI 1 rfl f_X11_256 zl_189 rfl dX11_order_67 ?_
        rw [b1]
        refine z_goto (tgt := 82) dX11_order_70 (by decide) ?_
        exact z_iret dX11_order_82 (Or.inr (Or.inr ⟨by first | exact Or.inl h_2 | exact Or.inr h_16, h_36, congrArg (fun z => (some (zI z) : Option zAV)) (by first | exact (zif_t h_60).symm | (rw [zif_f h_60]; exact b2 s (by omega) (by omega))), hxf⟩))
    · refine z_aload_0 dX11_order_39 ?_
      refine z_bipush dX11_order_40 (by decide) ?_
      refine z_callV1 (k_X11_counted hm.2) m_X11_counted zl_0 l_X11_86 (Nat.le_of_ble_eq_true rfl) ⟨Nat.le_of_ble_eq_true rfl, Nat.le_of_ble_eq_true rfl⟩ ⟨rfl, rfl⟩ dX11_order_42 (fun r μ1 hp => ?_)
      obtain ⟨rfl, hv⟩ := hp
      replace hv := hv.symm
      subst hv
      exact z_iret dX11_order_45 (Or.inr (Or.inl ⟨by first | exact Or.inl h_2 | exact Or.inr h_16, h_36, rfl, rfl⟩))
  · refine z_aload_0 dX11_order_5 ?_
    refine z_getF 1 1 rfl f_X11_10 zl_0 rfl rfl dX11_order_6 ?_
    refine z_getF 6 5 rfl f_X11_103 zl_1 rfl rfl dX11_order_9 ?_
    refine z_iload_1 dX11_order_12 ?_
    refine z_callV1 (k_X5_has (h := 1) zq2_1 hm.1) m_X5_has zl_6 l_X11_193 (Nat.le_of_ble_eq_true rfl) ⟨Nat.le_of_ble_eq_true rfl, Nat.le_of_ble_eq_true rfl⟩ ⟨rfl, rfl⟩ dX11_order_13 (fun r μ1 hp => ?_)
    obtain ⟨rfl, hv⟩ := hp
    replace hv := hv.symm
    subst hv
    rw [show μ (1 + 5) 6 = zHV μ 1 3 3 from rfl]
    refine z_ifne (tgt := 26) dX11_order_16 (by decide) (fun h_16 => ?_) (fun h_16 => ?_)
    · replace h_16 := zb_n.mp h_16
      refine z_aload_0 dX11_order_26 ?_
      refine z_getF 1 1 rfl f_X11_10 zl_0 rfl rfl dX11_order_27 ?_
      refine z_getF 6 5 rfl f_X11_103 zl_1 rfl rfl dX11_order_30 ?_
      refine z_getI 6 rfl f_X11_261 zl_6 rfl dX11_order_33 ?_
      refine z_ifne (tgt := 46) dX11_order_36 (by decide) (fun h_36 => ?_) (fun h_36 => ?_)
      · refine z_aload_0 dX11_order_46 ?_
        refine z_getF 189 189 rfl f_X11_44 zl_0 rfl rfl dX11_order_47 ?_
        refine z_aload_0 dX11_order_50 ?_
        refine z_getF 1 1 rfl f_X11_10 zl_0 rfl rfl dX11_order_51 ?_
        refine z_callV1 (k_X8_findGoes hm.1) m_X8_findGoes zl_189 l_X11_262 (Nat.le_of_ble_eq_true rfl) ⟨Nat.le_of_ble_eq_true rfl, Nat.le_of_ble_eq_true rfl⟩ ⟨rfl, rfl⟩ dX11_order_54 (fun r μ1 hp => ?_)
        obtain ⟨rfl, hb, hr⟩ := hp
        obtain ⟨ζ, hζ9⟩ : ∃ z, z = μ1 := ⟨_, rfl⟩
        subst hζ9
        have hxf : zXf μ ζ := fun a ha => hr a (by omega)
        obtain ⟨b1, b2⟩ := hb (zPG_1 hm.1 h_36)
        refine z_pop dX11_order_57 rfl ?_
        refine z_iload_1 dX11_order_58 ?_
        refine z_iconst dX11_order_59 (by decide) ?_
        refine z_icmpne (tgt := 73) dX11_order_60 (by decide) (fun h_60 => ?_) (fun h_60 => ?_)
        · refine z_aload_0 dX11_order_73 ?_
          refine z_getF 189 189 rfl f_X11_44 zl_0 rfl rfl dX11_order_74 ?_
          refine z_getF 190 1 rfl f_X11_258 zl_189 rfl rfl dX11_order_77 ?_
          refine z_iload_1 dX11_order_80 ?_
          have npb := hm.1.2.1.1
          refine z_iald zl_190 (by omega) (by omega) dX11_order_81 ?_
          exact z_iret dX11_order_82 (Or.inr (Or.inr ⟨by first | exact Or.inl h_2 | exact Or.inr h_16, h_36, congrArg (fun z => (some (zI z) : Option zAV)) (by first | exact (zif_t h_60).symm | (rw [zif_f h_60]; exact b2 s (by omega) (by omega))), hxf⟩))
        · refine z_aload_0 dX11_order_63 ?_
          refine z_getF 189 189 rfl f_X11_44 zl_0 rfl rfl dX11_order_64 ?_
          refine z_getI 1 rfl f_X11_256 zl_189 rfl dX11_order_67 ?_
          rw [b1]
          refine z_goto (tgt := 82) dX11_order_70 (by decide) ?_
          exact z_iret dX11_order_82 (Or.inr (Or.inr ⟨by first | exact Or.inl h_2 | exact Or.inr h_16, h_36, congrArg (fun z => (some (zI z) : Option zAV)) (by first | exact (zif_t h_60).symm | (rw [zif_f h_60]; exact b2 s (by omega) (by omega))), hxf⟩))
      · refine z_aload_0 dX11_order_39 ?_
        refine z_bipush dX11_order_40 (by decide) ?_
        refine z_callV1 (k_X11_counted hm.2) m_X11_counted zl_0 l_X11_86 (Nat.le_of_ble_eq_true rfl) ⟨Nat.le_of_ble_eq_true rfl, Nat.le_of_ble_eq_true rfl⟩ ⟨rfl, rfl⟩ dX11_order_42 (fun r μ1 hp => ?_)
        obtain ⟨rfl, hv⟩ := hp
        replace hv := hv.symm
        subst hv
        exact z_iret dX11_order_45 (Or.inr (Or.inl ⟨by first | exact Or.inl h_2 | exact Or.inr h_16, h_36, rfl, rfl⟩))
    · replace h_16 := zb_0.mp h_16
      refine z_aload_0 dX11_order_19 ?_
      refine z_bipush dX11_order_20 (by decide) ?_
      refine z_callV1 (k_X11_counted hm.2) m_X11_counted zl_0 l_X11_86 (Nat.le_of_ble_eq_true rfl) ⟨Nat.le_of_ble_eq_true rfl, Nat.le_of_ble_eq_true rfl⟩ ⟨rfl, rfl⟩ dX11_order_22 (fun r μ1 hp => ?_)
      obtain ⟨rfl, hv⟩ := hp
      replace hv := hv.symm
      subst hv
      exact z_iret dX11_order_25 (Or.inl ⟨fun q => q.elim h_2 h_16, rfl, rfl⟩)
