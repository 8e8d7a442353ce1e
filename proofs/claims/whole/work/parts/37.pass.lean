def zSs (n : Nat) (i : Int) (μ ν : zM) : Prop := (∀ k, k ≠ 13 → k ≠ 14 → ν n k = μ n k) ∧ ∀ a y, a ≠ n → a ≠ n + 4 + i.toNat → a ≠ n + 10 + i.toNat → ¬ (y = i ∧ (a = n + 62 ∨ a = n + 63 ∨ a = n + 64 ∨ a = n + 2 ∨ a = n + 1)) → ν a y = μ a y
theorem zSs_t {n : Nat} {i : Int} {μ ν ξ : zM} (h : zSs n i μ ν) (g : zSs n i ν ξ) : zSs n i μ ξ := ⟨fun k k1 k2 => (g.1 k k1 k2).trans (h.1 k k1 k2), fun a y a0 a1 a2 a3 => (g.2 a y a0 a1 a2 a3).trans (h.2 a y a0 a1 a2 a3)⟩
theorem zSs_h {n : Nat} {i : Int} {μ : zM} {p : Int × Int} : zSs n i μ (zhm μ n p) := ⟨fun k k1 k2 => zhm_k k1 k2, fun a y a0 _ _ _ => by rw [zhm_row a0]⟩
theorem zSs_s {V : zM} {fan t : Int} {S μ ν : zM} {n : Nat} {i : Int} (h : zSt V fan t S n i μ ν) : zSs n i μ ν := ⟨fun k _ _ => h.2 n k (by omega) (fun q => by omega), fun a y _ a1 _ a3 => h.2 a y a1 (fun q => a3 ⟨q.1, by omega⟩)⟩
theorem zSs_n {T μ ν : zM} {n : Nat} {i t : Int} (h : zNo T n i t μ ν) : zSs n i μ ν := ⟨fun k _ _ => h.2.2 n k (fun q => by omega) (fun q => by omega), fun a y _ _ a2 a3 => h.2.2 a y (fun q => a3 ⟨q.2, by omega⟩) (fun q => a2 q.1)⟩
theorem zSs_1 {n : Nat} {i x : Int} {μ ν T : zM} (h : zSs n i μ ν) (i0 : 0 ≤ i) (i1 : i < 5) (x0 : 0 ≤ x) (x1 : x < 5) (q : x ≠ i) (z : zZ1 μ n T x) : zZ1 ν n T x :=
  zZ1_fr z (h.2 _ _ (by omega) (by omega) (by omega) (fun c => q c.1)) (h.2 _ _ (by omega) (by omega) (by omega) (fun c => q c.1)) (h.2 _ _ (by omega) (by omega) (by omega) (fun c => q c.1)) (h.2 _ _ (by omega) (by omega) (by omega) (fun c => q c.1)) (h.2 _ _ (by omega) (by omega) (by omega) (fun c => q c.1)) (funext fun y => h.2 _ _ (by omega) (by omega) (by omega) (fun c => by omega))
theorem zSs_d {n : Nat} {i x t : Int} {μ ν T : zM} (h : zSs n i μ ν) (i0 : 0 ≤ i) (i1 : i < 5) (x0 : 0 ≤ x) (x1 : x < 5) (q : x ≠ i) (z : zZd μ n T x t) : zZd ν n T x t := fun k k0 k1 => by
  rw [h.2 _ _ (by omega) (by omega) (by omega) (fun c => by omega)]; exact z k k0 k1
theorem zSs_f {n : Nat} {i : Int} {μ ν : zM} (h : zSs n i μ ν) (i0 : 0 ≤ i) (i1 : i < 5) {a : Nat} (ha : a < n ∨ (n + 15 ≤ a ∧ a < n + 62) ∨ n + 78 ≤ a) : ν a = μ a := funext fun y => h.2 _ _ (by omega) (by omega) (by omega) (fun c => by omega)
theorem zZl_11 {V : zM} {fan t : Int} {S : zM} {s k : Int} (h0 : 0 ≤ k) (h1 : k < 40) : zZl V fan t S 11 (40 * s + k) = zif (k = t) (zif (zZh V fan t S s = 2) (2 + zDp (t - zZs V fan t S s)) (zZh V fan t S s)) (S 11 (40 * s + k)) := by
  have e : zZl V fan t S 11 (40 * s + k) = zif ((40 * s + k) % 40 = t) (zif (zZh V fan t S ((40 * s + k) / 40) = 2) (2 + zDp (t - zZs V fan t S ((40 * s + k) / 40))) (zZh V fan t S ((40 * s + k) / 40))) (S 11 (40 * s + k)) := rfl
  rw [e, show (40 * s + k) / 40 = s by omega, show (40 * s + k) % 40 = k by omega]
theorem zZ_note {V : zM} {fan t : Int} {S μ ν : zM} {n : Nat} {i : Int} (i0 : 0 ≤ i) (i1 : i < 5) (t0 : 0 ≤ t) (t1 : t < 40) (z : zZ1 μ n (zZm V fan t S) i) (d : zZd μ n S i t) (h : zNo (zZm V fan t S) n i t μ ν) : zZ1 ν n (zZl V fan t S) i ∧ zZd ν n (zZl V fan t S) i (t + 1) := by
  obtain ⟨g0, g1, g2, g3, g4, g5⟩ := z
  refine ⟨⟨?_, ?_, ?_, fun q => ?_, fun q => ?_, fun k k0 k1 => ?_⟩, fun k k0 k1 => ?_⟩
  · rw [h.2.2 _ _ (fun c => by omega) (fun c => by omega)]; exact g0
  · rw [h.1]; rfl
  · rw [h.2.2 _ _ (fun c => by omega) (fun c => by omega)]; exact g2
  · rw [h.2.2 _ _ (fun c => by omega) (fun c => by omega)]; exact g3 q
  · rw [h.2.2 _ _ (fun c => by omega) (fun c => by omega)]; exact g4 q
  · rw [h.2.2 _ _ (fun c => by omega) (fun c => by omega)]; exact g5 k k0 k1
  · rw [zZl_11 k0 (by omega)]
    by_cases q : k = t
    · subst q
      rw [zif_t rfl, h.2.1]; rfl
    · rw [zif_f q, h.2.2 _ _ (fun c => by omega) (fun c => q c.2)]
      exact d k k0 (by omega)
/-- the class's night after t slots -/
def zNi (V : zM) (μ : zM) (n h : Nat) (S : zM) (t : Int) : Prop := (∀ s, 0 ≤ s → s < V 3 3 → zZ1 μ n S s ∧ zZd μ n S s t) ∧ μ n 8 = ((h + 5 : Nat) : Int) ∧ μ n 9 = ((h + 12 : Nat) : Int)
def zNf (n : Nat) (μ ν : zM) : Prop := ∀ a, (a < n ∨ (n + 15 ≤ a ∧ a < n + 62) ∨ n + 78 ≤ a) → ν a = μ a
theorem zSs_0 {μ : zM} {n : Nat} {p : Int × Int} {S : zM} {i : Int} (z : zZ1 μ n S i) : zZ1 (zhm μ n p) n S i := zZ1_fr z (by rw [zhm_row (by omega)]) (by rw [zhm_row (by omega)]) (by rw [zhm_row (by omega)]) (by rw [zhm_row (by omega)]) (by rw [zhm_row (by omega)]) (zhm_row (by omega))
set_option maxRecDepth 100000 in
set_option maxHeartbeats 4000000 in
theorem k_X4_pass {l : Launch} {E : zE} {n h : Nat} {μ : zM} {fan : Int} (hn : zAt zp4 n) (hh : zAt zp2 h) (hd : h + 22 ≤ n ∨ n + 78 ≤ h) (ok : zOK (zHV μ h)) (hfan : 0 ≤ fan ∧ fan ≤ 100) (hE : zEr (zHV μ h) fan μ (n + 15)) : Ct l E yX4_pass cX4_pass 4 none ({ frames := 3, cells := 0, slots := 0, locals := 72 }) [zR n, zR h] μ (fun r ν => r = none ∧ zNi (zHV μ h) ν n h (zZt (zHV μ h) fan 40) 40 ∧ zNf n μ ν) := by
  refine Ct.of RX4 [zR n, zR h, zU, zU] (by decide +kernel) rfl ⟨rfl, rfl⟩ rfl (Nat.le_of_ble_eq_true rfl) (fun X hX hc0 ha0 => ?_)
  subst hX
  obtain ⟨nb, nf, nd, npp, ns, nr⟩ := zOK_n ok
  have pc3 : zHV μ h 3 3 = μ (h + 5) 6 := rfl
  have hN : h < 420 := zl_lt (hh.at 0 rfl) (by decide)
  have nN : n < 420 := zl_lt (hn.at 0 rfl) (by decide)
  have hnp : ∀ ξ, zNf n μ ξ → ξ n 8 = ((h + 5 : Nat) : Int) → ξ n 9 = ((h + 12 : Nat) : Int) → zNp (zHV μ h) fan ξ n h := fun ξ f a b => ⟨a, b, zHV_fr (a := n) (n := 78) (fun c hc => f c (by omega)) (by omega), zEr_fr hE ok (fun c c0 c1 => f c (by omega))⟩
  have LO : ∀ (k : Nat) (t : Nat) (ξ : zM), (t : Int) ≤ 40 → zNi (zHV μ h) ξ n h (zZt (zHV μ h) fan t) (t : Int) → zNf n μ ξ → 40 - (t : Int) < k → MW X E cX4_pass RX4 ({ frames := 3, cells := 0, slots := 0, locals := 72 }) none (fun r ν => r = none ∧ zNi (zHV μ h) ν n h (zZt (zHV μ h) fan 40) 40 ∧ zNf n μ ν) 58 [zR n, zR h, zI (t : Int), zU] [] ξ := by
    intro k
    induction k with
    | zero => intro t ξ ht1 hni hf h4; omega
    | succ k ih =>
      intro t ξ ht1 hni hf h4
      refine z_iload_2 dX4_pass_58 ?_
      refine z_bipush dX4_pass_59 (by decide) ?_
      refine z_icmpge (tgt := 126) dX4_pass_61 (by decide) (fun h_61 => ?_) (fun h_61 => ?_)
      · exact z_vret dX4_pass_126 (⟨rfl, (by obtain rfl : t = 40 := (by omega); exact hni), hf⟩)
      · have hI1 : ∀ x, 0 ≤ x → x < zHV μ h 3 3 → zZi (zHV μ h) (t : Int) (zZc (zHV μ h) (t : Int) (zZt (zHV μ h) fan t)) x := fun x x0 x1 => zZc_i (zZt_i (ok.2.1.2 x x0 x1).2.1.1 t) (ok.2.1.2 x x0 x1).2.1.1
        refine z_aload_0 dX4_pass_64 ?_
        refine z_iload_2 dX4_pass_65 ?_
        refine z_callV1 (k_X4_comeAndGo (S := zZt (zHV μ h) fan t) (t := (t : Int)) hn hh hd ok (hnp ξ hf hni.2.1 hni.2.2) (fun x x0 x1 => (hni.1 x x0 x1).1)) m_X4_comeAndGo (hn.at 0 rfl) l_X4_64 (Nat.le_of_ble_eq_true rfl) ⟨Nat.le_of_ble_eq_true rfl, Nat.le_of_ble_eq_true rfl⟩ ⟨rfl, rfl⟩ dX4_pass_66 (fun r μ1 hp => ?_)
        obtain ⟨rfl, hb1, hzc, hk1, hr1⟩ := hp
        obtain ⟨ζ1, hζ9⟩ : ∃ z, z = μ1 := ⟨_, rfl⟩
        subst hζ9
        have hf1 : zNf n μ ζ1 := fun a ha => (hr1 a (by omega) (by omega) (by omega)).trans (hf a ha)
        have h81 : ζ1 n 8 = ((h + 5 : Nat) : Int) := (hk1 8 (by decide)).trans hni.2.1
        have h91 : ζ1 n 9 = ((h + 12 : Nat) : Int) := (hk1 9 (by decide)).trans hni.2.2
        refine z_aload_0 dX4_pass_69 ?_
        refine z_iload_2 dX4_pass_70 ?_
        refine z_callV1 (k_X4_lookRound (S := (zZc (zHV μ h) (t : Int) (zZt (zHV μ h) fan t))) (t := (t : Int)) hn hh hd ok (hnp ζ1 hf1 h81 h91) (by omega) (by omega) hzc hI1) m_X4_lookRound (hn.at 0 rfl) l_X4_68 (Nat.le_of_ble_eq_true rfl) ⟨Nat.le_of_ble_eq_true rfl, Nat.le_of_ble_eq_true rfl⟩ ⟨rfl, rfl⟩ dX4_pass_71 (fun r μ1 hp => ?_)
        obtain ⟨rfl, hb2, hb3, hk2, hr2⟩ := hp
        obtain ⟨ζ2, hζ9⟩ : ∃ z, z = μ1 := ⟨_, rfl⟩
        subst hζ9
        have hf2 : zNf n μ ζ2 := fun a ha => (hr2 a (by omega)).trans (hf1 a ha)
        have LI : ∀ (k : Nat) (s : Nat) (ζ : zM), (s : Int) ≤ μ (h + 5) 6 → zBt (ζ n 10) (zHV μ h 3 3).toNat (zWa (zHV μ h) (t : Int)) → zBt (ζ n 11) (zHV μ h 3 3).toNat (fun s => (zZc (zHV μ h) (t : Int) (zZt (zHV μ h) fan t)) 0 s = 1) → zBt (ζ n 12) (zHV μ h 3 3).toNat (zSn (zZc (zHV μ h) (t : Int) (zZt (zHV μ h) fan t)) (t : Int)) → (∀ x : Int, 0 ≤ x → x < s → zZ1 ζ n (zZl (zHV μ h) fan (t : Int) (zZc (zHV μ h) (t : Int) (zZt (zHV μ h) fan t))) x ∧ zZd ζ n (zZl (zHV μ h) fan (t : Int) (zZc (zHV μ h) (t : Int) (zZt (zHV μ h) fan t))) x ((t : Int) + 1)) → (∀ x : Int, s ≤ x → x < μ (h + 5) 6 → zZ1 ζ n (zZc (zHV μ h) (t : Int) (zZt (zHV μ h) fan t)) x ∧ zZd ζ n (zZc (zHV μ h) (t : Int) (zZt (zHV μ h) fan t)) x (t : Int)) → ζ n 8 = ((h + 5 : Nat) : Int) → ζ n 9 = ((h + 12 : Nat) : Int) → zNf n μ ζ → μ (h + 5) 6 - s < k → MW X E cX4_pass RX4 ({ frames := 3, cells := 0, slots := 0, locals := 72 }) none (fun r ν => r = none ∧ zNi (zHV μ h) ν n h (zZt (zHV μ h) fan 40) 40 ∧ zNf n μ ν) 76 [zR n, zR h, zI (t : Int), zI (s : Int)] [] ζ := by
          intro k
          induction k with
          | zero => intro s ζ hs1 hb1 hb2 hb3 hz1 hz2 h8 h9 hf h3; omega
          | succ k ih2 =>
            intro s ζ hs1 hb1 hb2 hb3 hz1 hz2 h8 h9 hf h3
            have hc6 : ζ (h + 5) 6 = μ (h + 5) 6 := by rw [hf (h + 5) (by omega)]
            refine z_iload_3 dX4_pass_76 ?_
            refine z_aload_0 dX4_pass_77 ?_
            refine z_getM 8 rfl (h + 5) f_X4_45 (hn.at 0 rfl) rfl h8 dX4_pass_78 ?_
            refine z_getI 6 rfl f_X4_60 (hh.at 5 rfl) rfl dX4_pass_81 ?_
            refine z_icmpge (tgt := 120) dX4_pass_84 (by decide) (fun h_84 => ?_) (fun h_84 => ?_)
            · refine z_iinc_2 rfl dX4_pass_120 (by omega) ?_
              refine z_goto (tgt := 58) dX4_pass_123 (by decide) ?_
              refine z_weak (ls' := [zR n, zR h, zI ((t + 1 : Nat) : Int), zU]) ⟨Or.inl rfl, Or.inl rfl, Or.inl rfl, Or.inr rfl, trivial⟩ (ih (t + 1) ζ (by omega) ⟨fun x x0 x1 => by rw [zZt_s]; exact hz1 x x0 (by omega), h8, h9⟩ hf (by omega))
            · have s1 : (s : Int) < μ (h + 5) 6 := by omega
              have pp := ok.2.1.2 (s : Int) (by omega) s1
              obtain ⟨zs, zd⟩ := hz2 s (by omega) s1
              have zi := hI1 s (by omega) s1
              have zi2 := zZl_i (fan := fan) zi (by omega) pp.2.1.1
              have g0 := zs.1
              have w4 := zi.2.2.2.2.2
              have w3 := zi.2.2.2.2.1
              have np1 := hnp ζ hf h8 h9
              refine z_aload_0 dX4_pass_87 ?_
              refine z_getF (n + 62) 62 rfl f_X4_33 (hn.at 0 rfl) rfl rfl dX4_pass_88 ?_
              refine z_iload_3 dX4_pass_91 ?_
              refine z_iald (hn.at 62 rfl) (by omega) (by omega) dX4_pass_92 ?_
              rw [g0]
              refine z_ifeq (tgt := 108) dX4_pass_93 (by decide) (fun h_93 => ?_) (fun h_93 => ?_)
              · refine z_aload_0 dX4_pass_108 ?_
                refine z_iload_3 dX4_pass_109 ?_
                refine z_iload_2 dX4_pass_110 ?_
                refine z_callV2 (k_X4_note (T := zZm (zHV μ h) fan (t : Int) (zZc (zHV μ h) (t : Int) (zZt (zHV μ h) fan t))) hn (by omega) (by omega) (by omega) (by omega) (zZm_n zs (fun q => by have := q.1; omega) (by omega) (by omega)) ⟨by show 0 ≤ (zZc (zHV μ h) (t : Int) (zZt (zHV μ h) fan t)) 3 (s : Int); omega, by show (zZc (zHV μ h) (t : Int) (zZt (zHV μ h) fan t)) 3 (s : Int) ≤ 100; omega⟩ (fun q => by have := zi2.2.2.2.1 q; exact ⟨this.1, Int.le_trans this.2 (by omega)⟩)) m_X4_note (hn.at 0 rfl) l_X4_78 (Nat.le_of_ble_eq_true rfl) ⟨Nat.le_of_ble_eq_true rfl, Nat.le_of_ble_eq_true rfl⟩ ⟨rfl, rfl⟩ dX4_pass_111 (fun r μ1 hp => ?_)
                obtain ⟨rfl, hno⟩ := hp
                obtain ⟨ζ4, hζ9⟩ : ∃ z, z = μ1 := ⟨_, rfl⟩
                subst hζ9
                refine z_iinc_3 rfl dX4_pass_114 (by omega) ?_
                refine z_goto (tgt := 76) dX4_pass_117 (by decide) ?_
                have hss : zSs n (s : Int) ζ ζ4 := zSs_n hno
                have hnn := zZ_note (by omega) (by omega) (by omega) (by omega) (zZm_n zs (fun q => by have := q.1; omega) (by omega) (by omega)) zd hno
                refine ih2 (s + 1) ζ4 (by omega) (by rw [hss.1 10 (by decide) (by decide)]; exact hb1) (by rw [hss.1 11 (by decide) (by decide)]; exact hb2) (by rw [hss.1 12 (by decide) (by decide)]; exact hb3) (fun x x0 x1 => ?_) (fun x x0 x1 => ⟨zSs_1 hss (by omega) (by omega) (by omega) (by omega) (by omega) (hz2 x (by omega) x1).1, zSs_d hss (by omega) (by omega) (by omega) (by omega) (by omega) (hz2 x (by omega) x1).2⟩) (by rw [hss.1 8 (by decide) (by decide)]; exact h8) (by rw [hss.1 9 (by decide) (by decide)]; exact h9) (fun a ha => (zSs_f hss (by omega) (by omega) ha).trans (hf a ha)) (by omega)
                by_cases q : x = s
                · subst q; exact hnn
                · exact ⟨zSs_1 hss (by omega) (by omega) x0 (by omega) q (hz1 x x0 (by omega)).1, zSs_d hss (by omega) (by omega) x0 (by omega) q (hz1 x x0 (by omega)).2⟩
              · refine z_aload_0 dX4_pass_96 ?_
                refine z_iload_3 dX4_pass_97 ?_
                refine z_iload_2 dX4_pass_98 ?_
                refine z_callV2 (k_X4_listen (S := (zZc (zHV μ h) (t : Int) (zZt (zHV μ h) fan t))) hn hh hd ok np1 (by omega) s1 (zi.2.1 (by omega)) (by omega) (by omega) hb1 hb2 hb3 (fun y y0 y1 q => (hI1 y y0 y1).2.1 (by rw [q.1]; decide))) m_X4_listen (hn.at 0 rfl) l_X4_71 (Nat.le_of_ble_eq_true rfl) ⟨Nat.le_of_ble_eq_true rfl, Nat.le_of_ble_eq_true rfl⟩ ⟨rfl, rfl⟩ dX4_pass_99 (fun r μ1 hp => ?_)
                obtain ⟨rfl, rfl⟩ := hp
                refine z_aload_0 dX4_pass_102 ?_
                refine z_iload_3 dX4_pass_103 ?_
                refine z_iload_2 dX4_pass_104 ?_
                refine z_callV2 (k_X4_stir (S := (zZc (zHV μ h) (t : Int) (zZt (zHV μ h) fan t))) (fan := fan) hn hh hd ok (zNp_h np1 ok hd) (by omega) s1 (by omega) (by omega) hfan zhm_13 zhm_14 (zSs_0 zs) zi (by omega)) m_X4_stir (hn.at 0 rfl) l_X4_75 (Nat.le_of_ble_eq_true rfl) ⟨Nat.le_of_ble_eq_true rfl, Nat.le_of_ble_eq_true rfl⟩ ⟨rfl, rfl⟩ dX4_pass_105 (fun r μ1 hp => ?_)
                obtain ⟨rfl, hst⟩ := hp
                obtain ⟨ζ3, hζ9⟩ : ∃ z, z = μ1 := ⟨_, rfl⟩
                subst hζ9
                refine z_aload_0 dX4_pass_108 ?_
                refine z_iload_3 dX4_pass_109 ?_
                refine z_iload_2 dX4_pass_110 ?_
                refine z_callV2 (k_X4_note (T := zZm (zHV μ h) fan (t : Int) (zZc (zHV μ h) (t : Int) (zZt (zHV μ h) fan t))) hn (by omega) (by omega) (by omega) (by omega) hst.1 ⟨by show 0 ≤ (zZc (zHV μ h) (t : Int) (zZt (zHV μ h) fan t)) 3 (s : Int); omega, by show (zZc (zHV μ h) (t : Int) (zZt (zHV μ h) fan t)) 3 (s : Int) ≤ 100; omega⟩ (fun q => by have := zi2.2.2.2.1 q; exact ⟨this.1, Int.le_trans this.2 (by omega)⟩)) m_X4_note (hn.at 0 rfl) l_X4_78 (Nat.le_of_ble_eq_true rfl) ⟨Nat.le_of_ble_eq_true rfl, Nat.le_of_ble_eq_true rfl⟩ ⟨rfl, rfl⟩ dX4_pass_111 (fun r μ1 hp => ?_)
                obtain ⟨rfl, hno⟩ := hp
                obtain ⟨ζ4, hζ9⟩ : ∃ z, z = μ1 := ⟨_, rfl⟩
                subst hζ9
                refine z_iinc_3 rfl dX4_pass_114 (by omega) ?_
                refine z_goto (tgt := 76) dX4_pass_117 (by decide) ?_
                have hss : zSs n (s : Int) ζ ζ4 := zSs_t zSs_h (zSs_t (zSs_s hst) (zSs_n hno))
                have hnn := zZ_note (by omega) (by omega) (by omega) (by omega) hst.1 (fun k k0 k1 => by rw [hst.2 _ _ (by omega) (fun c => by omega), zhm_row (by omega)]; exact zd k k0 k1) hno
                refine ih2 (s + 1) ζ4 (by omega) (by rw [hss.1 10 (by decide) (by decide)]; exact hb1) (by rw [hss.1 11 (by decide) (by decide)]; exact hb2) (by rw [hss.1 12 (by decide) (by decide)]; exact hb3) (fun x x0 x1 => ?_) (fun x x0 x1 => ⟨zSs_1 hss (by omega) (by omega) (by omega) (by omega) (by omega) (hz2 x (by omega) x1).1, zSs_d hss (by omega) (by omega) (by omega) (by omega) (by omega) (hz2 x (by omega) x1).2⟩) (by rw [hss.1 8 (by decide) (by decide)]; exact h8) (by rw [hss.1 9 (by decide) (by decide)]; exact h9) (fun a ha => (zSs_f hss (by omega) (by omega) ha).trans (hf a ha)) (by omega)
                by_cases q : x = s
                · subst q; exact hnn
                · exact ⟨zSs_1 hss (by omega) (by omega) x0 (by omega) q (hz1 x x0 (by omega)).1, zSs_d hss (by omega) (by omega) x0 (by omega) q (hz1 x x0 (by omega)).2⟩
        refine z_iconst dX4_pass_74 (by decide) ?_
        refine z_istore_3 rfl dX4_pass_75 ?_
        exact LI 9 0 ζ2 (by omega) (by rw [hk2 10 (by decide) (by decide)]; exact hb1) hb2 hb3 (fun x x0 x1 => by omega) (fun x x0 x1 => ⟨zZ1_fr (hzc x (by omega) x1) (by rw [hr2 _ (by omega)]) (by rw [hr2 _ (by omega)]) (by rw [hr2 _ (by omega)]) (by rw [hr2 _ (by omega)]) (by rw [hr2 _ (by omega)]) (hr2 _ (by omega)), fun y y0 y1 => by rw [hr2 _ (by omega), hr1 _ (by omega) (by omega) (by omega), zZc_11]; exact (hni.1 x (by omega) x1).2 y y0 y1⟩) ((hk2 8 (by decide) (by decide)).trans h81) ((hk2 9 (by decide) (by decide)).trans h91) hf2 (by omega)
  have LF : ∀ (k : Nat) (s : Nat) (ξ : zM), (s : Int) ≤ μ (h + 5) 6 → (∀ x : Int, 0 ≤ x → x < s → ξ (n + 62) x = 0 ∧ ξ (n + 1) x = 0 ∧ ξ (n + 2) x = 0) → ξ n 8 = ((h + 5 : Nat) : Int) → ξ n 9 = ((h + 12 : Nat) : Int) → zNf n μ ξ → μ (h + 5) 6 - s < k → MW X E cX4_pass RX4 ({ frames := 3, cells := 0, slots := 0, locals := 72 }) none (fun r ν => r = none ∧ zNi (zHV μ h) ν n h (zZt (zHV μ h) fan 40) 40 ∧ zNf n μ ν) 18 [zR n, zR h, zI (s : Int), zU] [] ξ := by
    intro k
    induction k with
    | zero => intro s ξ hs1 hz h8 h9 hf h3; omega
    | succ k ih =>
      intro s ξ hs1 hz h8 h9 hf h3
      have hc6 : ξ (h + 5) 6 = μ (h + 5) 6 := by rw [hf (h + 5) (by omega)]
      refine z_iload_2 dX4_pass_18 ?_
      refine z_aload_0 dX4_pass_19 ?_
      refine z_getM 8 rfl (h + 5) f_X4_45 (hn.at 0 rfl) rfl (by first | exact h8 | ((repeat (first | rw [zup_eq] | rw [zup_row (by omega)] | rw [zup_ne (Or.inr (by omega))])); exact h8)) dX4_pass_20 ?_
      refine z_getI 6 rfl f_X4_60 (hh.at 5 rfl) rfl dX4_pass_23 ?_
      refine z_icmpge (tgt := 56) dX4_pass_26 (by decide) (fun h_26 => ?_) (fun h_26 => ?_)
      · refine z_iconst dX4_pass_56 (by decide) ?_
        refine z_istore_2 rfl dX4_pass_57 ?_
        refine z_weak (ls' := [zR n, zR h, zI ((0 : Nat) : Int), zU]) ⟨Or.inl rfl, Or.inl rfl, Or.inl rfl, Or.inr rfl, trivial⟩ ?_
        exact LO 41 0 ξ (by decide) ⟨fun x x0 x1 => ⟨⟨(hz x x0 (by omega)).1, (hz x x0 (by omega)).2.1, (hz x x0 (by omega)).2.2, fun q => absurd q (by show ¬ ((0 : Int) = 2); decide), fun q => absurd q (by show ¬ ((0 : Int) = 1); decide), fun k k0 k1 => by have k1 : k < 0 := k1; omega⟩, fun k k0 k1 => by omega⟩, h8, h9⟩ hf (by decide)
      · refine z_aload_0 dX4_pass_29 ?_
        refine z_getF (n + 62) 62 rfl f_X4_33 (hn.at 0 rfl) rfl rfl dX4_pass_30 ?_
        refine z_iload_2 dX4_pass_33 ?_
        refine z_iconst dX4_pass_34 (by decide) ?_
        refine z_iast (hn.at 62 rfl) (by omega) (by omega) dX4_pass_35 ?_
        refine z_aload_0 dX4_pass_36 ?_
        refine z_getF (n + 1) 1 rfl f_X4_9 (hn.at 0 rfl) rfl rfl dX4_pass_37 ?_
        refine z_iload_2 dX4_pass_40 ?_
        refine z_iconst dX4_pass_41 (by decide) ?_
        refine z_iast (hn.at 1 rfl) (by omega) (by omega) dX4_pass_42 ?_
        refine z_aload_0 dX4_pass_43 ?_
        refine z_getF (n + 2) 2 rfl f_X4_15 (hn.at 0 rfl) rfl rfl dX4_pass_44 ?_
        refine z_iload_2 dX4_pass_47 ?_
        refine z_iconst dX4_pass_48 (by decide) ?_
        refine z_iast (hn.at 2 rfl) (by omega) (by omega) dX4_pass_49 ?_
        refine z_iinc_2 rfl dX4_pass_50 (by omega) ?_
        refine z_goto (tgt := 18) dX4_pass_53 (by decide) ?_
        refine ih (s + 1) _ (by omega) (fun x x0 x1 => ?_) (by (repeat (first | rw [zup_eq] | rw [zup_row (by omega)] | rw [zup_ne (Or.inr (by omega))])); exact h8) (by (repeat (first | rw [zup_eq] | rw [zup_row (by omega)] | rw [zup_ne (Or.inr (by omega))])); exact h9) (fun a ha => by (repeat (first | rw [zup_eq] | rw [zup_row (by omega)] | rw [zup_ne (Or.inr (by omega))])); exact hf a ha) (by omega)
        by_cases q : x = s
        · subst q; exact ⟨by (repeat (first | rw [zup_eq] | rw [zup_row (by omega)] | rw [zup_ne (Or.inr (by omega))])), by (repeat (first | rw [zup_eq] | rw [zup_row (by omega)] | rw [zup_ne (Or.inr (by omega))])), by (repeat (first | rw [zup_eq] | rw [zup_row (by omega)] | rw [zup_ne (Or.inr (by omega))]))⟩
        · have := hz x x0 (by omega); exact ⟨by (repeat (first | rw [zup_eq] | rw [zup_row (by omega)] | rw [zup_ne (Or.inr (by omega))])); exact this.1, by (repeat (first | rw [zup_eq] | rw [zup_row (by omega)] | rw [zup_ne (Or.inr (by omega))])); exact this.2.1, by (repeat (first | rw [zup_eq] | rw [zup_row (by omega)] | rw [zup_ne (Or.inr (by omega))])); exact this.2.2⟩
  refine z_aload_0 dX4_pass_0 ?_
  refine z_aload_1 dX4_pass_1 ?_
  refine z_getF (h + 5) 5 rfl f_X4_56 (hh.at 0 rfl) rfl rfl dX4_pass_2 ?_
  refine z_putR 8 rfl (by omega) f_X4_45 p_4_8 (hn.at 0 rfl) rfl rfl dX4_pass_5 ?_
  refine z_aload_0 dX4_pass_8 ?_
  refine z_aload_1 dX4_pass_9 ?_
  refine z_getF (h + 12) 12 rfl f_X4_59 (hh.at 0 rfl) rfl rfl dX4_pass_10 ?_
  refine z_putR 9 rfl (by omega) f_X4_52 p_4_9 (hn.at 0 rfl) rfl rfl dX4_pass_13 ?_
  refine z_iconst dX4_pass_16 (by decide) ?_
  refine z_istore_2 rfl dX4_pass_17 ?_
  exact LF 9 0 _ (by omega) (fun x x0 x1 => by omega) (by (repeat (first | rw [zup_eq] | rw [zup_row (by omega)] | rw [zup_ne (Or.inr (by omega))]))) (by (repeat (first | rw [zup_eq] | rw [zup_row (by omega)] | rw [zup_ne (Or.inr (by omega))]))) (fun a ha => by (repeat (first | rw [zup_eq] | rw [zup_row (by omega)] | rw [zup_ne (Or.inr (by omega))]))) (by omega)
