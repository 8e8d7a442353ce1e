theorem zZ1_cg {μ : zM} {n : Nat} {S T : zM} {s : Int} (h : zZ1 μ n S s) (e0 : T 0 s = S 0 s) (e1 : S 0 s = 2 → T 1 s = S 1 s) (e2 : S 0 s = 1 → T 2 s = S 2 s) (e3 : T 3 s = S 3 s) (e4 : T 4 s = S 4 s) (e5 : ∀ k, 0 ≤ k → k < S 4 s → T 10 (40 * s + k) = S 10 (40 * s + k)) : zZ1 μ n T s := by
  obtain ⟨h0, h1, h2, h3, h4, h5⟩ := h
  refine ⟨h0.trans e0.symm, h1.trans e3.symm, h2.trans e4.symm, fun q => ?_, fun q => ?_, fun k k0 k1 => ?_⟩
  · rw [e0] at q; rw [h3 q, e1 q]
  · rw [e0] at q; rw [h4 q, e2 q]
  · rw [e4] at k1; rw [h5 k k0 k1, e5 k k0 k1]
theorem zZ1_fr {μ ν : zM} {n : Nat} {S : zM} {s : Int} (h : zZ1 μ n S s) (f0 : ν (n + 62) s = μ (n + 62) s) (f1 : ν (n + 1) s = μ (n + 1) s) (f2 : ν (n + 2) s = μ (n + 2) s) (f3 : ν (n + 63) s = μ (n + 63) s) (f4 : ν (n + 64) s = μ (n + 64) s) (f5 : ν (n + 4 + s.toNat) = μ (n + 4 + s.toNat)) : zZ1 ν n S s := by
  unfold zZ1
  rw [f0, f1, f2, f3, f4, f5]
  exact h
set_option maxRecDepth 100000 in
set_option maxHeartbeats 4000000 in
theorem k_X4_comeAndGo {l : Launch} {E : zE} {S : zM} {t : Int} {n h : Nat} {μ : zM} {V : zM} {fan : Int} (hn : zAt zp4 n) (hh : zAt zp2 h) (hd : h + 22 ≤ n ∨ n + 78 ≤ h) (ok : zOK V) (np : zNp V fan μ n h) (hZ : ∀ s, 0 ≤ s → s < V 3 3 → zZ1 μ n S s) : Ct l E yX4_comeAndGo cX4_comeAndGo 3 none ({ frames := 0, cells := 0, slots := 0, locals := 0 }) [zR n, zI t] μ (fun r ν => r = none ∧ zBt (ν n 10) (V 3 3).toNat (zWa V t) ∧ (∀ s, 0 ≤ s → s < V 3 3 → zZ1 ν n (zZc V t S) s) ∧ (∀ k, k ≠ 10 → ν n k = μ n k) ∧ ∀ a, a ≠ n → a ≠ n + 62 → a ≠ n + 64 → ν a = μ a) := by
  refine Ct.of RX4 [zR n, zI t, zU] (by decide +kernel) rfl ⟨rfl, rfl⟩ rfl (Nat.le_of_ble_eq_true rfl) (fun X hX hc0 ha0 => ?_)
  subst hX
  have np0 := np
  obtain ⟨h8, h9, rfl, hE⟩ := np
  obtain ⟨nb, nf, nd, npp, ns, nr⟩ := zOK_n ok
  have pc3 : zHV μ h 3 3 = μ (h + 5) 6 := rfl
  have hN : h < 420 := zl_lt (hh.at 0 rfl) (by decide)
  have nN : n < 420 := zl_lt (hn.at 0 rfl) (by decide)
  have L : ∀ (k : Nat) (s : Nat) (ξ : zM), (s : Int) ≤ μ (h + 5) 6 → zBt (ξ n 10) s (zWa (zHV μ h) t) → (∀ x : Int, 0 ≤ x → x < s → zZ1 ξ n (zZc (zHV μ h) t S) x) → (∀ x : Int, s ≤ x → x < μ (h + 5) 6 → zZ1 ξ n S x) → (∀ k, k ≠ 10 → ξ n k = μ n k) → (∀ a, a ≠ n → a ≠ n + 62 → a ≠ n + 64 → ξ a = μ a) → μ (h + 5) 6 - s < k → MW X E cX4_comeAndGo RX4 ({ frames := 0, cells := 0, slots := 0, locals := 0 }) none (fun r ν => r = none ∧ zBt (ν n 10) (zHV μ h 3 3).toNat (zWa (zHV μ h) t) ∧ (∀ s, 0 ≤ s → s < zHV μ h 3 3 → zZ1 ν n (zZc (zHV μ h) t S) s) ∧ (∀ k, k ≠ 10 → ν n k = μ n k) ∧ ∀ a, a ≠ n → a ≠ n + 62 → a ≠ n + 64 → ν a = μ a) 7 [zR n, zI t, zI (s : Int)] [] ξ := by
    intro k
    induction k with
    | zero => intro s ξ hs1 hb hz1 hz2 hk hr h3; omega
    | succ k ih =>
      intro s ξ hs1 hb hz1 hz2 hk hr h3
      have h8 : ξ n 8 = ((h + 5 : Nat) : Int) := by rw [hk 8 (by decide)]; exact h8
      have hc6 : ξ (h + 5) 6 = μ (h + 5) 6 := by rw [hr (h + 5) (by omega) (by omega) (by omega)]
      refine z_iload_2 dX4_comeAndGo_7 ?_
      refine z_aload_0 dX4_comeAndGo_8 ?_
      refine z_getM 8 rfl (h + 5) f_X4_45 (hn.at 0 rfl) rfl h8 dX4_comeAndGo_9 ?_
      refine z_getI 6 rfl f_X4_60 (hh.at 5 rfl) rfl dX4_comeAndGo_12 ?_
      refine z_icmpge (tgt := 114) dX4_comeAndGo_15 (by decide) (fun h_15 => ?_) (fun h_15 => ?_)
      · exact z_vret dX4_comeAndGo_114 (⟨rfl, by rw [show (zHV μ h 3 3).toNat = s by show (μ (h + 5) 6).toNat = s; omega]; exact hb, fun x x0 x1 => hz1 x x0 (by have : zHV μ h 3 3 = μ (h + 5) 6 := rfl; omega), hk, hr⟩)
      · have s1 : (s : Int) < μ (h + 5) 6 := by omega
        have e6 : ξ (h + 8) (s : Int) = zHV μ h 6 s := by rw [zHV_6 (by omega) s1, hr (h + 8) (by omega) (by omega) (by omega)]
        have e7 : ξ (h + 9) (s : Int) = zHV μ h 7 s := by rw [zHV_7 (by omega) s1, hr (h + 9) (by omega) (by omega) (by omega)]
        have e9 : ξ (h + 11) (s : Int) = zHV μ h 9 s := by rw [zHV_9 (by omega) s1, hr (h + 11) (by omega) (by omega) (by omega)]
        have ps := ok.2.1.2 (s : Int) (by omega) s1
        have zs := hz2 s (by omega) s1
        refine z_aload_0 dX4_comeAndGo_18 ?_
        refine z_getM 8 rfl (h + 5) f_X4_45 (hn.at 0 rfl) rfl h8 dX4_comeAndGo_19 ?_
        refine z_getF (h + 11) 6 rfl f_X4_84 (hh.at 5 rfl) rfl rfl dX4_comeAndGo_22 ?_
        refine z_iload_2 dX4_comeAndGo_25 ?_
        refine z_iald (hh.at 11 rfl) (by omega) (by omega) dX4_comeAndGo_26 ?_
        rw [e9]
        refine z_iconst dX4_comeAndGo_27 (by decide) ?_
        refine z_icmpne (tgt := 34) dX4_comeAndGo_28 (by decide) (fun h_28 => ?_) (fun h_28 => ?_)
        · refine z_aload_0 dX4_comeAndGo_34 ?_
          refine z_getM 8 rfl (h + 5) f_X4_45 (hn.at 0 rfl) rfl h8 dX4_comeAndGo_35 ?_
          refine z_getF (h + 8) 3 rfl f_X4_87 (hh.at 5 rfl) rfl rfl dX4_comeAndGo_38 ?_
          refine z_iload_2 dX4_comeAndGo_41 ?_
          refine z_iald (hh.at 8 rfl) (by omega) (by omega) dX4_comeAndGo_42 ?_
          rw [e6]
          refine z_iload_1 dX4_comeAndGo_43 ?_
          refine z_icmpne (tgt := 76) dX4_comeAndGo_44 (by decide) (fun h_44 => ?_) (fun h_44 => ?_)
          · refine z_aload_0 dX4_comeAndGo_76 ?_
            refine z_getM 8 rfl (h + 5) f_X4_45 (hn.at 0 rfl) rfl h8 dX4_comeAndGo_77 ?_
            refine z_getF (h + 9) 4 rfl f_X4_90 (hh.at 5 rfl) rfl rfl dX4_comeAndGo_80 ?_
            refine z_iload_2 dX4_comeAndGo_83 ?_
            refine z_iald (hh.at 9 rfl) (by omega) (by omega) dX4_comeAndGo_84 ?_
            rw [e7]
            refine z_iload_1 dX4_comeAndGo_85 ?_
            refine z_icmpne (tgt := 108) dX4_comeAndGo_86 (by decide) (fun h_86 => ?_) (fun h_86 => ?_)
            · refine z_iinc_2 rfl dX4_comeAndGo_108 (by omega) ?_
              refine z_goto (tgt := 7) dX4_comeAndGo_111 (by decide) ?_
              have nw : ¬ zWa (zHV μ h) t (s : Int) := fun z => z.2.elim h_44 h_86
              refine z_weak (ls' := [zR n, zI t, zI ((s + 1 : Nat) : Int)]) ⟨Or.inl rfl, Or.inl rfl, Or.inl rfl, trivial⟩ ?_
              refine ih (s + 1) ξ (by omega) (zBt_n hb (by omega) nw) (fun x x0 x1 => ?_) (fun x x0 x1 => hz2 x (by omega) x1) hk hr (by omega)
              by_cases q : x = s
              · subst q
                have q1 : ¬ (zHV μ h 9 (s : Int) ≠ -1 ∧ zHV μ h 6 (s : Int) = t) := fun z => nw ⟨z.1, Or.inl z.2⟩
                have q2 : ¬ (zHV μ h 9 (s : Int) ≠ -1 ∧ zHV μ h 7 (s : Int) = t) := fun z => nw ⟨z.1, Or.inr z.2⟩
                exact zZ1_cg zs (by rw [zZc_0, zif_f q1, zif_f q2]) (fun _ => rfl) (fun _ => by rw [zZc_2, zif_f q1]) rfl rfl (fun _ _ _ => rfl)
              · exact hz1 x x0 (by omega)
            · refine z_aload_0 dX4_comeAndGo_89 ?_
              refine z_dup dX4_comeAndGo_90 rfl ?_
              refine z_getI 10 rfl f_X4_81 (hn.at 0 rfl) rfl dX4_comeAndGo_91 ?_
              refine z_iconst dX4_comeAndGo_94 (by decide) ?_
              refine z_iload_2 dX4_comeAndGo_95 ?_
              refine z_ishl dX4_comeAndGo_96 ?_
              refine z_ior dX4_comeAndGo_97 ?_
              refine z_putI 10 rfl f_X4_81 p_4_10 (hn.at 0 rfl) rfl rfl dX4_comeAndGo_98 ?_
              refine z_aload_0 dX4_comeAndGo_101 ?_
              refine z_getF (n + 62) 62 rfl f_X4_33 (hn.at 0 rfl) rfl rfl dX4_comeAndGo_102 ?_
              refine z_iload_2 dX4_comeAndGo_105 ?_
              refine z_iconst dX4_comeAndGo_106 (by decide) ?_
              refine z_iast (hn.at 62 rfl) (by omega) (by omega) dX4_comeAndGo_107 ?_
              refine z_iinc_2 rfl dX4_comeAndGo_108 (by omega) ?_
              refine z_goto (tgt := 7) dX4_comeAndGo_111 (by decide) ?_
              have nw : zWa (zHV μ h) t (s : Int) := ⟨h_28, Or.inr h_86⟩
              generalize hζ : zup (zup ξ n 10 (zor (ξ n 10) (zshl 1 (s : Int)))) (n + 62) (s : Int) 0 = ζ
              replace hζ := hζ.symm
              refine z_weak (ls' := [zR n, zI t, zI ((s + 1 : Nat) : Int)]) ⟨Or.inl rfl, Or.inl rfl, Or.inl rfl, trivial⟩ ?_
              have hfr : ∀ x : Int, x < μ (h + 5) 6 → x ≠ (s : Int) → ∀ T, zZ1 ξ n T x → zZ1 ζ n T x := fun x xl xs T z => zZ1_fr z (by rw [hζ]; (repeat (first | rw [zup_eq] | rw [zup_row (by omega)] | rw [zup_ne (Or.inr (by omega))]))) (by rw [hζ]; (repeat (first | rw [zup_eq] | rw [zup_row (by omega)] | rw [zup_ne (Or.inr (by omega))]))) (by rw [hζ]; (repeat (first | rw [zup_eq] | rw [zup_row (by omega)] | rw [zup_ne (Or.inr (by omega))]))) (by rw [hζ]; (repeat (first | rw [zup_eq] | rw [zup_row (by omega)] | rw [zup_ne (Or.inr (by omega))]))) (by rw [hζ]; (repeat (first | rw [zup_eq] | rw [zup_row (by omega)] | rw [zup_ne (Or.inr (by omega))]))) (by rw [hζ]; (repeat (first | rw [zup_eq] | rw [zup_row (by omega)] | rw [zup_ne (Or.inr (by omega))])))
              refine ih (s + 1) ζ (by omega) (by rw [show ζ n 10 = zor (ξ n 10) (zshl 1 (s : Int)) by rw [hζ]; (repeat (first | rw [zup_eq] | rw [zup_row (by omega)] | rw [zup_ne (Or.inr (by omega))]))]; exact zBt_s hb (by omega) nw) (fun x x0 x1 => ?_) (fun x x0 x1 => hfr x x1 (by omega) _ (hz2 x (by omega) x1)) (fun k k1 => by rw [← hk k k1, hζ]; (repeat (first | rw [zup_eq] | rw [zup_row (by omega)] | rw [zup_ne (Or.inr (by omega))]))) (fun a a0 a1 a2 => by rw [← hr a a0 a1 a2, hζ]; (repeat (first | rw [zup_eq] | rw [zup_row (by omega)] | rw [zup_ne (Or.inr (by omega))]))) (by omega)
              by_cases q : x = s
              · subst q
                obtain ⟨g0, g1, g2, g3, g4, g5⟩ := zs
                have q1 : ¬ (zHV μ h 9 (s : Int) ≠ -1 ∧ zHV μ h 6 (s : Int) = t) := fun z => h_44 z.2
                have q2 : zHV μ h 9 (s : Int) ≠ -1 ∧ zHV μ h 7 (s : Int) = t := ⟨h_28, h_86⟩
                refine ⟨by rw [zZc_0, zif_f q1, zif_t q2, hζ]; (repeat (first | rw [zup_eq] | rw [zup_row (by omega)] | rw [zup_ne (Or.inr (by omega))])), by rw [zZc_3, ← g1, hζ]; (repeat (first | rw [zup_eq] | rw [zup_row (by omega)] | rw [zup_ne (Or.inr (by omega))])), by rw [zZc_4, ← g2, hζ]; (repeat (first | rw [zup_eq] | rw [zup_row (by omega)] | rw [zup_ne (Or.inr (by omega))])), fun z => absurd z (by rw [zZc_0, zif_f q1, zif_t q2]; decide), fun z => absurd z (by rw [zZc_0, zif_f q1, zif_t q2]; decide), fun k k0 k1 => by rw [zZc_10, ← g5 k k0 k1, hζ]; (repeat (first | rw [zup_eq] | rw [zup_row (by omega)] | rw [zup_ne (Or.inr (by omega))]))⟩
              · exact hfr x (by omega) q _ (hz1 x x0 (by omega))
          · refine z_aload_0 dX4_comeAndGo_47 ?_
            refine z_dup dX4_comeAndGo_48 rfl ?_
            refine z_getI 10 rfl f_X4_81 (hn.at 0 rfl) rfl dX4_comeAndGo_49 ?_
            refine z_iconst dX4_comeAndGo_52 (by decide) ?_
            refine z_iload_2 dX4_comeAndGo_53 ?_
            refine z_ishl dX4_comeAndGo_54 ?_
            refine z_ior dX4_comeAndGo_55 ?_
            refine z_putI 10 rfl f_X4_81 p_4_10 (hn.at 0 rfl) rfl rfl dX4_comeAndGo_56 ?_
            refine z_aload_0 dX4_comeAndGo_59 ?_
            refine z_getF (n + 62) 62 rfl f_X4_33 (hn.at 0 rfl) rfl rfl dX4_comeAndGo_60 ?_
            refine z_iload_2 dX4_comeAndGo_63 ?_
            refine z_iconst dX4_comeAndGo_64 (by decide) ?_
            refine z_iast (hn.at 62 rfl) (by omega) (by omega) dX4_comeAndGo_65 ?_
            refine z_aload_0 dX4_comeAndGo_66 ?_
            refine z_getF (n + 64) 64 rfl f_X4_39 (hn.at 0 rfl) rfl rfl dX4_comeAndGo_67 ?_
            refine z_iload_2 dX4_comeAndGo_70 ?_
            refine z_iconst dX4_comeAndGo_71 (by decide) ?_
            refine z_iast (hn.at 64 rfl) (by omega) (by omega) dX4_comeAndGo_72 ?_
            refine z_goto (tgt := 108) dX4_comeAndGo_73 (by decide) ?_
            refine z_iinc_2 rfl dX4_comeAndGo_108 (by omega) ?_
            refine z_goto (tgt := 7) dX4_comeAndGo_111 (by decide) ?_
            have nw : zWa (zHV μ h) t (s : Int) := ⟨h_28, Or.inl h_44⟩
            generalize hζ : zup (zup (zup ξ n 10 (zor (ξ n 10) (zshl 1 (s : Int)))) (n + 62) (s : Int) 1) (n + 64) (s : Int) 0 = ζ
            replace hζ := hζ.symm
            refine z_weak (ls' := [zR n, zI t, zI ((s + 1 : Nat) : Int)]) ⟨Or.inl rfl, Or.inl rfl, Or.inl rfl, trivial⟩ ?_
            have hfr : ∀ x : Int, x < μ (h + 5) 6 → x ≠ (s : Int) → ∀ T, zZ1 ξ n T x → zZ1 ζ n T x := fun x xl xs T z => zZ1_fr z (by rw [hζ]; (repeat (first | rw [zup_eq] | rw [zup_row (by omega)] | rw [zup_ne (Or.inr (by omega))]))) (by rw [hζ]; (repeat (first | rw [zup_eq] | rw [zup_row (by omega)] | rw [zup_ne (Or.inr (by omega))]))) (by rw [hζ]; (repeat (first | rw [zup_eq] | rw [zup_row (by omega)] | rw [zup_ne (Or.inr (by omega))]))) (by rw [hζ]; (repeat (first | rw [zup_eq] | rw [zup_row (by omega)] | rw [zup_ne (Or.inr (by omega))]))) (by rw [hζ]; (repeat (first | rw [zup_eq] | rw [zup_row (by omega)] | rw [zup_ne (Or.inr (by omega))]))) (by rw [hζ]; (repeat (first | rw [zup_eq] | rw [zup_row (by omega)] | rw [zup_ne (Or.inr (by omega))])))
            refine ih (s + 1) ζ (by omega) (by rw [show ζ n 10 = zor (ξ n 10) (zshl 1 (s : Int)) by rw [hζ]; (repeat (first | rw [zup_eq] | rw [zup_row (by omega)] | rw [zup_ne (Or.inr (by omega))]))]; exact zBt_s hb (by omega) nw) (fun x x0 x1 => ?_) (fun x x0 x1 => hfr x x1 (by omega) _ (hz2 x (by omega) x1)) (fun k k1 => by rw [← hk k k1, hζ]; (repeat (first | rw [zup_eq] | rw [zup_row (by omega)] | rw [zup_ne (Or.inr (by omega))]))) (fun a a0 a1 a2 => by rw [← hr a a0 a1 a2, hζ]; (repeat (first | rw [zup_eq] | rw [zup_row (by omega)] | rw [zup_ne (Or.inr (by omega))]))) (by omega)
            by_cases q : x = s
            · subst q
              obtain ⟨g0, g1, g2, g3, g4, g5⟩ := zs
              have q1 : zHV μ h 9 (s : Int) ≠ -1 ∧ zHV μ h 6 (s : Int) = t := ⟨h_28, h_44⟩
              refine ⟨by rw [zZc_0, zif_t q1, hζ]; (repeat (first | rw [zup_eq] | rw [zup_row (by omega)] | rw [zup_ne (Or.inr (by omega))])), by rw [zZc_3, ← g1, hζ]; (repeat (first | rw [zup_eq] | rw [zup_row (by omega)] | rw [zup_ne (Or.inr (by omega))])), by rw [zZc_4, ← g2, hζ]; (repeat (first | rw [zup_eq] | rw [zup_row (by omega)] | rw [zup_ne (Or.inr (by omega))])), fun z => absurd z (by rw [zZc_0, zif_t q1]; decide), fun _ => by rw [zZc_2, zif_t q1, hζ]; (repeat (first | rw [zup_eq] | rw [zup_row (by omega)] | rw [zup_ne (Or.inr (by omega))])), fun k k0 k1 => by rw [zZc_10, ← g5 k k0 k1, hζ]; (repeat (first | rw [zup_eq] | rw [zup_row (by omega)] | rw [zup_ne (Or.inr (by omega))]))⟩
            · exact hfr x (by omega) q _ (hz1 x x0 (by omega))
        · refine z_goto (tgt := 108) dX4_comeAndGo_31 (by decide) ?_
          refine z_iinc_2 rfl dX4_comeAndGo_108 (by omega) ?_
          refine z_goto (tgt := 7) dX4_comeAndGo_111 (by decide) ?_
          have nw : ¬ zWa (zHV μ h) t (s : Int) := fun z => z.1 (by omega)
          refine z_weak (ls' := [zR n, zI t, zI ((s + 1 : Nat) : Int)]) ⟨Or.inl rfl, Or.inl rfl, Or.inl rfl, trivial⟩ ?_
          refine ih (s + 1) ξ (by omega) (zBt_n hb (by omega) nw) (fun x x0 x1 => ?_) (fun x x0 x1 => hz2 x (by omega) x1) hk hr (by omega)
          by_cases q : x = s
          · subst q
            have q1 : ¬ (zHV μ h 9 (s : Int) ≠ -1 ∧ zHV μ h 6 (s : Int) = t) := fun z => nw ⟨z.1, Or.inl z.2⟩
            have q2 : ¬ (zHV μ h 9 (s : Int) ≠ -1 ∧ zHV μ h 7 (s : Int) = t) := fun z => nw ⟨z.1, Or.inr z.2⟩
            exact zZ1_cg zs (by rw [zZc_0, zif_f q1, zif_f q2]) (fun _ => rfl) (fun _ => by rw [zZc_2, zif_f q1]) rfl rfl (fun _ _ _ => rfl)
          · exact hz1 x x0 (by omega)
  refine z_aload_0 dX4_comeAndGo_0 ?_
  refine z_iconst dX4_comeAndGo_1 (by decide) ?_
  refine z_putI 10 rfl f_X4_81 p_4_10 (hn.at 0 rfl) rfl rfl dX4_comeAndGo_2 ?_
  refine z_iconst dX4_comeAndGo_5 (by decide) ?_
  refine z_istore_2 rfl dX4_comeAndGo_6 ?_
  exact L 9 0 _ (by omega) (by rw [zup_eq]; exact zBt_0) (fun x x0 x1 => by omega) (fun x x0 x1 => zZ1_fr (hZ x (by omega) x1) (by (repeat (first | rw [zup_eq] | rw [zup_row (by omega)] | rw [zup_ne (Or.inr (by omega))]))) (by (repeat (first | rw [zup_eq] | rw [zup_row (by omega)] | rw [zup_ne (Or.inr (by omega))]))) (by (repeat (first | rw [zup_eq] | rw [zup_row (by omega)] | rw [zup_ne (Or.inr (by omega))]))) (by (repeat (first | rw [zup_eq] | rw [zup_row (by omega)] | rw [zup_ne (Or.inr (by omega))]))) (by (repeat (first | rw [zup_eq] | rw [zup_row (by omega)] | rw [zup_ne (Or.inr (by omega))]))) (by (repeat (first | rw [zup_eq] | rw [zup_row (by omega)] | rw [zup_ne (Or.inr (by omega))])))) (fun k k1 => by (repeat (first | rw [zup_eq] | rw [zup_row (by omega)] | rw [zup_ne (Or.inr (by omega))]))) (fun a a0 a1 a2 => by (repeat (first | rw [zup_eq] | rw [zup_row (by omega)] | rw [zup_ne (Or.inr (by omega))]))) (by omega)
set_option maxRecDepth 100000 in
set_option maxHeartbeats 4000000 in
theorem k_X4_lookRound {l : Launch} {E : zE} {S : zM} {t : Int} {n h : Nat} {μ : zM} {V : zM} {fan : Int} (hn : zAt zp4 n) (hh : zAt zp2 h) (hd : h + 22 ≤ n ∨ n + 78 ≤ h) (ok : zOK V) (np : zNp V fan μ n h) (t0 : 0 ≤ t) (t1 : t < 40) (hZ : ∀ s, 0 ≤ s → s < V 3 3 → zZ1 μ n S s) (hI : ∀ s, 0 ≤ s → s < V 3 3 → zZi V t S s) : Ct l E yX4_lookRound cX4_lookRound 3 none ({ frames := 2, cells := 0, slots := 0, locals := 44 }) [zR n, zI t] μ (fun r ν => r = none ∧ zBt (ν n 11) (V 3 3).toNat (fun s => S 0 s = 1) ∧ zBt (ν n 12) (V 3 3).toNat (zSn S t) ∧ (∀ k, k ≠ 11 → k ≠ 12 → ν n k = μ n k) ∧ ∀ a, a ≠ n → ν a = μ a) := by
  refine Ct.of RX4 [zR n, zI t, zU] (by decide +kernel) rfl ⟨rfl, rfl⟩ rfl (Nat.le_of_ble_eq_true rfl) (fun X hX hc0 ha0 => ?_)
  subst hX
  have np0 := np
  obtain ⟨h8, h9, rfl, hE⟩ := np
  obtain ⟨nb, nf, nd, npp, ns, nr⟩ := zOK_n ok
  have pc3 : zHV μ h 3 3 = μ (h + 5) 6 := rfl
  have hN : h < 420 := zl_lt (hh.at 0 rfl) (by decide)
  have nN : n < 420 := zl_lt (hn.at 0 rfl) (by decide)
  have L : ∀ (k : Nat) (s : Nat) (ξ : zM), (s : Int) ≤ μ (h + 5) 6 → zBt (ξ n 11) s (fun s => S 0 s = 1) → zBt (ξ n 12) s (zSn S t) → (∀ k, k ≠ 11 → k ≠ 12 → ξ n k = μ n k) → (∀ a, a ≠ n → ξ a = μ a) → μ (h + 5) 6 - s < k → MW X E cX4_lookRound RX4 ({ frames := 2, cells := 0, slots := 0, locals := 44 }) none (fun r ν => r = none ∧ zBt (ν n 11) (zHV μ h 3 3).toNat (fun s => S 0 s = 1) ∧ zBt (ν n 12) (zHV μ h 3 3).toNat (zSn S t) ∧ (∀ k, k ≠ 11 → k ≠ 12 → ν n k = μ n k) ∧ ∀ a, a ≠ n → ν a = μ a) 12 [zR n, zI t, zI (s : Int)] [] ξ := by
    intro k
    induction k with
    | zero => intro s ξ hs1 hb1 hb2 hk hr h3; omega
    | succ k ih =>
      intro s ξ hs1 hb1 hb2 hk hr h3
      have h8 : ξ n 8 = ((h + 5 : Nat) : Int) := by rw [hk 8 (by decide) (by decide)]; exact h8
      have hc6 : ξ (h + 5) 6 = μ (h + 5) 6 := by rw [hr (h + 5) (by omega)]
      refine z_iload_2 dX4_lookRound_12 ?_
      refine z_aload_0 dX4_lookRound_13 ?_
      refine z_getM 8 rfl (h + 5) f_X4_45 (hn.at 0 rfl) rfl h8 dX4_lookRound_14 ?_
      refine z_getI 6 rfl f_X4_60 (hh.at 5 rfl) rfl dX4_lookRound_17 ?_
      refine z_icmpge (tgt := 90) dX4_lookRound_20 (by decide) (fun h_20 => ?_) (fun h_20 => ?_)
      · exact z_vret dX4_lookRound_90 (⟨rfl, by rw [show (zHV μ h 3 3).toNat = s by show (μ (h + 5) 6).toNat = s; omega]; exact hb1, by rw [show (zHV μ h 3 3).toNat = s by show (μ (h + 5) 6).toNat = s; omega]; exact hb2, hk, hr⟩)
      · have s1 : (s : Int) < μ (h + 5) 6 := by omega
        have zs := hZ s (by omega) s1
        have zi := hI s (by omega) s1
        have e0 : ξ (n + 62) (s : Int) = S 0 s := by rw [hr (n + 62) (by omega)]; exact zs.1
        refine z_aload_0 dX4_lookRound_23 ?_
        refine z_getF (n + 62) 62 rfl f_X4_33 (hn.at 0 rfl) rfl rfl dX4_lookRound_24 ?_
        refine z_iload_2 dX4_lookRound_27 ?_
        refine z_iald (hn.at 62 rfl) (by omega) (by omega) dX4_lookRound_28 ?_
        rw [e0]
        refine z_iconst dX4_lookRound_29 (by decide) ?_
        refine z_icmpne (tgt := 48) dX4_lookRound_30 (by decide) (fun h_30 => ?_) (fun h_30 => ?_)
        · refine z_aload_0 dX4_lookRound_48 ?_
          refine z_getF (n + 62) 62 rfl f_X4_33 (hn.at 0 rfl) rfl rfl dX4_lookRound_49 ?_
          refine z_iload_2 dX4_lookRound_52 ?_
          refine z_iald (hn.at 62 rfl) (by omega) (by omega) dX4_lookRound_53 ?_
          rw [e0]
          refine z_iconst dX4_lookRound_54 (by decide) ?_
          refine z_icmpne (tgt := 84) dX4_lookRound_55 (by decide) (fun h_55 => ?_) (fun h_55 => ?_)
          · refine z_iinc_2 rfl dX4_lookRound_84 (by omega) ?_
            refine z_goto (tgt := 12) dX4_lookRound_87 (by decide) ?_
            have b1 := zBt_n hb1 (by omega) (show ¬ (S 0 (s : Int) = 1) by omega)
            have b2 := zBt_n hb2 (by omega) (show ¬ zSn S t (s : Int) from fun q => h_55 q.1)
            refine z_weak (ls' := [zR n, zI t, zI ((s + 1 : Nat) : Int)]) ⟨Or.inl rfl, Or.inl rfl, Or.inl rfl, trivial⟩ ?_
            exact ih (s + 1) ξ (by omega) (by skip; exact b1) (by skip; exact b2) (fun k k1 k2 => by skip; exact hk k k1 k2) (fun a a1 => by skip; exact hr a a1) (by omega)
          · have e1 : ξ (n + 63) (s : Int) = S 1 s := by rw [hr (n + 63) (by omega)]; exact zs.2.2.2.1 h_55
            have z1 := zi.2.2.2.1 h_55
            refine z_aload_0 dX4_lookRound_58 ?_
            refine z_getF (n + 63) 63 rfl f_X4_36 (hn.at 0 rfl) rfl rfl dX4_lookRound_59 ?_
            refine z_iload_2 dX4_lookRound_62 ?_
            refine z_iald (hn.at 63 rfl) (by omega) (by omega) dX4_lookRound_63 ?_
            rw [e1]
            refine z_iload_1 dX4_lookRound_64 ?_
            refine z_callN2 (k_X11_deep ⟨by omega, by omega⟩ ⟨by omega, by omega⟩) m_X11_deep n_X4_99 (Nat.le_of_ble_eq_true rfl) ⟨Nat.le_of_ble_eq_true rfl, Nat.le_of_ble_eq_true rfl⟩ ⟨rfl, rfl⟩ dX4_lookRound_65 (fun r μ1 hp => ?_)
            obtain ⟨rfl, hv⟩ := hp
            replace hv := hv.symm
            subst hv
            refine z_iconst dX4_lookRound_68 (by decide) ?_
            refine z_icmplt (tgt := 84) dX4_lookRound_69 (by decide) (fun h_69 => ?_) (fun h_69 => ?_)
            · refine z_iinc_2 rfl dX4_lookRound_84 (by omega) ?_
              refine z_goto (tgt := 12) dX4_lookRound_87 (by decide) ?_
              have b1 := zBt_n hb1 (by omega) (show ¬ (S 0 (s : Int) = 1) by omega)
              have b2 := zBt_n hb2 (by omega) (show ¬ zSn S t (s : Int) from fun q => by have := q.2; omega)
              refine z_weak (ls' := [zR n, zI t, zI ((s + 1 : Nat) : Int)]) ⟨Or.inl rfl, Or.inl rfl, Or.inl rfl, trivial⟩ ?_
              exact ih (s + 1) ξ (by omega) (by skip; exact b1) (by skip; exact b2) (fun k k1 k2 => by skip; exact hk k k1 k2) (fun a a1 => by skip; exact hr a a1) (by omega)
            · refine z_aload_0 dX4_lookRound_72 ?_
              refine z_dup dX4_lookRound_73 rfl ?_
              refine z_getI 12 rfl f_X4_96 (hn.at 0 rfl) rfl dX4_lookRound_74 ?_
              refine z_iconst dX4_lookRound_77 (by decide) ?_
              refine z_iload_2 dX4_lookRound_78 ?_
              refine z_ishl dX4_lookRound_79 ?_
              refine z_ior dX4_lookRound_80 ?_
              refine z_putI 12 rfl f_X4_96 p_4_12 (hn.at 0 rfl) rfl rfl dX4_lookRound_81 ?_
              refine z_iinc_2 rfl dX4_lookRound_84 (by omega) ?_
              refine z_goto (tgt := 12) dX4_lookRound_87 (by decide) ?_
              have b1 := zBt_n hb1 (by omega) (show ¬ (S 0 (s : Int) = 1) by omega)
              have b2 := zBt_s hb2 (by omega) (show zSn S t (s : Int) from ⟨h_55, by omega⟩)
              refine z_weak (ls' := [zR n, zI t, zI ((s + 1 : Nat) : Int)]) ⟨Or.inl rfl, Or.inl rfl, Or.inl rfl, trivial⟩ ?_
              exact ih (s + 1) _ (by omega) (by (repeat (first | rw [zup_eq] | rw [zup_row (by omega)] | rw [zup_ne (Or.inr (by omega))])); exact b1) (by (repeat (first | rw [zup_eq] | rw [zup_row (by omega)] | rw [zup_ne (Or.inr (by omega))])); exact b2) (fun k k1 k2 => by (repeat (first | rw [zup_eq] | rw [zup_row (by omega)] | rw [zup_ne (Or.inr (by omega))])); exact hk k k1 k2) (fun a a1 => by (repeat (first | rw [zup_eq] | rw [zup_row (by omega)] | rw [zup_ne (Or.inr (by omega))])); exact hr a a1) (by omega)
        · refine z_aload_0 dX4_lookRound_33 ?_
          refine z_dup dX4_lookRound_34 rfl ?_
          refine z_getI 11 rfl f_X4_93 (hn.at 0 rfl) rfl dX4_lookRound_35 ?_
          refine z_iconst dX4_lookRound_38 (by decide) ?_
          refine z_iload_2 dX4_lookRound_39 ?_
          refine z_ishl dX4_lookRound_40 ?_
          refine z_ior dX4_lookRound_41 ?_
          refine z_putI 11 rfl f_X4_93 p_4_11 (hn.at 0 rfl) rfl rfl dX4_lookRound_42 ?_
          refine z_goto (tgt := 84) dX4_lookRound_45 (by decide) ?_
          refine z_iinc_2 rfl dX4_lookRound_84 (by omega) ?_
          refine z_goto (tgt := 12) dX4_lookRound_87 (by decide) ?_
          have b1 := zBt_s hb1 (by omega) (show S 0 (s : Int) = 1 from h_30)
          have b2 := zBt_n hb2 (by omega) (show ¬ zSn S t (s : Int) from fun q => by have := q.1; omega)
          refine z_weak (ls' := [zR n, zI t, zI ((s + 1 : Nat) : Int)]) ⟨Or.inl rfl, Or.inl rfl, Or.inl rfl, trivial⟩ ?_
          exact ih (s + 1) _ (by omega) (by (repeat (first | rw [zup_eq] | rw [zup_row (by omega)] | rw [zup_ne (Or.inr (by omega))])); exact b1) (by (repeat (first | rw [zup_eq] | rw [zup_row (by omega)] | rw [zup_ne (Or.inr (by omega))])); exact b2) (fun k k1 k2 => by (repeat (first | rw [zup_eq] | rw [zup_row (by omega)] | rw [zup_ne (Or.inr (by omega))])); exact hk k k1 k2) (fun a a1 => by (repeat (first | rw [zup_eq] | rw [zup_row (by omega)] | rw [zup_ne (Or.inr (by omega))])); exact hr a a1) (by omega)
  refine z_aload_0 dX4_lookRound_0 ?_
  refine z_iconst dX4_lookRound_1 (by decide) ?_
  refine z_putI 11 rfl f_X4_93 p_4_11 (hn.at 0 rfl) rfl rfl dX4_lookRound_2 ?_
  refine z_aload_0 dX4_lookRound_5 ?_
  refine z_iconst dX4_lookRound_6 (by decide) ?_
  refine z_putI 12 rfl f_X4_96 p_4_12 (hn.at 0 rfl) rfl rfl dX4_lookRound_7 ?_
  refine z_iconst dX4_lookRound_10 (by decide) ?_
  refine z_istore_2 rfl dX4_lookRound_11 ?_
  exact L 9 0 _ (by omega) (by (repeat (first | rw [zup_eq] | rw [zup_row (by omega)] | rw [zup_ne (Or.inr (by omega))])); exact zBt_0) (by (repeat (first | rw [zup_eq] | rw [zup_row (by omega)] | rw [zup_ne (Or.inr (by omega))])); exact zBt_0) (fun k k1 k2 => by (repeat (first | rw [zup_eq] | rw [zup_row (by omega)] | rw [zup_ne (Or.inr (by omega))]))) (fun a a1 => by (repeat (first | rw [zup_eq] | rw [zup_row (by omega)] | rw [zup_ne (Or.inr (by omega))]))) (by omega)
