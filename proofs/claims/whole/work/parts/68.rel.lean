theorem zHe_k {V W : zM} (h : zHe V) (h3 : W 3 3 = V 3 3) (h4 : W 4 = V 4) : zHe W := fun i i0 i1 => by
  rw [h4]; rw [h3] at i1; exact h i i0 i1
theorem zHe_i {Q : Prop} {a y : Int × zM} (ha : zHe a.2) (hy : zHe y.2) : zHe (zif Q a y).2 := zif_i (p := fun z : Int × zM => zHe z.2) (fun _ => ha) (fun _ => hy)
theorem spW_he {V : zM} {c s : Int} (h : zHe V) : zHe (spW V c s).2 := zHe_i h (zHe_i h (zHe_k h (by dsimp only; rw [zup_row (by decide)]) (by dsimp only; rw [zup_row (by decide)])))
theorem spC_he {V : zM} {c k : Int} (h : zHe V) : zHe (spC V c k).2 := zHe_i h (zHe_k h (by dsimp only; rw [zup_row (by decide)]) (by dsimp only; rw [zup_row (by decide)]))
theorem spF_he {V : zM} {v : Int} (h : zHe V) : zHe (spF V v).2 := zHe_i h (zHe_k h (by dsimp only; rw [zup_ne (Or.inr (by decide))]) (by dsimp only; rw [zup_row (by decide)]))
theorem spD_he {V : zM} {v : Int} (h : zHe V) : zHe (spD V v).2 := zHe_i h (zHe_k h (by dsimp only; rw [zup_ne (Or.inr (by decide))]) (by dsimp only; rw [zup_row (by decide)]))
theorem spP_he {V : zM} {w v : Int} (h : zHe V) : zHe (spP V w v).2 := by
  unfold spP
  split
  · exact spF_he h
  · split
    · exact spD_he h
    · exact h
theorem spB_he {V : zM} {c : Int} (h : zHe V) : zHe (spB V c).2 := zHe_i h (zHe_i h (zHe_k h (by dsimp only; rw [zup_ne (Or.inr (by decide)), zup_row (by decide)]) (by dsimp only; rw [zup_row (by decide), zup_row (by decide)])))
theorem spS_he {V : zM} {a b c d e : Int} (h : zHe V) : zHe (spS V a b c d e).2 := by
  unfold spS
  refine zif_i (p := fun z : Int × zM => zHe z.2) (fun _ => h) (fun q => zHe_i h (fun i i0 i1 => ?_))
  have hb : 1 ≤ a ∧ a ≤ 60 := Classical.not_not.mp (fun z => q (Or.inl z))
  simp only [] at i1 ⊢
  rw [zup_eq] at i1
  rw [zup_row (by decide), zup_row (by decide), zup_row (by decide), zup_row (by decide), zup_row (by decide), zup_row (by decide)]
  by_cases e : i = V 3 3
  · rw [e, zup_eq]; exact hb.2
  · rw [zup_ne (Or.inr e)]; exact h i i0 (by omega)
theorem spL_he {V : zM} {s b : Int} (h : zHe V) : zHe (spL V s b).2 := zHe_i h (zHe_i h (zHe_k h (by dsimp only; rw [zup_row (by decide)]) (by dsimp only; rw [zup_row (by decide)])))
theorem spN_he {V : zM} {k x a b v : Int} (h : zHe V) : zHe (spN V k x a b v).2 := zHe_i h (zHe_i h (zHe_k h (by dsimp only; rw [zup_ne (Or.inr (by decide))]; (repeat (rw [zup_row (by decide)]))) (by dsimp only; repeat (rw [zup_row (by decide)]))))
theorem spR_he {V : zM} {s b m : Int} (h : zHe V) : zHe (spR V s b m).2 := zHe_i h (zHe_i h (zHe_k h (by dsimp only; rw [zup_ne (Or.inr (by decide))]; (repeat (rw [zup_row (by decide)]))) (by dsimp only; repeat (rw [zup_row (by decide)]))))
theorem spX_he {V : zM} (h : zHe V) : zHe (spX V).2 := zHe_i h (zHe_k h (by show zdropS V 3 3 = V 3 3; unfold zdropS; rw [if_neg (by omega), if_neg (by omega)]) (by funext i; show zdropS V 4 i = V 4 i; unfold zdropS; rw [if_neg (by omega), if_neg (by omega)]))
theorem zfree_he {V : zM} (h : zHe V) : zHe (zfree V) := zHe_k h rfl rfl
theorem spT_he {V : zM} {w : Int} {f : Int → Int} (h : zHe V) : zHe (spT V w f).2 := by
  unfold spT
  repeat' split
  · exact spW_he h
  · exact spC_he h
  · exact spF_he h
  · exact spD_he h
  · exact spB_he h
  · exact spS_he h
  · exact spL_he h
  · exact spN_he h
theorem zV0_he : zHe zV0 := fun i i0 (i1 : i < 0) => by omega
theorem zTS_he {t : Int → Int} {n : Int} : ∀ j : Nat, zHe (zTS t n j)
  | 0 => zV0_he
  | j + 1 => by rw [zTS_s]; exact spT_he (zTS_he j)
theorem zHo_ok {t : Int → Int} {n r : Int} {V W : zM} (h : zHo t n r V W) (ok : zOK V) (he : zHe V) : zOK W ∧ zHe W := by
  obtain ⟨k, f, a, ⟨b, c, d⟩ | ⟨b, m, c, ⟨d, e, g⟩ | ⟨d, e, g⟩⟩⟩ := h
  · rw [d]; exact ⟨ok, he⟩
  · rw [g]; exact ⟨zTS_ok k, zTS_he k⟩
  · rw [g]; exact ⟨ok, he⟩
/-- the i-th image of the reference -/
def zIg9 (μ : zM) (i : Int) : Int → Int := fun k => μ 395 (172 * i + k)
def zRel (N : Int) (μ : zM) : Prop :=
  (zHV μ 1 = zBV (μ 394) ∧ zOK (zBV (μ 394)) ∧ zHe (zBV (μ 394)) ∧ μ 394 0 = zsum (zBV (μ 394) 0) 36) ∧
  (μ 110 = μ 399 ∧ μ 47 0 = μ 393 9 ∧ 0 ≤ μ 393 9 ∧ μ 393 9 ≤ 300) ∧
  (μ 0 11 = μ 393 5 ∧ μ 0 12 = μ 393 6) ∧
  (∀ j, 0 ≤ j → j < 3 → μ 348 j = μ 398 j ∧ 0 ≤ μ 398 j ∧ μ 398 j ≤ N) ∧
  (μ 393 7 = 0 ∧ μ 393 18 = 0) ∧
  (μ 46 = μ 396 ∧ ∀ i, 0 ≤ i → i ≤ 1 → μ 396 i = 1 → zHV μ (zIm i) = zBV (zIg9 μ i) ∧ zOK (zBV (zIg9 μ i)) ∧ zHe (zBV (zIg9 μ i)) ∧ zIg9 μ i 0 = zsum (zBV (zIg9 μ i) 0) 36)
theorem zRel_x {N : Int} {μ : zM} (h : zRel N μ) (hN : N ≤ 100000) : zXpre μ := ⟨by rw [h.1.1]; exact h.1.2.1, fun j j0 j1 => by have := h.2.2.2.1 j j0 j1; omega⟩
theorem zRel_m {N : Int} {μ : zM} (h : zRel N μ) (hN : N ≤ 100000) : zMpre μ := ⟨h.1.2.1, h.1.2.2.2, fun j j0 j1 => by have := h.2.2.2.1 j j0 j1; omega, Or.inl h.2.2.2.2.1.1⟩
/-- what a call of the class leaves: the house's picture V, its refusals counted up by d; no text, fraction or image is changed -/
def zSX (V : zM) (d : Int → Int) (μ ν : zM) : Prop := zHV ν 1 = V ∧ ν 110 = μ 110 ∧ ν 47 0 = μ 47 0 ∧ ν 0 11 = μ 0 11 ∧ ν 0 12 = μ 0 12 ∧ (∀ j, 0 ≤ j → j < 3 → ν 348 j = μ 348 j + d j) ∧ ν 46 = μ 46 ∧ (∀ i, 0 ≤ i → i ≤ 1 → zHV ν (zIm i) = zHV μ (zIm i)) ∧ ∀ a : Nat, 393 ≤ a → ν a = μ a
/-- and one of the reference -/
def zSM (V : zM) (d : Int → Int) (μ ν : zM) : Prop := (zBV (ν 394) = V ∧ ν 394 0 = zsum (V 0) 36) ∧ ν 399 = μ 399 ∧ ν 393 9 = μ 393 9 ∧ ν 393 5 = μ 393 5 ∧ ν 393 6 = μ 393 6 ∧ (∀ j, 0 ≤ j → j < 3 → ν 398 j = μ 398 j + d j) ∧ (ν 393 7 = μ 393 7 ∧ ν 393 18 = μ 393 18) ∧ ν 396 = μ 396 ∧ ν 395 = μ 395 ∧ ∀ a : Nat, a < 393 → ν a = μ a
theorem zHV_lo {μ ν : zM} {h : Nat} (hh : h + 22 ≤ 393) (q : ∀ a : Nat, a < 393 → ν a = μ a) : zHV ν h = zHV μ h := by
  unfold zHV
  rw [q (h + 1) (by omega), q (h + 2) (by omega), q (h + 3) (by omega), q (h + 4) (by omega), q (h + 5) (by omega), q (h + 6) (by omega), q (h + 7) (by omega), q (h + 8) (by omega), q (h + 9) (by omega), q (h + 10) (by omega), q (h + 11) (by omega), q (h + 12) (by omega), q (h + 13) (by omega), q (h + 14) (by omega), q (h + 15) (by omega), q (h + 16) (by omega), q (h + 17) (by omega), q (h + 18) (by omega), q (h + 19) (by omega), q (h + 20) (by omega), q (h + 21) (by omega)]
theorem zRel_S {N : Int} {V : zM} {d : Int → Int} {μ ν ξ : zM} (h : zRel N μ) (hx : zSX V d μ ν) (hm : zSM V d ν ξ) (ok : zOK V) (he : zHe V) (hd : ∀ j, 0 ≤ j → j < 3 → 0 ≤ d j ∧ d j ≤ 1) : zRel (N + 1) ξ := by
  obtain ⟨⟨a1, a2, a3, a4⟩, ⟨b1, b2, b3, b4⟩, ⟨c1, c2⟩, e1, ⟨f1, f2⟩, g1, g2⟩ := h
  obtain ⟨x1, x2, x3, x4, x5, x6, x7, x8, x9⟩ := hx
  obtain ⟨⟨m1, m0⟩, m2, m3, m4, m5, m6, ⟨m7, m8⟩, m9, m10, m11⟩ := hm
  have i9 : ∀ i, zIg9 ξ i = zIg9 μ i := fun i => by unfold zIg9; rw [m10, x9 395 (by decide)]
  refine ⟨⟨?_, by rw [m1]; exact ok, by rw [m1]; exact he, by rw [m1]; exact m0⟩, ⟨?_, ?_, ?_, ?_⟩, ⟨?_, ?_⟩, fun j j0 j1 => ?_, ⟨?_, ?_⟩, ?_, fun i i0 i1 hk => ?_⟩
  · rw [zHV_lo (by decide) m11, x1, m1]
  · rw [m11 110 (by decide), x2, b1, m2, x9 399 (by decide)]
  · rw [m11 47 (by decide), x3, b2, m3, x9 393 (by decide)]
  · rw [m3, x9 393 (by decide)]; exact b3
  · rw [m3, x9 393 (by decide)]; exact b4
  · rw [m11 0 (by decide), x4, c1, m4, x9 393 (by decide)]
  · rw [m11 0 (by decide), x5, c2, m5, x9 393 (by decide)]
  · have q := e1 j j0 j1
    have r := hd j j0 j1
    rw [m11 348 (by decide), x6 j j0 j1, m6 j j0 j1, x9 398 (by decide)]
    omega
  · rw [m7, x9 393 (by decide)]; exact f1
  · rw [m8, x9 393 (by decide)]; exact f2
  · rw [m11 46 (by decide), x7, g1, m9, x9 396 (by decide)]
  · rw [m9, x9 396 (by decide)] at hk
    rw [i9]
    have q := g2 i i0 i1 hk
    refine ⟨?_, q.2⟩
    rw [zHV_lo (by unfold zIm; omega) m11, x8 i i0 i1]
    exact q.1
theorem zRk_b {z j : Int} : 0 ≤ zRk 0 z j ∧ zRk 0 z j ≤ 1 := by
  unfold zRk
  split <;> decide
theorem zSX_p {sp : Int × zM} {z : Int} {μ ν : zM} {r : Option zAV} (h : zXp sp z μ r ν) : zSX sp.2 (zRk 0 sp.1) μ ν := by
  obtain ⟨_, a, b, c⟩ := h
  exact ⟨a, c 110 (by decide) (by decide), by rw [c 47 (by decide) (by decide)], by rw [c 0 (by decide) (by decide)], by rw [c 0 (by decide) (by decide)], b, c 46 (by decide) (by decide), fun i i0 i1 => zHV_fr (a := 0) (n := 349) (fun a ha => c a (by omega) (by omega)) (Or.inl (by unfold zIm; omega)), fun a ha => c a (by omega) (by omega)⟩
theorem zSM_p {sp : Int × zM} {z : Int} {μ ν : zM} {r : Option zAV} (hq : μ 393 7 = 0) (h : zMp sp z μ r ν) : zSM sp.2 (zRk 0 sp.1) μ ν := by
  obtain ⟨_, a, b, c, e⟩ := h
  rw [hq] at c
  exact ⟨⟨a, b⟩, e 399 (by decide) (by decide), by rw [e 393 (by decide) (by decide)], by rw [e 393 (by decide) (by decide)], by rw [e 393 (by decide) (by decide)], c, ⟨by rw [e 393 (by decide) (by decide)], by rw [e 393 (by decide) (by decide)]⟩, e 396 (by decide) (by decide), e 395 (by decide) (by decide), fun a ha => e a (by omega) (by omega)⟩
/-- the answers' frames without a refusal -/
theorem zSX_f {μ ν : zM} (h : zXf μ ν) : zSX (zHV μ 1) (fun _ => 0) μ ν := ⟨zHV_fr (a := 23) (n := 325) (fun a ha => h a (by omega)) (Or.inr (by decide)), h 110 (by omega), by rw [h 47 (by omega)], by rw [h 0 (by omega)], by rw [h 0 (by omega)], fun j _ _ => by rw [h 348 (by omega)]; exact (Int.add_zero _).symm, h 46 (by omega), fun i i0 i1 => zHV_fr (a := 23) (n := 325) (fun a ha => h a (by omega)) (Or.inl (by unfold zIm; omega)), fun a ha => h a (by omega)⟩
theorem zSM_f {μ ν : zM} (hs : μ 394 0 = zsum (zBV (μ 394) 0) 36) (h : zMf μ ν) : zSM (zBV (μ 394)) (fun _ => 0) μ ν := ⟨⟨by rw [h.2 394 (by decide) (by omega)], by rw [h.2 394 (by decide) (by omega)]; exact hs⟩, h.2 399 (by decide) (by omega), h.1 9 (by decide) (by decide) (by decide) (by decide) (by decide) (by decide), h.1 5 (by decide) (by decide) (by decide) (by decide) (by decide) (by decide), h.1 6 (by decide) (by decide) (by decide) (by decide) (by decide) (by decide), fun j _ _ => by rw [h.2 398 (by decide) (by omega)]; exact (Int.add_zero _).symm, ⟨h.1 7 (by decide) (by decide) (by decide) (by decide) (by decide) (by decide), h.1 18 (by decide) (by decide) (by decide) (by decide) (by decide) (by decide)⟩, h.2 396 (by decide) (by omega), h.2 395 (by decide) (by omega), fun a ha => h.2 a (by omega) (by omega)⟩
/-- a refusal counted behind them -/
theorem zSX_c {μ ζ : zM} {k : Int} (k0 : 0 ≤ k) (k1 : k < 3) (h : zSX (zHV μ 1) (fun _ => 0) μ ζ) : zSX (zHV μ 1) (zRk 0 (-2 - k)) μ (zCt ζ (-2 - k)) := by
  have e : zCt ζ (-2 - k) = zup ζ 348 k (ζ 348 k + 1) := by
    have := zif_t (P := (-2 - k = -2 ∨ -2 - k = -3 ∨ -2 - k = -4)) (a := zup ζ 348 (-2 - (-2 - k)) (ζ 348 (-2 - (-2 - k)) + 1)) (b := ζ) (by omega)
    rw [show -2 - (-2 - k) = k by omega] at this
    unfold zCt
    rw [show -2 - (-2 - k) = k by omega]
    exact this
  obtain ⟨x1, x2, x3, x4, x5, x6, x7, x8, x9⟩ := h
  rw [e]
  have hf : ∀ a : Nat, a ≠ 348 → (zup ζ 348 k (ζ 348 k + 1)) a = ζ a := fun a ha => zup_row ha
  refine ⟨(zHV_fr (a := 348) (n := 1) (fun a ha => hf a (by omega)) (Or.inr (by decide))).trans x1, by rw [hf 110 (by decide)]; exact x2, by rw [hf 47 (by decide)]; exact x3, by rw [hf 0 (by decide)]; exact x4, by rw [hf 0 (by decide)]; exact x5, fun j j0 j1 => ?_, by rw [hf 46 (by decide)]; exact x7, fun i i0 i1 => (zHV_fr (a := 348) (n := 1) (fun a ha => hf a (by omega)) (Or.inl (by unfold zIm; omega))).trans (x8 i i0 i1), fun a ha => by rw [hf a (by omega)]; exact x9 a ha⟩
  have := x6 j j0 j1
  dsimp only at this
  unfold zRk
  by_cases q : j = k
  · rw [q, zup_eq, if_pos ⟨rfl, rfl⟩]; rw [q] at this; omega
  · rw [zup_ne (Or.inr q), if_neg (by omega)]; omega
theorem zSM_c {μ ζ : zM} {k : Int} {V : zM} (hq : μ 393 7 = 0) (h : zSM V (fun _ => 0) μ ζ) : zSM V (zRk 0 (-2 - k)) μ (zup ζ 398 k (ζ 398 k + zq1 ζ)) := by
  obtain ⟨⟨m1, m0⟩, m2, m3, m4, m5, m6, ⟨m7, m8⟩, m9, m10, m11⟩ := h
  have hf : ∀ a : Nat, a ≠ 398 → (zup ζ 398 k (ζ 398 k + zq1 ζ)) a = ζ a := fun a ha => zup_row ha
  have z1 : zq1 ζ = 1 := if_pos (by rw [m7]; exact hq)
  refine ⟨⟨by rw [hf 394 (by decide)]; exact m1, by rw [hf 394 (by decide)]; exact m0⟩, by rw [hf 399 (by decide)]; exact m2, by rw [hf 393 (by decide)]; exact m3, by rw [hf 393 (by decide)]; exact m4, by rw [hf 393 (by decide)]; exact m5, fun j j0 j1 => ?_, ⟨by rw [hf 393 (by decide)]; exact m7, by rw [hf 393 (by decide)]; exact m8⟩, by rw [hf 396 (by decide)]; exact m9, by rw [hf 395 (by decide)]; exact m10, fun a ha => by rw [hf a (by omega)]; exact m11 a ha⟩
  have := m6 j j0 j1
  dsimp only at this
  unfold zRk
  by_cases q : j = k
  · rw [q, zup_eq, if_pos ⟨rfl, rfl⟩, z1]; rw [q] at this; omega
  · rw [zup_ne (Or.inr q), if_neg (by omega)]; omega
theorem zSX_r {μ : zM} : zSX (zHV μ 1) (fun _ => 0) μ μ := ⟨rfl, rfl, rfl, rfl, rfl, fun _ _ _ => (Int.add_zero _).symm, rfl, fun _ _ _ => rfl, fun _ _ => rfl⟩
theorem zSM_r {μ : zM} (hs : μ 394 0 = zsum (zBV (μ 394) 0) 36) : zSM (zBV (μ 394)) (fun _ => 0) μ μ := ⟨⟨rfl, hs⟩, rfl, rfl, rfl, rfl, fun _ _ _ => (Int.add_zero _).symm, ⟨rfl, rfl⟩, rfl, rfl, fun _ _ => rfl⟩
