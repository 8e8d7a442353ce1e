theorem zRel_w {N : Int} {μ ξ : zM} (h : zRel N μ) (a : zHV ξ 1 = zBV (ξ 394) ∧ zOK (zBV (ξ 394)) ∧ zHe (zBV (ξ 394)) ∧ ξ 394 0 = zsum (zBV (ξ 394) 0) 36) (b : ξ 110 = ξ 399 ∧ ξ 47 0 = ξ 393 9 ∧ 0 ≤ ξ 393 9 ∧ ξ 393 9 ≤ 300) (c : ξ 0 11 = ξ 393 5 ∧ ξ 0 12 = ξ 393 6) (e : ∀ j, 0 ≤ j → j < 3 → ξ 348 j = μ 348 j ∧ ξ 398 j = μ 398 j) (f : ξ 393 7 = 0 ∧ ξ 393 18 = 0) (g : ξ 46 = μ 46 ∧ ξ 396 = μ 396 ∧ ξ 395 = μ 395 ∧ ∀ i, 0 ≤ i → i ≤ 1 → zHV ξ (zIm i) = zHV μ (zIm i)) : zRel (N + 1) ξ := by
  obtain ⟨_, _, _, e1, _, g1, g2⟩ := h
  obtain ⟨q1, q2, q3, q4⟩ := g
  refine ⟨a, b, c, fun j j0 j1 => ?_, f, by rw [q1, q2]; exact g1, fun i i0 i1 hk => ?_⟩
  · have := e1 j j0 j1
    have := e j j0 j1
    omega
  · rw [q2] at hk
    have e9 : zIg9 ξ i = zIg9 μ i := by unfold zIg9; rw [q3]
    rw [e9, q4 i i0 i1]
    exact g2 i i0 i1 hk
theorem zHV_up {μ : zM} {a h : Nat} {k v : Int} (ha : a < h + 1 ∨ h + 22 ≤ a) : zHV (zup μ a k v) h = zHV μ h := by
  have q : ∀ x : Nat, x ≠ a → zup μ a k v x = μ x := fun x hx => zup_row hx
  unfold zHV
  rw [q (h + 1) (by omega), q (h + 2) (by omega), q (h + 3) (by omega), q (h + 4) (by omega), q (h + 5) (by omega), q (h + 6) (by omega), q (h + 7) (by omega), q (h + 8) (by omega), q (h + 9) (by omega), q (h + 10) (by omega), q (h + 11) (by omega), q (h + 12) (by omega), q (h + 13) (by omega), q (h + 14) (by omega), q (h + 15) (by omega), q (h + 16) (by omega), q (h + 17) (by omega), q (h + 18) (by omega), q (h + 19) (by omega), q (h + 20) (by omega), q (h + 21) (by omega)]
theorem pr_digest {N : Int} {μ ν ξ : zM} {r u : Option zAV}  (h : zRel N μ) (hX : r = some (zL (zDg (zHV μ 1) (μ 47 0) (μ 0 11) (μ 0 12))) ∧ ν = μ) (hM : u = some (zL (zDg (zBV (ν 394)) (ν 393 9) (ν 393 5) (ν 393 6))) ∧ ξ = ν) : ∃ z, r = some (zL z) ∧ u = some (zL z) ∧ zRel (N + 1) ξ := by
  obtain ⟨rfl, rfl⟩ := hX
  obtain ⟨rfl, rfl⟩ := hM
  exact ⟨_, rfl, by rw [h.1.1, h.2.1.2.1, h.2.2.1.1, h.2.2.1.2], zRel_up h (by omega)⟩
theorem pr_clear {N : Int} {μ ν ξ : zM} {r u : Option zAV}  (h : zRel N μ) (hX : r = some (zI (μ 47 0)) ∧ ν = zup μ 47 0 0) (hM : u = some (zI (ν 393 9)) ∧ ξ = zup ν 393 9 0) : ∃ z, r = some (zI z) ∧ u = some (zI z) ∧ zRel (N + 1) ξ := by
  obtain ⟨rfl, rfl⟩ := hX
  obtain ⟨rfl, rfl⟩ := hM
  have e9 : zup μ 47 0 0 393 9 = μ 47 0 := by rw [zup_row (by decide)]; exact h.2.1.2.1.symm
  refine ⟨_, rfl, by rw [e9], ?_⟩
  have q : ∀ a : Nat, a ≠ 47 → a ≠ 393 → zup (zup μ 47 0 0) 393 9 0 a = μ a := fun a a1 a2 => by rw [zup_row a2, zup_row a1]
  have q3 : ∀ k, k ≠ 9 → zup (zup μ 47 0 0) 393 9 0 393 k = μ 393 k := fun k hk => by rw [zup_ne (Or.inr hk), zup_row (by decide)]
  refine zRel_w h ?_ ⟨?_, ?_, ?_, ?_⟩ ⟨?_, ?_⟩ (fun j _ _ => ⟨?_, ?_⟩) ⟨?_, ?_⟩ ⟨q 46 (by decide) (by decide), q 396 (by decide) (by decide), q 395 (by decide) (by decide), fun i i0 i1 => ?_⟩
  · rw [zHV_up (Or.inr (by decide)), zHV_up (Or.inr (by decide)), q 394 (by decide) (by decide)]; exact h.1
  · rw [q 110 (by decide) (by decide), q 399 (by decide) (by decide)]; exact h.2.1.1
  · rw [zup_eq, zup_row (by decide), zup_eq]
  · rw [zup_eq]; decide
  · rw [zup_eq]; decide
  · rw [q 0 (by decide) (by decide), q3 5 (by decide)]; exact h.2.2.1.1
  · rw [q 0 (by decide) (by decide), q3 6 (by decide)]; exact h.2.2.1.2
  · rw [q 348 (by decide) (by decide)]
  · rw [q 398 (by decide) (by decide)]
  · rw [q3 7 (by decide)]; exact h.2.2.2.2.1.1
  · rw [q3 18 (by decide)]; exact h.2.2.2.2.1.2
  · rw [zHV_up (Or.inr (by unfold zIm; omega)), zHV_up (Or.inl (by unfold zIm; omega))]
theorem pr_tent {N : Int} {μ ν ξ : zM} {r u : Option zAV} {s a : Int} (h : zRel N μ) (hX : (¬ ((0 ≤ s ∧ s < μ 6 6) ∧ 0 ≤ a ∧ a ≤ 10) ∧ r = some (zI (-2)) ∧ ν = zCt μ (-2)) ∨ (((0 ≤ s ∧ s < μ 6 6) ∧ 0 ≤ a ∧ a ≤ 10) ∧ r = some (zI 1) ∧ ν = zup (zup μ 0 11 (zTn (zHV μ 1) s a / zFn (zTn (zHV μ 1) s a))) 0 12 (10 / zFn (zTn (zHV μ 1) s a)))) (hM : (¬ ((0 ≤ s ∧ s < ν 394 2) ∧ 0 ≤ a ∧ a ≤ 10) ∧ u = some (zI (-2)) ∧ ξ = zup ν 398 0 (ν 398 0 + zq1 ν)) ∨ (((0 ≤ s ∧ s < ν 394 2) ∧ 0 ≤ a ∧ a ≤ 10) ∧ u = some (zI 1) ∧ ξ = zup (zup ν 393 5 (zTn (zBV (ν 394)) s a / zFn (zTn (zBV (ν 394)) s a))) 393 6 (10 / zFn (zTn (zBV (ν 394)) s a)))) : ∃ z, r = some (zI z) ∧ u = some (zI z) ∧ zRel (N + 1) ξ := by
  have e6 : μ 6 6 = μ 394 2 := by
    have e1 : zHV μ 1 3 3 = μ 6 6 := rfl
    have e2 : zBV (μ 394) 3 3 = μ 394 2 := rfl
    rw [← e1, ← e2, h.1.1]
  rcases hX with ⟨a, rfl, rfl⟩ | ⟨a, rfl, b⟩
  · have e7 : zCt μ (-2) 394 = μ 394 := zCt_hi 394 (by decide)
    rw [e7] at hM
    rcases hM with ⟨a2, rfl, b2⟩ | ⟨a2, rfl, b2⟩
    · exact ⟨_, rfl, rfl, zRel_k (k := 0) h (by decide) (by decide) rfl b2⟩
    · rw [e6] at a; exact absurd a2 a
  · have e7 : ν 394 = μ 394 := by rw [b, zup_row (by decide), zup_row (by decide)]
    rw [e7] at hM
    rcases hM with ⟨a2, rfl, b2⟩ | ⟨a2, rfl, b2⟩
    · rw [e6] at a; exact absurd a a2
    · refine ⟨_, rfl, rfl, ?_⟩
      rw [← h.1.1] at b2
      have q : ∀ x : Nat, x ≠ 0 → x ≠ 393 → ξ x = μ x := fun x x1 x2 => by rw [b2, zup_row x2, zup_row x2, b, zup_row x1, zup_row x1]
      have q3 : ∀ k, k ≠ 5 → k ≠ 6 → ξ 393 k = μ 393 k := fun k k1 k2 => by rw [b2, zup_ne (Or.inr k2), zup_ne (Or.inr k1), b, zup_row (by decide), zup_row (by decide)]
      refine zRel_w h ?_ ⟨?_, ?_, ?_, ?_⟩ ⟨?_, ?_⟩ (fun j _ _ => ⟨?_, ?_⟩) ⟨?_, ?_⟩ ⟨q 46 (by decide) (by decide), q 396 (by decide) (by decide), q 395 (by decide) (by decide), fun i i0 i1 => ?_⟩
      · rw [show zHV ξ 1 = zHV μ 1 by rw [b2, zHV_up (Or.inr (by decide)), zHV_up (Or.inr (by decide)), b, zHV_up (Or.inl (by decide)), zHV_up (Or.inl (by decide))], q 394 (by decide) (by decide)]; exact h.1
      · rw [q 110 (by decide) (by decide), q 399 (by decide) (by decide)]; exact h.2.1.1
      · rw [q 47 (by decide) (by decide), q3 9 (by decide) (by decide)]; exact h.2.1.2.1
      · rw [q3 9 (by decide) (by decide)]; exact h.2.1.2.2.1
      · rw [q3 9 (by decide) (by decide)]; exact h.2.1.2.2.2
      · rw [b2, zup_row (by decide), zup_row (by decide), zup_ne (Or.inr (by decide)), zup_eq, b, zup_ne (Or.inr (by decide)), zup_eq]
      · rw [b2, zup_row (by decide), zup_row (by decide), zup_eq, b, zup_eq]
      · rw [q 348 (by decide) (by decide)]
      · rw [q 398 (by decide) (by decide)]
      · rw [q3 7 (by decide) (by decide)]; exact h.2.2.2.2.1.1
      · rw [q3 18 (by decide) (by decide)]; exact h.2.2.2.2.1.2
      · rw [b2, zHV_up (Or.inr (by unfold zIm; omega)), zHV_up (Or.inr (by unfold zIm; omega)), b, zHV_up (Or.inl (by unfold zIm; omega)), zHV_up (Or.inl (by unfold zIm; omega))]
theorem pr_type {N : Int} {μ ν ξ : zM} {r u : Option zAV} {v n : Int} (h : zRel N μ) (hX : (¬ (1 ≤ n ∧ n ≤ 8) ∧ r = some (zI (-2)) ∧ ν = zCt μ (-2)) ∨ ((1 ≤ n ∧ n ≤ 8) ∧ 300 < μ 47 0 + n ∧ r = some (zI (-4)) ∧ ν = zCt μ (-4)) ∨ ((1 ≤ n ∧ n ≤ 8) ∧ μ 47 0 + n ≤ 300 ∧ r = some (zI (μ 47 0 + n)) ∧ (ν 47 0 = μ 47 0 + n ∧ (∀ k, k ≠ 0 → ν 47 k = μ 47 k) ∧ zTx (μ 47 0) n (fun j => zbX v (n - 1 - j)) (μ 110) (ν 110) ∧ ∀ a, a ≠ 47 → a ≠ 110 → ν a = μ a))) (hM : (¬ (1 ≤ n ∧ n ≤ 8) ∧ u = some (zI (-2)) ∧ ξ = zup ν 398 0 (ν 398 0 + zq1 ν)) ∨ ((1 ≤ n ∧ n ≤ 8) ∧ 300 < ν 393 9 + n ∧ u = some (zI (-4)) ∧ ξ = zup ν 398 2 (ν 398 2 + zq1 ν)) ∨ ((1 ≤ n ∧ n ≤ 8) ∧ ν 393 9 + n ≤ 300 ∧ u = some (zI (ν 393 9 + n)) ∧ (ξ 393 9 = ν 393 9 + n ∧ (∀ k, k ≠ 9 → ξ 393 k = ν 393 k) ∧ zTx (ν 393 9) n (fun j => zbM v (n - 1 - j)) (ν 399) (ξ 399) ∧ ∀ a, a ≠ 393 → a ≠ 399 → ξ a = ν a))) : ∃ z, r = some (zI z) ∧ u = some (zI z) ∧ zRel (N + 1) ξ := by
  have hi : (∀ a : Nat, 393 ≤ a → ν a = μ a) := by
    rcases hX with ⟨_, _, b⟩ | ⟨_, _, _, b⟩ | ⟨_, _, _, _, _, _, b⟩
    · intro a ha; rw [b]; exact zCt_hi a (by omega)
    · intro a ha; rw [b]; exact zCt_hi a (by omega)
    · intro a ha; exact b a (by omega) (by omega)
  have e9 : ν 393 9 = μ 47 0 := by rw [hi 393 (by decide)]; exact h.2.1.2.1.symm
  have b3 := h.2.1.2.2
  have e2 := h.2.1.2.1
  rcases hX with ⟨a, rfl, b⟩ | ⟨a, c, rfl, b⟩ | ⟨a, c, rfl, x1, x2, x3, x4⟩
  · rcases hM with ⟨a2, rfl, b2⟩ | ⟨a2, c2, rfl, b2⟩ | ⟨a2, c2, rfl, _⟩
    · exact ⟨_, rfl, rfl, zRel_k (k := 0) h (by decide) (by decide) b b2⟩
    · exact absurd a2 a
    · exact absurd a2 a
  · rcases hM with ⟨a2, rfl, b2⟩ | ⟨a2, c2, rfl, b2⟩ | ⟨a2, c2, rfl, _⟩
    · exact absurd a a2
    · exact ⟨_, rfl, rfl, zRel_k (k := 2) h (by decide) (by decide) b b2⟩
    · omega
  · rcases hM with ⟨a2, rfl, b2⟩ | ⟨a2, c2, rfl, b2⟩ | ⟨a2, c2, rfl, m1, m2, m3, m4⟩
    · exact absurd a a2
    · omega
    · refine ⟨_, rfl, by rw [e9], ?_⟩
      have q : ∀ x : Nat, x ≠ 47 → x ≠ 110 → x ≠ 393 → x ≠ 399 → ξ x = μ x := fun x h1 h2 h3 h4 => by rw [m4 x h3 h4]; exact x4 x h1 h2
      have q3 : ∀ k, k ≠ 9 → ξ 393 k = μ 393 k := fun k hk => by rw [m2 k hk, hi 393 (by decide)]
      have s47 : ξ 47 = ν 47 := m4 47 (by decide) (by decide)
      have s110 : ξ 110 = ν 110 := m4 110 (by decide) (by decide)
      refine zRel_w h ?_ ⟨?_, ?_, ?_, ?_⟩ ⟨?_, ?_⟩ (fun j _ _ => ⟨?_, ?_⟩) ⟨?_, ?_⟩ ⟨q 46 (by decide) (by decide) (by decide) (by decide), q 396 (by decide) (by decide) (by decide) (by decide), q 395 (by decide) (by decide) (by decide) (by decide), fun i i0 i1 => ?_⟩
      · rw [q 394 (by decide) (by decide) (by decide) (by decide), zHV_lo (by decide) (fun x hx => m4 x (by omega) (by omega)), zHV_fr (a := 23) (n := 100) (fun x hx => x4 x (by omega) (by omega)) (Or.inr (by decide))]; exact h.1
      · rw [s110]
        funext j
        by_cases z : μ 47 0 ≤ j ∧ j < μ 47 0 + n
        · have p1 := x3.1 (j - μ 47 0) (by omega) (by omega)
          have p2 := m3.1 (j - μ 47 0) (by omega) (by omega)
          rw [e9] at p2
          rw [show μ 47 0 + (j - μ 47 0) = j by omega] at p1 p2
          rw [p1, p2]
          exact zb_XM (by omega) (by omega)
        · rw [x3.2 j (by omega), m3.2 j (by rw [e9]; omega), hi 399 (by decide), h.2.1.1]
      · rw [s47, x1, m1, e9]
      · rw [m1, e9]; omega
      · rw [m1, e9]; omega
      · rw [q 0 (by decide) (by decide) (by decide) (by decide), q3 5 (by decide)]; exact h.2.2.1.1
      · rw [q 0 (by decide) (by decide) (by decide) (by decide), q3 6 (by decide)]; exact h.2.2.1.2
      · rw [q 348 (by decide) (by decide) (by decide) (by decide)]
      · rw [q 398 (by decide) (by decide) (by decide) (by decide)]
      · rw [q3 7 (by decide)]; exact h.2.2.2.2.1.1
      · rw [q3 18 (by decide)]; exact h.2.2.2.2.1.2
      · rw [zHV_lo (by unfold zIm; omega) (fun x hx => m4 x (by omega) (by omega)), zHV_fr (a := 47) (n := 64) (fun x hx => x4 x (by omega) (by omega)) (Or.inl (by unfold zIm; omega))]
theorem pr_house {N : Int} {μ ν ξ : zM} {r u : Option zAV}  (h : zRel N μ) (hX : ∃ z : Int, r = some (zI z) ∧ zHo (μ 110) (μ 47 0) z (zHV μ 1) (zHV ν 1) ∧ (∀ q, q ≠ 1 → q ≠ 5 → ν 47 q = μ 47 q) ∧ (∀ x, x ≠ 47 → x ≠ 48 → (x < 50 ∨ 109 < x) → (x < 1 ∨ 45 ≤ x) → ν x = μ x)) (hM : ∃ z : Int, u = some (zI z) ∧ zHo (ν 399) (ν 393 9) z (zBV (ν 394)) (zBV (ξ 394)) ∧ ξ 394 0 = zsum (zBV (ξ 394) 0) 36 ∧ (∀ j, 0 ≤ j → j < 3 → ξ 398 j = ν 398 j) ∧ ξ 393 7 = 0 ∧ (∀ k, k ≠ 7 → k ≠ 10 → k ≠ 11 → k ≠ 12 → k ≠ 13 → k ≠ 16 → ξ 393 k = ν 393 k) ∧ (∀ x, x ≠ 393 → x ≠ 394 → x ≠ 397 → x ≠ 398 → x ≠ 400 → x ≠ 401 → ξ x = ν x)) : ∃ z, r = some (zI z) ∧ u = some (zI z) ∧ zRel (N + 1) ξ := by
  obtain ⟨z, rfl, x1, x2, x3⟩ := hX
  obtain ⟨z2, rfl, m1, m2, m3, m4, m5, m6⟩ := hM
  have hi : (∀ a : Nat, 393 ≤ a → ν a = μ a) := fun a ha => x3 a (by omega) (by omega) (by omega) (by omega)
  rw [hi 399 (by decide), hi 393 (by decide), hi 394 (by decide), ← h.2.1.1, ← h.2.1.2.1, ← h.1.1] at m1
  obtain ⟨rfl, ev⟩ := zHo_u x1 m1
  have ok := zHo_ok m1 (by rw [h.1.1]; exact h.1.2.1) (by rw [h.1.1]; exact h.1.2.2.1)
  have q : ∀ x : Nat, (x < 1 ∨ 45 ≤ x) → x ≠ 47 → x ≠ 48 → (x < 50 ∨ 109 < x) → x ≠ 393 → x ≠ 394 → x ≠ 397 → x ≠ 398 → x ≠ 400 → x ≠ 401 → ξ x = μ x := fun x h1 h2 h3 h4 h5 h6 h7 h8 h9 h10 => by rw [m6 x h5 h6 h7 h8 h9 h10]; exact x3 x h2 h3 h4 h1
  have q3 : ∀ k, k ≠ 7 → k ≠ 10 → k ≠ 11 → k ≠ 12 → k ≠ 13 → k ≠ 16 → ξ 393 k = μ 393 k := fun k k1 k2 k3 k4 k5 k6 => by rw [m5 k k1 k2 k3 k4 k5 k6, hi 393 (by decide)]
  have ehv : zHV ξ 1 = zHV ν 1 := zHV_lo (by decide) (fun x hx => m6 x (by omega) (by omega) (by omega) (by omega) (by omega) (by omega))
  refine ⟨_, rfl, rfl, zRel_w h ⟨?_, ok.1, ok.2, m2⟩ ⟨?_, ?_, ?_, ?_⟩ ⟨?_, ?_⟩ (fun j j0 j1 => ⟨?_, ?_⟩) ⟨m4, ?_⟩ ⟨q 46 (by decide) (by decide) (by decide) (by decide) (by decide) (by decide) (by decide) (by decide) (by decide) (by decide), q 396 (by decide) (by decide) (by decide) (by decide) (by decide) (by decide) (by decide) (by decide) (by decide) (by decide), q 395 (by decide) (by decide) (by decide) (by decide) (by decide) (by decide) (by decide) (by decide) (by decide) (by decide), fun i i0 i1 => ?_⟩⟩
  · rw [ehv, ev]
  · rw [q 110 (by decide) (by decide) (by decide) (by decide) (by decide) (by decide) (by decide) (by decide) (by decide) (by decide), q 399 (by decide) (by decide) (by decide) (by decide) (by decide) (by decide) (by decide) (by decide) (by decide) (by decide)]; exact h.2.1.1
  · rw [m6 47 (by decide) (by decide) (by decide) (by decide) (by decide) (by decide), x2 0 (by decide) (by decide), q3 9 (by decide) (by decide) (by decide) (by decide) (by decide) (by decide)]; exact h.2.1.2.1
  · rw [q3 9 (by decide) (by decide) (by decide) (by decide) (by decide) (by decide)]; exact h.2.1.2.2.1
  · rw [q3 9 (by decide) (by decide) (by decide) (by decide) (by decide) (by decide)]; exact h.2.1.2.2.2
  · rw [q 0 (by decide) (by decide) (by decide) (by decide) (by decide) (by decide) (by decide) (by decide) (by decide) (by decide), q3 5 (by decide) (by decide) (by decide) (by decide) (by decide) (by decide)]; exact h.2.2.1.1
  · rw [q 0 (by decide) (by decide) (by decide) (by decide) (by decide) (by decide) (by decide) (by decide) (by decide) (by decide), q3 6 (by decide) (by decide) (by decide) (by decide) (by decide) (by decide)]; exact h.2.2.1.2
  · rw [q 348 (by decide) (by decide) (by decide) (by decide) (by decide) (by decide) (by decide) (by decide) (by decide) (by decide)]
  · rw [m3 j j0 j1, hi 398 (by decide)]
  · rw [q3 18 (by decide) (by decide) (by decide) (by decide) (by decide) (by decide)]; exact h.2.2.2.2.1.2
  · rw [zHV_lo (by unfold zIm; omega) (fun x hx => m6 x (by omega) (by omega) (by omega) (by omega) (by omega) (by omega)), zHV_fr (a := 0) (n := 110) (fun x hx => x3 x (by omega) (by omega) (by omega) (by omega)) (Or.inl (by unfold zIm; omega))]
