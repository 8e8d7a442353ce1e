theorem zBV_ok {b b2 : Int → Int} (ok : zOK (zBV b2)) (h : ∀ k, 0 ≤ k → k < 172 → b k = b2 k) : zBV b = zBV b2 := zBV_cg h (by
  have e1 : zBV b2 3 0 = b2 1 := rfl
  have e2 : zBV b2 3 3 = b2 2 := rfl
  have e3 : zBV b2 3 4 = b2 3 := rfl
  have e4 : zBV b2 3 5 = b2 4 := rfl
  have a := ok.1.2.1
  have p := ok.2.1.1
  have s := ok.2.2.1.1
  have q := ok.2.2.2.1
  omega)
theorem zRel_xk {N : Int} {μ : zM} (h : zRel N μ) {i : Int} (i0 : 0 ≤ i) (i1 : i ≤ 1) (hk : μ 46 i = 1) : zOK (zHV μ (zIm i)) := by
  have q := h.2.2.2.2.2
  have := q.2 i i0 i1 (by rw [← q.1]; exact hk)
  rw [this.1]; exact this.2.1
theorem pr_image {N : Int} {μ ν ξ : zM} {r u : Option zAV} {i : Int} (h : zRel N μ) (hX : (¬ (0 ≤ i ∧ i ≤ 1) ∧ r = some (zI (-2)) ∧ ν = zCt μ (-2)) ∨ ((0 ≤ i ∧ i ≤ 1) ∧ r = some (zI 1) ∧ zHV ν (zIm i) = zHV μ 1 ∧ ν 46 = zfu (μ 46) i 1 ∧ ∀ a, (a < zIm i ∨ zIm i + 22 ≤ a) → a ≠ 46 → ν a = μ a)) (hM : (¬ (0 ≤ i ∧ i ≤ 1) ∧ u = some (zI (-2)) ∧ ξ = zup ν 398 0 (ν 398 0 + zq1 ν)) ∨ ((0 ≤ i ∧ i ≤ 1) ∧ u = some (zI 1) ∧ (zTx (172 * i) 172 (ν 394) (ν 395) (ξ 395) ∧ ξ 396 = zfu (ν 396) i 1 ∧ ∀ a, a ≠ 395 → a ≠ 396 → ξ a = ν a))) : ∃ z, r = some (zI z) ∧ u = some (zI z) ∧ zRel (N + 1) ξ := by
  have hi : (∀ a : Nat, 393 ≤ a → ν a = μ a) := by
    rcases hX with ⟨_, _, b⟩ | ⟨_, _, _, _, b⟩
    · intro a ha; rw [b]; exact zCt_hi a (by omega)
    · intro a ha; exact b a (by unfold zIm; omega) (by omega)
  rcases hX with ⟨a, rfl, b⟩ | ⟨a, rfl, x1, x2, x3⟩
  · rcases hM with ⟨a2, rfl, b2⟩ | ⟨a2, rfl, _⟩
    · exact ⟨_, rfl, rfl, zRel_k (k := 0) h (by decide) (by decide) b b2⟩
    · exact absurd a2 a
  · rcases hM with ⟨a2, rfl, b2⟩ | ⟨a2, rfl, m1, m2, m3⟩
    · exact absurd a a2
    · refine ⟨_, rfl, rfl, ?_⟩
      rw [hi 394 (by decide), hi 395 (by decide)] at m1
      rw [hi 396 (by decide)] at m2
      have hz : zIm i = 349 ∨ zIm i = 371 := by unfold zIm; omega
      have q : ∀ x : Nat, (x < 349 ∨ 393 ≤ x) → x ≠ 46 → x ≠ 395 → x ≠ 396 → ξ x = μ x := fun x h1 h2 h3 h4 => by rw [m3 x h3 h4]; exact x3 x (by omega) h2
      have lo : ∀ x : Nat, x < 393 → ξ x = ν x := fun x hx => m3 x (by omega) (by omega)
      obtain ⟨e0, e1, e2, e3, e4, e5⟩ := h
      refine ⟨?_, ?_, ?_, fun j j0 j1 => ?_, ?_, ?_, fun j j0 j1 hk => ?_⟩
      · rw [q 394 (by decide) (by decide) (by decide) (by decide), zHV_lo (by decide) lo, zHV_fr (μ := μ) (a := 46) (n := 347) (fun x hx => x3 x (by omega) (by omega)) (Or.inr (by decide))]; exact e0
      · rw [q 110 (by decide) (by decide) (by decide) (by decide), q 399 (by decide) (by decide) (by decide) (by decide), q 47 (by decide) (by decide) (by decide) (by decide), q 393 (by decide) (by decide) (by decide) (by decide)]; exact e1
      · rw [q 0 (by decide) (by decide) (by decide) (by decide), q 393 (by decide) (by decide) (by decide) (by decide)]; exact e2
      · rw [q 348 (by decide) (by decide) (by decide) (by decide), q 398 (by decide) (by decide) (by decide) (by decide)]; have := e3 j j0 j1; omega
      · rw [q 393 (by decide) (by decide) (by decide) (by decide)]; exact e4
      · rw [lo 46 (by decide), x2, m2, e5.1]
      · by_cases c : j = i
        · subst c
          have eb : zBV (zIg9 ξ j) = zBV (μ 394) := zBV_ok e0.2.1 (fun k k0 k1 => m1.1 k k0 k1)
          have ez : zIg9 ξ j 0 = μ 394 0 := m1.1 0 (by decide) (by decide)
          rw [eb, ez, zHV_lo (by omega) lo, x1]
          exact e0
        · have hk2 : μ 396 j = 1 := by
            rw [m2] at hk
            unfold zfu at hk
            rw [if_neg c] at hk
            exact hk
          have g := e5.2 j j0 j1 hk2
          have ek : ∀ k, 0 ≤ k → k < 172 → zIg9 ξ j k = zIg9 μ j k := fun k k0 k1 => m1.2 (172 * j + k) (by omega)
          have eb : zBV (zIg9 ξ j) = zBV (zIg9 μ j) := zBV_ok g.2.1 ek
          have hz2 : (zIm j) + 22 ≤ zIm i ∨ zIm i + 22 ≤ zIm j := by unfold zIm; omega
          have hz3 : zIm j = 349 ∨ zIm j = 371 := by unfold zIm; omega
          have ev : zHV ν (zIm j) = zHV μ (zIm j) := by
            have qq : ∀ x : Nat, zIm j ≤ x → x < zIm j + 22 → ν x = μ x := fun x h1 h2 => x3 x (by omega) (by omega)
            unfold zHV
            rw [qq (zIm j + 1) (by omega) (by omega), qq (zIm j + 2) (by omega) (by omega), qq (zIm j + 3) (by omega) (by omega), qq (zIm j + 4) (by omega) (by omega), qq (zIm j + 5) (by omega) (by omega), qq (zIm j + 6) (by omega) (by omega), qq (zIm j + 7) (by omega) (by omega), qq (zIm j + 8) (by omega) (by omega), qq (zIm j + 9) (by omega) (by omega), qq (zIm j + 10) (by omega) (by omega), qq (zIm j + 11) (by omega) (by omega), qq (zIm j + 12) (by omega) (by omega), qq (zIm j + 13) (by omega) (by omega), qq (zIm j + 14) (by omega) (by omega), qq (zIm j + 15) (by omega) (by omega), qq (zIm j + 16) (by omega) (by omega), qq (zIm j + 17) (by omega) (by omega), qq (zIm j + 18) (by omega) (by omega), qq (zIm j + 19) (by omega) (by omega), qq (zIm j + 20) (by omega) (by omega), qq (zIm j + 21) (by omega) (by omega)]
          rw [eb, ek 0 (by decide) (by decide), zHV_lo (by omega) lo, ev]
          exact g
theorem pr_from {N : Int} {μ ν ξ : zM} {r u : Option zAV} {i : Int} (h : zRel N μ) (hX : (¬ (0 ≤ i ∧ i ≤ 1) ∧ r = some (zI (-2)) ∧ ν = zCt μ (-2)) ∨ ((0 ≤ i ∧ i ≤ 1) ∧ μ 46 i = 0 ∧ r = some (zI (-3)) ∧ ν = zCt μ (-3)) ∨ ((0 ≤ i ∧ i ≤ 1) ∧ μ 46 i = 1 ∧ r = some (zI 1) ∧ zHV ν 1 = zHV μ (zIm i) ∧ zFr 1 22 μ ν)) (hM : (¬ (0 ≤ i ∧ i ≤ 1) ∧ u = some (zI (-2)) ∧ ξ = zup ν 398 0 (ν 398 0 + zq1 ν)) ∨ ((0 ≤ i ∧ i ≤ 1) ∧ ν 396 i = 0 ∧ u = some (zI (-3)) ∧ ξ = zup ν 398 1 (ν 398 1 + zq1 ν)) ∨ ((0 ≤ i ∧ i ≤ 1) ∧ ν 396 i = 1 ∧ u = some (zI 1) ∧ (zTx 0 172 (fun k => ν 395 (172 * i + k)) (ν 394) (ξ 394) ∧ ∀ a, a ≠ 394 → ξ a = ν a))) : ∃ z, r = some (zI z) ∧ u = some (zI z) ∧ zRel (N + 1) ξ := by
  have hi : (∀ a : Nat, 393 ≤ a → ν a = μ a) := by
    rcases hX with ⟨_, _, b⟩ | ⟨_, _, _, b⟩ | ⟨_, _, _, _, b⟩
    · intro a ha; rw [b]; exact zCt_hi a (by omega)
    · intro a ha; rw [b]; exact zCt_hi a (by omega)
    · intro a ha; exact b a (by omega)
  have e5 := h.2.2.2.2.2
  have e46 : ν 396 i = μ 46 i := by rw [hi 396 (by decide), e5.1]
  rcases hX with ⟨a, rfl, b⟩ | ⟨a, c, rfl, b⟩ | ⟨a, c, rfl, x1, x2⟩
  · rcases hM with ⟨a2, rfl, b2⟩ | ⟨a2, c2, rfl, b2⟩ | ⟨a2, c2, rfl, _⟩
    · exact ⟨_, rfl, rfl, zRel_k (k := 0) h (by decide) (by decide) b b2⟩
    · exact absurd a2 a
    · exact absurd a2 a
  · rcases hM with ⟨a2, rfl, b2⟩ | ⟨a2, c2, rfl, b2⟩ | ⟨a2, c2, rfl, _⟩
    · exact absurd a a2
    · exact ⟨_, rfl, rfl, zRel_k (k := 1) h (by decide) (by decide) b b2⟩
    · omega
  · rcases hM with ⟨a2, rfl, b2⟩ | ⟨a2, c2, rfl, b2⟩ | ⟨a2, c2, rfl, m1, m2⟩
    · exact absurd a a2
    · omega
    · refine ⟨_, rfl, rfl, ?_⟩
      have g := e5.2 i a.1 a.2 (by rw [← e5.1]; exact c)
      rw [hi 394 (by decide), hi 395 (by decide)] at m1
      have ek : ∀ k, 0 ≤ k → k < 172 → ξ 394 k = zIg9 μ i k := fun k k0 k1 => by
        have := m1.1 k k0 k1
        rw [show 0 + k = k by omega] at this
        exact this
      have eb : zBV (ξ 394) = zBV (zIg9 μ i) := zBV_ok g.2.1 ek
      have lo : ∀ x : Nat, x < 393 → ξ x = ν x := fun x hx => m2 x (by omega)
      have q : ∀ x : Nat, (x < 1 ∨ 23 ≤ x) → x ≠ 394 → ξ x = μ x := fun x h1 h2 => by rw [m2 x h2]; exact x2 x (by omega)
      refine zRel_w h ⟨?_, by rw [eb]; exact g.2.1, by rw [eb]; exact g.2.2.1, by rw [eb, ek 0 (by decide) (by decide)]; exact g.2.2.2⟩ ?_ ?_ (fun j _ _ => ⟨?_, ?_⟩) ?_ ⟨q 46 (by decide) (by decide), q 396 (by decide) (by decide), q 395 (by decide) (by decide), fun j j0 j1 => ?_⟩
      · rw [zHV_lo (by decide) lo, x1, eb]; exact g.1
      · rw [q 110 (by decide) (by decide), q 399 (by decide) (by decide), q 47 (by decide) (by decide), q 393 (by decide) (by decide)]; exact h.2.1
      · rw [q 0 (by decide) (by decide), q 393 (by decide) (by decide)]; exact h.2.2.1
      · rw [q 348 (by decide) (by decide)]
      · rw [q 398 (by decide) (by decide)]
      · rw [q 393 (by decide) (by decide)]; exact h.2.2.2.2.1
      · have hz3 : zIm j = 349 ∨ zIm j = 371 := by unfold zIm; omega
        rw [zHV_lo (by omega) lo, zHV_fr x2 (Or.inl (by omega))]
