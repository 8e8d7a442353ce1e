set_option maxRecDepth 100000 in
set_option maxHeartbeats 4000000 in
theorem zFo_w {x : Nat} : ∀ (c k o : Nat), zoff c k = some o → zFo c x (k : Int) = ((x + o : Nat) : Int)
  | 0, 0, o, h => by cases (Option.some.inj (show some 1 = some o from h)); rfl
  | 0, 1, o, h => by cases (Option.some.inj (show some 3 = some o from h)); rfl
  | 0, 2, o, h => by cases (Option.some.inj (show some 10 = some o from h)); rfl
  | 0, 3, o, h => by cases (Option.some.inj (show some 11 = some o from h)); rfl
  | 0, 4, o, h => by cases (Option.some.inj (show some 18 = some o from h)); rfl
  | 0, 5, o, h => by cases (Option.some.inj (show some 25 = some o from h)); rfl
  | 0, 6, o, h => by cases (Option.some.inj (show some 34 = some o from h)); rfl
  | 0, 7, o, h => by cases (Option.some.inj (show some 35 = some o from h)); rfl
  | 0, 8, o, h => by cases (Option.some.inj (show some 36 = some o from h)); rfl
  | 0, 9, o, h => by cases (show (none : Option Nat) = some o from h)
  | 0, k + 10, o, h => by simp [zoff, zoffs] at h
  | 1, 0, o, h => by cases (Option.some.inj (show some 1 = some o from h)); rfl
  | 1, 1, o, h => by cases (Option.some.inj (show some 2 = some o from h)); rfl
  | 1, 2, o, h => by cases (Option.some.inj (show some 3 = some o from h)); rfl
  | 1, 3, o, h => by cases (show (none : Option Nat) = some o from h)
  | 1, 4, o, h => by cases (show (none : Option Nat) = some o from h)
  | 1, 5, o, h => by cases (show (none : Option Nat) = some o from h)
  | 1, k + 6, o, h => by simp [zoff, zoffs] at h
  | 2, 0, o, h => by cases (Option.some.inj (show some 1 = some o from h)); rfl
  | 2, 1, o, h => by cases (Option.some.inj (show some 5 = some o from h)); rfl
  | 2, 2, o, h => by cases (Option.some.inj (show some 12 = some o from h)); rfl
  | 2, 3, o, h => by cases (Option.some.inj (show some 18 = some o from h)); rfl
  | 2, k + 4, o, h => by simp [zoff, zoffs] at h
  | 3, 0, o, h => by cases (show (none : Option Nat) = some o from h)
  | 3, 1, o, h => by cases (show (none : Option Nat) = some o from h)
  | 3, 2, o, h => by cases (show (none : Option Nat) = some o from h)
  | 3, 3, o, h => by cases (Option.some.inj (show some 1 = some o from h)); rfl
  | 3, 4, o, h => by cases (Option.some.inj (show some 48 = some o from h)); rfl
  | 3, 5, o, h => by cases (Option.some.inj (show some 50 = some o from h)); rfl
  | 3, 6, o, h => by cases (Option.some.inj (show some 51 = some o from h)); rfl
  | 3, 7, o, h => by cases (Option.some.inj (show some 52 = some o from h)); rfl
  | 3, k + 8, o, h => by simp [zoff, zoffs] at h
  | 4, 0, o, h => by cases (Option.some.inj (show some 1 = some o from h)); rfl
  | 4, 1, o, h => by cases (Option.some.inj (show some 2 = some o from h)); rfl
  | 4, 2, o, h => by cases (Option.some.inj (show some 3 = some o from h)); rfl
  | 4, 3, o, h => by cases (Option.some.inj (show some 9 = some o from h)); rfl
  | 4, 4, o, h => by cases (Option.some.inj (show some 15 = some o from h)); rfl
  | 4, 5, o, h => by cases (Option.some.inj (show some 62 = some o from h)); rfl
  | 4, 6, o, h => by cases (Option.some.inj (show some 63 = some o from h)); rfl
  | 4, 7, o, h => by cases (Option.some.inj (show some 64 = some o from h)); rfl
  | 4, 8, o, h => by cases (show (none : Option Nat) = some o from h)
  | 4, 9, o, h => by cases (show (none : Option Nat) = some o from h)
  | 4, 10, o, h => by cases (show (none : Option Nat) = some o from h)
  | 4, 11, o, h => by cases (show (none : Option Nat) = some o from h)
  | 4, 12, o, h => by cases (show (none : Option Nat) = some o from h)
  | 4, 13, o, h => by cases (show (none : Option Nat) = some o from h)
  | 4, 14, o, h => by cases (show (none : Option Nat) = some o from h)
  | 4, k + 15, o, h => by simp [zoff, zoffs] at h
  | 5, 0, o, h => by cases (Option.some.inj (show some 1 = some o from h)); rfl
  | 5, 1, o, h => by cases (Option.some.inj (show some 2 = some o from h)); rfl
  | 5, 2, o, h => by cases (Option.some.inj (show some 3 = some o from h)); rfl
  | 5, 3, o, h => by cases (Option.some.inj (show some 4 = some o from h)); rfl
  | 5, 4, o, h => by cases (Option.some.inj (show some 5 = some o from h)); rfl
  | 5, 5, o, h => by cases (Option.some.inj (show some 6 = some o from h)); rfl
  | 5, 6, o, h => by cases (show (none : Option Nat) = some o from h)
  | 5, k + 7, o, h => by simp [zoff, zoffs] at h
  | 6, 0, o, h => by cases (Option.some.inj (show some 1 = some o from h)); rfl
  | 6, k + 1, o, h => by simp [zoff, zoffs] at h
  | 7, 0, o, h => by cases (Option.some.inj (show some 1 = some o from h)); rfl
  | 7, 1, o, h => by cases (Option.some.inj (show some 2 = some o from h)); rfl
  | 7, 2, o, h => by cases (Option.some.inj (show some 3 = some o from h)); rfl
  | 7, 3, o, h => by cases (show (none : Option Nat) = some o from h)
  | 7, k + 4, o, h => by simp [zoff, zoffs] at h
  | 8, 0, o, h => by cases (Option.some.inj (show some 1 = some o from h)); rfl
  | 8, 1, o, h => by cases (show (none : Option Nat) = some o from h)
  | 8, 2, o, h => by cases (show (none : Option Nat) = some o from h)
  | 8, 3, o, h => by cases (show (none : Option Nat) = some o from h)
  | 8, 4, o, h => by cases (Option.some.inj (show some 2 = some o from h)); rfl
  | 8, 5, o, h => by cases (Option.some.inj (show some 3 = some o from h)); rfl
  | 8, 6, o, h => by cases (Option.some.inj (show some 25 = some o from h)); rfl
  | 8, k + 7, o, h => by simp [zoff, zoffs] at h
  | 9, 0, o, h => by cases (Option.some.inj (show some 1 = some o from h)); rfl
  | 9, 1, o, h => by cases (Option.some.inj (show some 2 = some o from h)); rfl
  | 9, 2, o, h => by cases (Option.some.inj (show some 3 = some o from h)); rfl
  | 9, 3, o, h => by cases (Option.some.inj (show some 4 = some o from h)); rfl
  | 9, 4, o, h => by cases (Option.some.inj (show some 5 = some o from h)); rfl
  | 9, 5, o, h => by cases (show (none : Option Nat) = some o from h)
  | 9, k + 6, o, h => by simp [zoff, zoffs] at h
  | 10, 0, o, h => by cases (show (none : Option Nat) = some o from h)
  | 10, 1, o, h => by cases (show (none : Option Nat) = some o from h)
  | 10, 2, o, h => by cases (Option.some.inj (show some 1 = some o from h)); rfl
  | 10, 3, o, h => by cases (Option.some.inj (show some 2 = some o from h)); rfl
  | 10, 4, o, h => by cases (Option.some.inj (show some 63 = some o from h)); rfl
  | 10, 5, o, h => by cases (show (none : Option Nat) = some o from h)
  | 10, k + 6, o, h => by simp [zoff, zoffs] at h
  | 11, 0, o, h => by cases (Option.some.inj (show some 1 = some o from h)); rfl
  | 11, 1, o, h => by cases (Option.some.inj (show some 23 = some o from h)); rfl
  | 11, 2, o, h => by cases (Option.some.inj (show some 45 = some o from h)); rfl
  | 11, 3, o, h => by cases (Option.some.inj (show some 46 = some o from h)); rfl
  | 11, 4, o, h => by cases (Option.some.inj (show some 47 = some o from h)); rfl
  | 11, 5, o, h => by cases (Option.some.inj (show some 111 = some o from h)); rfl
  | 11, 6, o, h => by cases (Option.some.inj (show some 189 = some o from h)); rfl
  | 11, 7, o, h => by cases (Option.some.inj (show some 292 = some o from h)); rfl
  | 11, 8, o, h => by cases (Option.some.inj (show some 345 = some o from h)); rfl
  | 11, 9, o, h => by cases (Option.some.inj (show some 347 = some o from h)); rfl
  | 11, 10, o, h => by cases (Option.some.inj (show some 348 = some o from h)); rfl
  | 11, 11, o, h => by cases (show (none : Option Nat) = some o from h)
  | 11, 12, o, h => by cases (show (none : Option Nat) = some o from h)
  | 11, k + 13, o, h => by simp [zoff, zoffs] at h
  | 12, 0, o, h => by cases (Option.some.inj (show some 1 = some o from h)); rfl
  | 12, 1, o, h => by cases (Option.some.inj (show some 2 = some o from h)); rfl
  | 12, 2, o, h => by cases (Option.some.inj (show some 3 = some o from h)); rfl
  | 12, 3, o, h => by cases (Option.some.inj (show some 4 = some o from h)); rfl
  | 12, 4, o, h => by cases (Option.some.inj (show some 5 = some o from h)); rfl
  | 12, 5, o, h => by cases (show (none : Option Nat) = some o from h)
  | 12, 6, o, h => by cases (show (none : Option Nat) = some o from h)
  | 12, 7, o, h => by cases (show (none : Option Nat) = some o from h)
  | 12, 8, o, h => by cases (Option.some.inj (show some 6 = some o from h)); rfl
  | 12, 9, o, h => by cases (show (none : Option Nat) = some o from h)
  | 12, 10, o, h => by cases (show (none : Option Nat) = some o from h)
  | 12, 11, o, h => by cases (show (none : Option Nat) = some o from h)
  | 12, 12, o, h => by cases (show (none : Option Nat) = some o from h)
  | 12, 13, o, h => by cases (show (none : Option Nat) = some o from h)
  | 12, 14, o, h => by cases (Option.some.inj (show some 7 = some o from h)); rfl
  | 12, 15, o, h => by cases (Option.some.inj (show some 8 = some o from h)); rfl
  | 12, 16, o, h => by cases (show (none : Option Nat) = some o from h)
  | 12, 17, o, h => by cases (Option.some.inj (show some 9 = some o from h)); rfl
  | 12, 18, o, h => by cases (show (none : Option Nat) = some o from h)
  | 12, 19, o, h => by cases (Option.some.inj (show some 10 = some o from h)); rfl
  | 12, 20, o, h => by cases (Option.some.inj (show some 11 = some o from h)); rfl
  | 12, 21, o, h => by cases (Option.some.inj (show some 12 = some o from h)); rfl
  | 12, 22, o, h => by cases (Option.some.inj (show some 13 = some o from h)); rfl
  | 12, 23, o, h => by cases (Option.some.inj (show some 14 = some o from h)); rfl
  | 12, 24, o, h => by cases (Option.some.inj (show some 15 = some o from h)); rfl
  | 12, 25, o, h => by cases (Option.some.inj (show some 16 = some o from h)); rfl
  | 12, 26, o, h => by cases (Option.some.inj (show some 17 = some o from h)); rfl
  | 12, 27, o, h => by cases (Option.some.inj (show some 18 = some o from h)); rfl
  | 12, 28, o, h => by cases (Option.some.inj (show some 19 = some o from h)); rfl
  | 12, 29, o, h => by cases (Option.some.inj (show some 20 = some o from h)); rfl
  | 12, 30, o, h => by cases (Option.some.inj (show some 21 = some o from h)); rfl
  | 12, 31, o, h => by cases (show (none : Option Nat) = some o from h)
  | 12, 32, o, h => by cases (show (none : Option Nat) = some o from h)
  | 12, 33, o, h => by cases (show (none : Option Nat) = some o from h)
  | 12, 34, o, h => by cases (Option.some.inj (show some 22 = some o from h)); rfl
  | 12, 35, o, h => by cases (Option.some.inj (show some 23 = some o from h)); rfl
  | 12, 36, o, h => by cases (Option.some.inj (show some 24 = some o from h)); rfl
  | 12, 37, o, h => by cases (Option.some.inj (show some 25 = some o from h)); rfl
  | 12, 38, o, h => by cases (Option.some.inj (show some 26 = some o from h)); rfl
  | 12, 39, o, h => by cases (show (none : Option Nat) = some o from h)
  | 12, 40, o, h => by cases (show (none : Option Nat) = some o from h)
  | 12, 41, o, h => by cases (show (none : Option Nat) = some o from h)
  | 12, k + 42, o, h => by simp [zoff, zoffs] at h
  | c + 13, k, o, h => by simp [zoff, zoffs] at h
theorem zl_h23 : ∀ id : Nat, id < 420 → (zl id).1 = 23 → id = 45 ∧ (zl id).2 = 2 := by decide +kernel
theorem zl_h22 : ∀ id : Nat, id < 420 → (zl id).1 = 22 → (zl id).2 < 1000 := by decide +kernel
theorem zC_w {μ : zM} (hr : ∀ id j, zin (μ id j)) (hw : ∀ x, x ≠ 393 → x ≠ 394 → x < zN → μ x = zFi x) (h3 : ∀ k o : Nat, zoff 12 k = some o → μ 393 (k : Int) = ((393 + o : Nat) : Int)) : zC μ := by
  refine ⟨hr, fun id k o h => ?_, fun id j n h hj => ?_, fun id j n h hj => ?_, fun id n j h => ?_⟩
  · by_cases a : id = 393
    · subst a; rw [zl_393] at h; exact h3 k o h
    · by_cases b : id = 394
      · subst b; rw [zl_394, zoff_arr (by decide)] at h; cases h
      · by_cases c : (zl id).1 < 13
        · have hl : id < zN := zl_lt (k := id) (a := (zl id).1) (n := (zl id).2) rfl (by omega)
          rw [hw id a b hl, zFi_o (c := (zl id).1) (m := (zl id).2) rfl c]
          exact zFo_w _ _ _ h
        · rw [zoff_arr (by omega)] at h; cases h
  · have a : id ≠ 393 := fun e => by subst e; rw [zl_393] at h; cases h
    have b : id ≠ 394 := fun e => by subst e; rw [zl_394] at h; cases h
    rw [hw id a b (zl_lt h (by decide))]
    unfold zFi
    rw [h]
    dsimp only
    rw [if_neg (by decide), if_pos rfl]
    have e := zl_h22 id (zl_lt h (by decide)) (by rw [h])
    rw [h] at e
    have e : n < 1000 := e
    rw [if_pos (by omega), Int.toNat_natCast]
  · have hl : id < zN := zl_lt h (by decide)
    have e := zl_h23 id hl (by rw [h])
    have a : id ≠ 393 := by omega
    have b : id ≠ 394 := by omega
    rw [hw id a b hl]
    have e2 : n = 2 := by have := e.2; rw [h] at this; exact this
    have e3 := e.1
    subst e3
    subst e2
    rcases (by omega : j = 0 ∨ j = 1) with rfl | rfl
    · rfl
    · rfl
  · have a : id ≠ 393 := fun e => by subst e; rw [zl_393] at h; cases h
    have b : id ≠ 394 := fun e => by subst e; rw [zl_394] at h; cases h
    rw [hw id a b (zl_lt h (by decide)), zFi_z h, zBl_z h]
    exact Or.inl rfl
