set_option maxRecDepth 100000 in
set_option maxHeartbeats 4000000 in
theorem zFo_b {x : Nat} {k : Int} (hx : x < 420) : ∀ c : Nat, -1 ≤ zFo c x k ∧ zFo c x k ≤ 1000
  | 0 => by rw [zFo_0]; (repeat' split) <;> omega
  | 1 => by rw [zFo_1]; (repeat' split) <;> omega
  | 2 => by rw [zFo_2]; (repeat' split) <;> omega
  | 3 => by rw [zFo_3]; (repeat' split) <;> omega
  | 4 => by rw [zFo_4]; (repeat' split) <;> omega
  | 5 => by rw [zFo_5]; (repeat' split) <;> omega
  | 6 => by rw [zFo_6]; (repeat' split) <;> omega
  | 7 => by rw [zFo_7]; (repeat' split) <;> omega
  | 8 => by rw [zFo_8]; (repeat' split) <;> omega
  | 9 => by rw [zFo_9]; (repeat' split) <;> omega
  | 10 => by rw [zFo_10]; (repeat' split) <;> omega
  | 11 => by rw [zFo_11]; (repeat' split) <;> omega
  | 12 => by rw [zFo_12]; (repeat' split) <;> omega
  | c + 13 => by show (-1 : Int) ≤ 0 ∧ (0 : Int) ≤ 1000; decide
set_option maxRecDepth 100000 in
set_option maxHeartbeats 4000000 in
theorem zBo_b {k : Int} : ∀ c : Nat, -1 ≤ zBo c k ∧ zBo c k ≤ 1000
  | 0 => by rw [zBo_0]; (repeat' split) <;> omega
  | 1 => by rw [zBo_1]; (repeat' split) <;> omega
  | 2 => by rw [zBo_2]; (repeat' split) <;> omega
  | 3 => by rw [zBo_3]; (repeat' split) <;> omega
  | 4 => by rw [zBo_4]; (repeat' split) <;> omega
  | 5 => by rw [zBo_5]; (repeat' split) <;> omega
  | 6 => by rw [zBo_6]; (repeat' split) <;> omega
  | 7 => by rw [zBo_7]; (repeat' split) <;> omega
  | 8 => by rw [zBo_8]; (repeat' split) <;> omega
  | 9 => by rw [zBo_9]; (repeat' split) <;> omega
  | 10 => by rw [zBo_10]; (repeat' split) <;> omega
  | 11 => by rw [zBo_11]; (repeat' split) <;> omega
  | 12 => by rw [zBo_12]; (repeat' split) <;> omega
  | c + 13 => by show (-1 : Int) ≤ 0 ∧ (0 : Int) ≤ 1000; decide
theorem zFi_in : ∀ (id : Nat) (j : Int), zin (zFi id j) := fun id j => by
  unfold zFi
  by_cases a : (zl id).1 < 13
  · have hl : id < zN := zl_lt (k := id) (a := (zl id).1) (n := (zl id).2) rfl (by omega)
    have := zFo_b (x := id) (k := j) hl (zl id).1
    rw [if_pos a]; omega
  · rw [if_neg a]
    by_cases b : (zl id).1 = 22
    · have hl : id < zN := zl_lt (k := id) (a := (zl id).1) (n := (zl id).2) rfl (by omega)
      have hl : id < 420 := hl
      rw [if_pos b]
      by_cases c : j < 100000
      · rw [if_pos c]; omega
      · rw [if_neg c]; decide
    · rw [if_neg b]
      (repeat' split) <;> decide
theorem zBl_in : ∀ (id : Nat) (j : Int), zin (zBl id j) := fun id j => by
  unfold zBl
  by_cases a : (zl id).1 < 13
  · have := zBo_b (k := j) (zl id).1
    rw [if_pos a]; omega
  · rw [if_neg a]
    by_cases b : (zl id).1 = 22
    · have hl : id < zN := zl_lt (k := id) (a := (zl id).1) (n := (zl id).2) rfl (by omega)
      have hl : id < 420 := hl
      rw [if_pos b]
      by_cases c : j < 100000
      · rw [if_pos c]; omega
      · rw [if_neg c]; decide
    · rw [if_neg b]
      (repeat' split) <;> decide
