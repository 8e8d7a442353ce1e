/-! BITS: a number below 256 as a row of truths -/
def zBt (x : Int) (n : Nat) (P : Int → Prop) : Prop := (0 ≤ x ∧ x < (2 ^ n : Nat)) ∧ ∀ i : Nat, i < n → x / (2 ^ i : Nat) % 2 = zb (P (i : Int))
theorem zbd_1 : ∀ n : Nat, n < 8 → ∀ x : Nat, x < 256 → x < 2 ^ n → zor (x : Int) (zshl 1 (n : Int)) = ((x + 2 ^ n : Nat) : Int) := by decide +kernel
theorem zbd_2 : ∀ n : Nat, n < 8 → ∀ x : Nat, x < 256 → zand (zshr (x : Int) (n : Int)) 1 = ((x / 2 ^ n % 2 : Nat) : Int) := by decide +kernel
theorem zbd_3 : ∀ n : Nat, n < 8 → ∀ x : Nat, x < 256 → zand (x : Int) (zxor (zshl 1 (n : Int)) (-1)) = ((x - 2 ^ n * (x / 2 ^ n % 2) : Nat) : Int) := by decide +kernel
theorem zbd_4 : ∀ n : Nat, n < 8 → ∀ i : Nat, i < 8 → ∀ x : Nat, x < 256 → x < 2 ^ n → i < n → (x + 2 ^ n) / 2 ^ i % 2 = x / 2 ^ i % 2 := by decide +kernel
theorem zbd_5 : ∀ n : Nat, n < 8 → ∀ i : Nat, i < 8 → ∀ x : Nat, x < 256 → (x - 2 ^ n * (x / 2 ^ n % 2)) / 2 ^ i % 2 = if i = n then 0 else x / 2 ^ i % 2 := by decide +kernel
theorem zpw {n : Nat} (h : n ≤ 8) : 2 ^ n ≤ 256 := by
  have : ∀ n : Nat, n < 9 → 2 ^ n ≤ 256 := by decide
  exact this n (by omega)
theorem zpw1 {n : Nat} : 2 ^ (n + 1) = 2 ^ n + 2 ^ n := by rw [Nat.pow_succ]; omega
theorem zBt_0 {P : Int → Prop} : zBt 0 0 P := ⟨by decide, fun i h => by omega⟩
theorem zBt_n {x : Int} {n : Nat} {P : Int → Prop} (h : zBt x n P) (hn : n < 8) (hp : ¬ P n) : zBt x (n + 1) P := by
  obtain ⟨⟨h0, h1⟩, h2⟩ := h
  obtain ⟨m, rfl⟩ : ∃ m : Nat, x = m := ⟨x.toNat, by omega⟩
  have := zpw1 (n := n)
  refine ⟨⟨h0, by omega⟩, fun i hi => ?_⟩
  by_cases e : i = n
  · subst e
    rw [zb_f hp]
    have : m / 2 ^ i = 0 := Nat.div_eq_of_lt (by omega)
    have e2 : ((m : Nat) : Int) / ((2 ^ i : Nat) : Int) = ((m / 2 ^ i : Nat) : Int) := rfl
    rw [e2, this]
    rfl
  · exact h2 i (by omega)
theorem zBt_s {x : Int} {n : Nat} {P : Int → Prop} (h : zBt x n P) (hn : n < 8) (hp : P n) : zBt (zor x (zshl 1 (n : Int))) (n + 1) P := by
  obtain ⟨⟨h0, h1⟩, h2⟩ := h
  obtain ⟨m, rfl⟩ : ∃ m : Nat, x = m := ⟨x.toNat, by omega⟩
  have q1 := zpw1 (n := n)
  have q2 := zpw (n := n) (by omega)
  rw [zbd_1 n hn m (by omega) (by omega)]
  refine ⟨⟨by omega, by omega⟩, fun i hi => ?_⟩
  by_cases e : i = n
  · subst e
    rw [zb_t hp]
    have e2 : ((m + 2 ^ i : Nat) : Int) / ((2 ^ i : Nat) : Int) = (((m + 2 ^ i) / 2 ^ i : Nat) : Int) := rfl
    rw [e2, Nat.add_div_right _ (by omega), Nat.div_eq_of_lt (by omega)]
    rfl
  · have := h2 i (by omega)
    have e3 := zbd_4 n hn i (by omega) m (by omega) (by omega) (by omega)
    have e2 : ((m + 2 ^ n : Nat) : Int) / ((2 ^ i : Nat) : Int) % 2 = (((m + 2 ^ n) / 2 ^ i % 2 : Nat) : Int) := rfl
    rw [e2, e3]
    exact this
theorem zBt_t {x : Int} {n i : Nat} {P : Int → Prop} (h : zBt x n P) (hn : n ≤ 8) (hi : i < n) : zand (zshr x (i : Int)) 1 = zb (P i) := by
  obtain ⟨⟨h0, h1⟩, h2⟩ := h
  obtain ⟨m, rfl⟩ : ∃ m : Nat, x = m := ⟨x.toNat, by omega⟩
  have q2 := zpw hn
  rw [zbd_2 i (by omega) m (by omega)]
  exact h2 i hi
theorem zBt_x {x : Int} {n s : Nat} {P : Int → Prop} (h : zBt x n P) (hn : n ≤ 8) (hs : s < n) : zBt (zand x (zxor (zshl 1 (s : Int)) (-1))) n (fun i => P i ∧ i ≠ (s : Int)) := by
  obtain ⟨⟨h0, h1⟩, h2⟩ := h
  obtain ⟨m, rfl⟩ : ∃ m : Nat, x = m := ⟨x.toNat, by omega⟩
  have q2 := zpw hn
  rw [zbd_3 s (by omega) m (by omega)]
  refine ⟨⟨by omega, by omega⟩, fun i hi => ?_⟩
  have e3 := zbd_5 s (by omega) i (by omega) m (by omega)
  have e2 : ((m - 2 ^ s * (m / 2 ^ s % 2) : Nat) : Int) / ((2 ^ i : Nat) : Int) % 2 = (((m - 2 ^ s * (m / 2 ^ s % 2)) / 2 ^ i % 2 : Nat) : Int) := rfl
  rw [e2, e3]
  by_cases e : i = s
  · rw [if_pos e, zb_f (fun q => q.2 (by omega))]; rfl
  · rw [if_neg e, zb_c (Q := P i) ⟨fun q => q.1, fun q => ⟨q, by omega⟩⟩]
    exact h2 i hi
theorem zBt_z {n : Nat} {P : Int → Prop} (h : zBt 0 n P) {i : Nat} (hi : i < n) : ¬ P i := by
  have := h.2 i hi
  rw [Int.zero_ediv] at this
  exact zb_0.mp this.symm
