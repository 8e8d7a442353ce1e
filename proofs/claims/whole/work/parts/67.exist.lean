theorem zpg : ∀ (n : Nat) (g : Nat → Int), (∀ i : Nat, i ≤ n → 0 ≤ g i ∧ g i < (n : Int)) → ∃ i j : Nat, i < j ∧ j ≤ n ∧ g i = g j
  | 0, g, h => by have := h 0 (Nat.le_refl 0); omega
  | n + 1, g, h => by
    by_cases q : ∃ i : Nat, i ≤ n ∧ g i = g (n + 1)
    · obtain ⟨i, hi, e⟩ := q
      exact ⟨i, n + 1, by omega, Nat.le_refl _, e⟩
    · have nq : ∀ i : Nat, i ≤ n → g i ≠ g (n + 1) := fun i hi e => q ⟨i, hi, e⟩
      have hv := h (n + 1) (Nat.le_refl _)
      obtain ⟨i, j, hij, hj, e⟩ := zpg n (fun i => if g i = (n : Int) then g (n + 1) else g i) (fun i hi => by
        have h1 := h i (by omega)
        have h2 := nq i hi
        by_cases c : g i = (n : Int)
        · rw [if_pos c]; omega
        · rw [if_neg c]; omega)
      refine ⟨i, j, hij, by omega, ?_⟩
      have h1 := nq i (by omega)
      have h2 := nq j hj
      by_cases c : g i = (n : Int)
      · by_cases d : g j = (n : Int)
        · rw [c, d]
        · simp only [if_pos c, if_neg d] at e; exact absurd e.symm h2
      · by_cases d : g j = (n : Int)
        · simp only [if_neg c, if_pos d] at e; exact absurd e h1
        · simp only [if_neg c, if_neg d] at e; exact e
/-- steps from s, as far as k of them reach -/
noncomputable def zGk (op : Int → Prop) (s : Int) : Nat → Int → Int
  | 0 => fun c => @ite _ (op s ∧ c = s) (Classical.propDecidable _) 0 (-1)
  | k + 1 => fun c => @ite _ (zGk op s k c ≠ -1) (Classical.propDecidable _) (zGk op s k c) (@ite _ (op c ∧ ∃ n, zAj c n ∧ zGk op s k n ≠ -1) (Classical.propDecidable _) ((k : Int) + 1) (-1))
theorem zGk_s {op : Int → Prop} {s c : Int} {k : Nat} : (zGk op s k c ≠ -1 ∧ zGk op s (k + 1) c = zGk op s k c) ∨ (zGk op s k c = -1 ∧ (op c ∧ ∃ n, zAj c n ∧ zGk op s k n ≠ -1) ∧ zGk op s (k + 1) c = (k : Int) + 1) ∨ (zGk op s k c = -1 ∧ ¬ (op c ∧ ∃ n, zAj c n ∧ zGk op s k n ≠ -1) ∧ zGk op s (k + 1) c = -1) := by
  have e : zGk op s (k + 1) c = @ite _ (zGk op s k c ≠ -1) (Classical.propDecidable _) (zGk op s k c) (@ite _ (op c ∧ ∃ n, zAj c n ∧ zGk op s k n ≠ -1) (Classical.propDecidable _) ((k : Int) + 1) (-1)) := rfl
  by_cases q : zGk op s k c ≠ -1
  · exact Or.inl ⟨q, by rw [e, if_pos q]⟩
  · have q1 : zGk op s k c = -1 := Classical.not_not.mp q
    by_cases p : op c ∧ ∃ n, zAj c n ∧ zGk op s k n ≠ -1
    · exact Or.inr (Or.inl ⟨q1, p, by rw [e, if_neg q, if_pos p]⟩)
    · exact Or.inr (Or.inr ⟨q1, p, by rw [e, if_neg q, if_neg p]⟩)
theorem zGk_0 {op : Int → Prop} {s c : Int} : (op s ∧ c = s ∧ zGk op s 0 c = 0) ∨ (¬ (op s ∧ c = s) ∧ zGk op s 0 c = -1) := by
  have e : zGk op s 0 c = @ite _ (op s ∧ c = s) (Classical.propDecidable _) 0 (-1) := rfl
  by_cases q : op s ∧ c = s
  · exact Or.inl ⟨q.1, q.2, by rw [e, if_pos q]⟩
  · exact Or.inr ⟨q, by rw [e, if_neg q]⟩
/-- its bounds; a value above 0 has a neighbour one below -/
theorem zGk_b {op : Int → Prop} {s : Int} : ∀ (k : Nat) (c : Int), zGk op s k c = -1 ∨ (0 ≤ zGk op s k c ∧ zGk op s k c ≤ (k : Int) ∧ op c ∧ (zGk op s k c = 0 → c = s))
  | 0, c => by
    rcases zGk_0 (op := op) (s := s) (c := c) with ⟨a, b, e⟩ | ⟨a, e⟩
    · exact Or.inr ⟨by omega, by omega, by rw [b]; exact a, fun _ => b⟩
    · exact Or.inl e
  | k + 1, c => by
    have ih := zGk_b (op := op) (s := s) k c
    rcases zGk_s (op := op) (s := s) (c := c) (k := k) with ⟨a, e⟩ | ⟨a, b, e⟩ | ⟨a, b, e⟩
    · rcases ih with q | ⟨q1, q2, q3, q4⟩
      · exact absurd q a
      · rw [e]; exact Or.inr ⟨q1, by omega, q3, q4⟩
    · rw [e]; exact Or.inr ⟨by omega, by omega, b.1, fun q => by omega⟩
    · exact Or.inl e
/-- a value once had is kept -/
theorem zGk_k {op : Int → Prop} {s c : Int} {k : Nat} (h : zGk op s k c ≠ -1) : ∀ m : Nat, zGk op s (k + m) c = zGk op s k c
  | 0 => rfl
  | m + 1 => by
    have ih := zGk_k h m
    rcases zGk_s (op := op) (s := s) (c := c) (k := k + m) with ⟨a, e⟩ | ⟨a, b, e⟩ | ⟨a, b, e⟩
    · exact e.trans ih
    · rw [ih] at a; exact absurd a h
    · rw [ih] at a; exact absurd a h
/-- value j stands from stage j on -/
theorem zGk_v {op : Int → Prop} {s : Int} : ∀ (k : Nat) (c : Int) (j : Nat), zGk op s k c = (j : Int) → zGk op s j c = (j : Int)
  | 0, c, j, h => by
    have b := zGk_b (op := op) (s := s) 0 c
    have : j = 0 := by omega
    subst this; exact h
  | k + 1, c, j, h => by
    rcases zGk_s (op := op) (s := s) (c := c) (k := k) with ⟨a, e⟩ | ⟨a, b, e⟩ | ⟨a, b, e⟩
    · exact zGk_v k c j (by rw [← e]; exact h)
    · have : j = k + 1 := by omega
      subst this; exact h
    · omega
theorem zGk_n {op : Int → Prop} {s c : Int} {k j : Nat} (h : zGk op s k c = (j : Int) + 1) : ∃ n, zAj c n ∧ zGk op s k n = (j : Int) := by
  have b := zGk_b (op := op) (s := s) k c
  have jk : j + 1 ≤ k := by omega
  have h1 := zGk_v (op := op) (s := s) k c (j + 1) (by omega)
  rcases zGk_s (op := op) (s := s) (c := c) (k := j) with ⟨a, e⟩ | ⟨a, ⟨_, n, hn, hv⟩, e⟩ | ⟨a, b, e⟩
  · have q := zGk_b (op := op) (s := s) j c
    rw [e] at h1
    omega
  · refine ⟨n, hn, ?_⟩
    have bn := zGk_b (op := op) (s := s) j n
    have kn := zGk_k hv (k - j)
    rw [show j + (k - j) = k by omega] at kn
    rw [kn]
    -- a smaller value would have made c's smaller
    by_cases q : zGk op s j n = (j : Int)
    · exact q
    · exfalso
      have lt : 0 ≤ zGk op s j n ∧ zGk op s j n < (j : Int) := by omega
      have v1 := zGk_v (op := op) (s := s) j n (zGk op s j n).toNat (by omega)
      have st := zGk_s (op := op) (s := s) (c := c) (k := (zGk op s j n).toNat)
      have ne : zGk op s ((zGk op s j n).toNat + 1) c ≠ -1 := by
        rcases st with ⟨a2, e2⟩ | ⟨a2, b2, e2⟩ | ⟨a2, b2, e2⟩
        · rw [e2]; exact a2
        · rw [e2]; omega
        · exact absurd ⟨‹op c›, n, hn, by rw [v1]; omega⟩ b2
      have kk := zGk_k ne (j - ((zGk op s j n).toNat + 1))
      rw [show (zGk op s j n).toNat + 1 + (j - ((zGk op s j n).toNat + 1)) = j by omega] at kk
      rw [a] at kk
      exact ne kk.symm
  · omega
/-- with a value k there are cells of all values below -/
theorem zGk_all {op : Int → Prop} {s : Int} {k : Nat} : ∀ (j : Nat) (c : Int), 0 ≤ c → c < 36 → zGk op s k c = (j : Int) → ∀ i : Nat, i ≤ j → ∃ d, 0 ≤ d ∧ d < 36 ∧ zGk op s k d = (i : Int)
  | 0, c, c0, c1, h, i, hi => ⟨c, c0, c1, by rw [h]; omega⟩
  | j + 1, c, c0, c1, h, i, hi => by
    by_cases q : i = j + 1
    · exact ⟨c, c0, c1, by rw [h, q]⟩
    · obtain ⟨n, hn, hv⟩ := zGk_n (j := j) (by rw [h]; omega)
      have r := zAj_r c0 c1 hn
      exact zGk_all j n r.1 r.2 hv i (by omega)
theorem zGk_36 {op : Int → Prop} {s c : Int} (c0 : 0 ≤ c) (c1 : c < 36) : zGk op s 36 c ≠ 36 := fun h => by
  have hh := zGk_all (op := op) (s := s) (k := 36) 36 c c0 c1 h
  have hc : ∀ i : Nat, ∃ d : Int, i ≤ 36 → 0 ≤ d ∧ d < 36 ∧ zGk op s 36 d = (i : Int) := fun i => by
    by_cases q : i ≤ 36
    · obtain ⟨d, e⟩ := hh i q
      exact ⟨d, fun _ => e⟩
    · exact ⟨0, fun q2 => absurd q2 q⟩
  obtain ⟨g, hg⟩ := Classical.axiomOfChoice hc
  obtain ⟨i, j, hij, hj, e⟩ := zpg 36 g (fun i hi => ⟨(hg i hi).1, (hg i hi).2.1⟩)
  have a := (hg i (by omega)).2.2
  have b := (hg j hj).2.2
  rw [e, b] at a
  omega
theorem zDM_ex {op : Int → Prop} {s : Int} (s0 : 0 ≤ s) (s1 : s < 36) : zDM op s (zGk op s 36) := by
  refine ⟨fun c c0 c1 => ?_, fun o => ?_, fun c c0 c1 h => ?_, fun c c0 c1 h => ?_, fun c n n0 n1 aj oc hn => ?_⟩
  · rcases zGk_b (op := op) (s := s) 36 c with q | ⟨a, b, d, _⟩
    · exact Or.inl q
    · exact Or.inr ⟨a, by omega, d⟩
  · rcases zGk_0 (op := op) (s := s) (c := s) with ⟨_, _, e⟩ | ⟨a, _⟩
    · have := zGk_k (op := op) (s := s) (c := s) (k := 0) (by rw [e]; decide) 36
      rw [show 0 + 36 = 36 from rfl, e] at this
      exact this
    · exact absurd ⟨o, rfl⟩ a
  · rcases zGk_b (op := op) (s := s) 36 c with q | ⟨a, b, d, e⟩
    · omega
    · exact e h
  · obtain ⟨n, a, b⟩ := zGk_n (op := op) (s := s) (k := 36) (c := c) (j := (zGk op s 36 c - 1).toNat) (by omega)
    exact ⟨n, a, by rw [b]; omega⟩
  · have bn := zGk_b (op := op) (s := s) 36 n
    have lt : zGk op s 36 n ≠ 36 := zGk_36 n0 n1
    have ajc : zAj c n := zAj_s n0 n1 aj
    have v := zGk_v (op := op) (s := s) 36 n (zGk op s 36 n).toNat (by omega)
    have ne : zGk op s ((zGk op s 36 n).toNat + 1) c ≠ -1 := by
      rcases zGk_s (op := op) (s := s) (c := c) (k := (zGk op s 36 n).toNat) with ⟨a2, e2⟩ | ⟨a2, b2, e2⟩ | ⟨a2, b2, e2⟩
      · rw [e2]; exact a2
      · rw [e2]; omega
      · exact absurd ⟨oc, n, ajc, by rw [v]; omega⟩ b2
    have kk := zGk_k ne (36 - ((zGk op s 36 n).toNat + 1))
    rw [show (zGk op s 36 n).toNat + 1 + (36 - ((zGk op s 36 n).toNat + 1)) = 36 by omega] at kk
    have bb := zGk_b (op := op) (s := s) ((zGk op s 36 n).toNat + 1) c
    rw [kk]
    exact ⟨ne, by omega⟩
theorem zWk_D {V : zM} {x : Int} (h0 : 0 ≤ x) (h1 : x < 36) : zDM (zOp V) x (zWk V x) := zWk_of (zDM_ex h0 h1)
