/-! A HOUSE AS IT IS SEEN: one function of a kind and a place, 0 where nothing is; what the calls of a house answer and make of it -/
noncomputable def zif {α : Sort _} (P : Prop) (a b : α) : α := @ite α P (Classical.propDecidable P) a b
theorem zif_t {α : Sort _} {P : Prop} {a b : α} (h : P) : zif P a b = a := by unfold zif; exact if_pos h
theorem zif_f {α : Sort _} {P : Prop} {a b : α} (h : ¬ P) : zif P a b = b := by unfold zif; exact if_neg h
/-- kinds: 0 walls, 1 creaks, 2 beds' cells, 3 numbers (beds, fade, door, sleepers, sounds, rules), 4.. of sleepers (hears, again, goes, up, snores, lies), 10.. of sounds (kind, x, a, b, v), 15.. of rules (sleeper, bed, has) -/
def zHV (μ : zM) (h : Nat) : zM := fun k i =>
  match k with
  | 0 => if 0 ≤ i ∧ i < 36 then μ (h + 2) i else 0
  | 1 => if 0 ≤ i ∧ i < 36 then μ (h + 3) i else 0
  | 2 => if 0 ≤ i ∧ i < μ (h + 1) 3 then μ (h + 4) i else 0
  | 3 => if i = 0 then μ (h + 1) 3 else if i = 1 then μ (h + 1) 4 else if i = 2 then μ (h + 1) 5 else if i = 3 then μ (h + 5) 6 else if i = 4 then μ (h + 12) 5 else if i = 5 then μ (h + 18) 3 else 0
  | 4 => if 0 ≤ i ∧ i < μ (h + 5) 6 then μ (h + 6) i else 0
  | 5 => if 0 ≤ i ∧ i < μ (h + 5) 6 then μ (h + 7) i else 0
  | 6 => if 0 ≤ i ∧ i < μ (h + 5) 6 then μ (h + 8) i else 0
  | 7 => if 0 ≤ i ∧ i < μ (h + 5) 6 then μ (h + 9) i else 0
  | 8 => if 0 ≤ i ∧ i < μ (h + 5) 6 then μ (h + 10) i else 0
  | 9 => if 0 ≤ i ∧ i < μ (h + 5) 6 then μ (h + 11) i else 0
  | 10 => if 0 ≤ i ∧ i < μ (h + 12) 5 then μ (h + 13) i else 0
  | 11 => if 0 ≤ i ∧ i < μ (h + 12) 5 then μ (h + 14) i else 0
  | 12 => if 0 ≤ i ∧ i < μ (h + 12) 5 then μ (h + 15) i else 0
  | 13 => if 0 ≤ i ∧ i < μ (h + 12) 5 then μ (h + 16) i else 0
  | 14 => if 0 ≤ i ∧ i < μ (h + 12) 5 then μ (h + 17) i else 0
  | 15 => if 0 ≤ i ∧ i < μ (h + 18) 3 then μ (h + 19) i else 0
  | 16 => if 0 ≤ i ∧ i < μ (h + 18) 3 then μ (h + 20) i else 0
  | 17 => if 0 ≤ i ∧ i < μ (h + 18) 3 then μ (h + 21) i else 0
  | _ => 0
/-- the same, out of the reference's one row of numbers -/
def zBV (b : Int → Int) : zM := fun k i =>
  match k with
  | 0 => if 0 ≤ i ∧ i < 36 then b (10 + i) else 0
  | 1 => if 0 ≤ i ∧ i < 36 then b (46 + i) else 0
  | 2 => if 0 ≤ i ∧ i < b 1 then b (82 + i) else 0
  | 3 => if i = 0 then b 1 else if i = 1 then b 5 else if i = 2 then b 6 else if i = 3 then b 2 else if i = 4 then b 3 else if i = 5 then b 4 else 0
  | 4 => if 0 ≤ i ∧ i < b 2 then b (90 + 6 * i) else 0
  | 5 => if 0 ≤ i ∧ i < b 2 then b (90 + 6 * i + 1) else 0
  | 6 => if 0 ≤ i ∧ i < b 2 then b (90 + 6 * i + 2) else 0
  | 7 => if 0 ≤ i ∧ i < b 2 then b (90 + 6 * i + 3) else 0
  | 8 => if 0 ≤ i ∧ i < b 2 then b (90 + 6 * i + 4) else 0
  | 9 => if 0 ≤ i ∧ i < b 2 then b (90 + 6 * i + 5) else 0
  | 10 => if 0 ≤ i ∧ i < b 3 then b (120 + 5 * i) else 0
  | 11 => if 0 ≤ i ∧ i < b 3 then b (120 + 5 * i + 1) else 0
  | 12 => if 0 ≤ i ∧ i < b 3 then b (120 + 5 * i + 2) else 0
  | 13 => if 0 ≤ i ∧ i < b 3 then b (120 + 5 * i + 3) else 0
  | 14 => if 0 ≤ i ∧ i < b 3 then b (120 + 5 * i + 4) else 0
  | 15 => if 0 ≤ i ∧ i < b 4 then b (160 + 3 * i) else 0
  | 16 => if 0 ≤ i ∧ i < b 4 then b (160 + 3 * i + 1) else 0
  | 17 => if 0 ≤ i ∧ i < b 4 then b (160 + 3 * i + 2) else 0
  | _ => 0
def zFr (h n : Nat) (μ ν : zM) : Prop := ∀ a : Nat, (a < h ∨ h + n ≤ a) → ν a = μ a
theorem zFr_rf {h n : Nat} {μ : zM} : zFr h n μ μ := fun _ _ => rfl
theorem zFr_up {h n a : Nat} {μ : zM} {i v : Int} (h0 : h ≤ a) (h1 : a < h + n) : zFr h n μ (zup μ a i v) := fun b hb => zup_row (by omega)
theorem zFr_tr {h n : Nat} {μ ν ξ : zM} (h1 : zFr h n μ ν) (h2 : zFr h n ν ξ) : zFr h n μ ξ := fun a ha => (h2 a ha).trans (h1 a ha)
theorem zFr_mono {h n h2 n2 : Nat} {μ ν : zM} (q : zFr h n μ ν) (h0 : h2 ≤ h) (h1 : h + n ≤ h2 + n2) : zFr h2 n2 μ ν := fun a ha => q a (by omega)
/-- only the counts and places that a house may have -/
def zOKf (V : zM) : Prop := (∀ c, 0 ≤ c → c < 36 → (V 0 c = 0 ∨ V 0 c = 1) ∧ 0 ≤ V 1 c ∧ V 1 c ≤ 40) ∧ (0 ≤ V 3 0 ∧ V 3 0 ≤ 6) ∧ (∀ i, 0 ≤ i → i < V 3 0 → 0 ≤ V 2 i ∧ V 2 i < 36 ∧ V 0 (V 2 i) = 0) ∧ (0 ≤ V 3 1 ∧ V 3 1 ≤ 9) ∧ (0 ≤ V 3 2 ∧ V 3 2 < 36 ∧ V 0 (V 3 2) = 0)
def zOKp (V : zM) : Prop := (0 ≤ V 3 3 ∧ V 3 3 ≤ 5) ∧ ∀ i, 0 ≤ i → i < V 3 3 → (1 ≤ V 4 i ∧ V 4 i ≤ 1000) ∧ (1 ≤ V 5 i ∧ V 5 i ≤ 9) ∧ (0 ≤ V 6 i ∧ V 6 i < V 7 i ∧ V 7 i ≤ 40) ∧ (0 ≤ V 8 i ∧ V 8 i ≤ 60) ∧ (-1 ≤ V 9 i ∧ V 9 i < V 3 0)
def zOKs (V : zM) : Prop := (0 ≤ V 3 4 ∧ V 3 4 ≤ 8) ∧ ∀ i, 0 ≤ i → i < V 3 4 → (0 ≤ V 10 i ∧ V 10 i ≤ 4) ∧ (V 10 i = 0 → 0 ≤ V 11 i ∧ V 11 i < 36) ∧ (1 ≤ V 10 i → V 10 i ≤ 3 → 0 ≤ V 11 i ∧ V 11 i < V 3 3) ∧ (V 10 i = 4 → V 11 i = 0) ∧ (0 ≤ V 12 i ∧ V 12 i ≤ V 13 i ∧ V 13 i ≤ 39) ∧ (0 ≤ V 14 i ∧ V 14 i ≤ 60)
def zOKr (V : zM) : Prop := (0 ≤ V 3 5 ∧ V 3 5 ≤ 4) ∧ ∀ i, 0 ≤ i → i < V 3 5 → (0 ≤ V 15 i ∧ V 15 i < V 3 3) ∧ (0 ≤ V 16 i ∧ V 16 i < V 3 0) ∧ (V 17 i = 0 ∨ V 17 i = 1)
def zOK (V : zM) : Prop := zOKf V ∧ zOKp V ∧ zOKs V ∧ zOKr V
/-- a bed stands in the cell -/
def zBA (V : zM) (c : Int) : Prop := ∃ i, 0 ≤ i ∧ i < V 3 0 ∧ V 2 i = c
def zTK (V : zM) (s b : Int) : Prop := ∃ k, 0 ≤ k ∧ k < V 3 3 ∧ k ≠ s ∧ V 9 k = b
noncomputable def spW (V : zM) (c s : Int) : Int × zM := zif (¬ (0 ≤ c ∧ c < 36) ∨ c = V 3 2 ∨ zBA V c) (-2, V) (zif (V 0 c = s) (-3, V) (1, zup V 0 c s))
noncomputable def spC (V : zM) (c k : Int) : Int × zM := zif (¬ (0 ≤ c ∧ c < 36) ∨ ¬ (0 ≤ k ∧ k ≤ 40)) (-2, V) (V 1 c, zup V 1 c k)
noncomputable def spF (V : zM) (v : Int) : Int × zM := zif (¬ (0 ≤ v ∧ v ≤ 9)) (-2, V) (V 3 1, zup V 3 1 v)
noncomputable def spD (V : zM) (v : Int) : Int × zM := zif (¬ (0 ≤ v ∧ v < 36) ∨ V 0 v = 1) (-2, V) (V 3 2, zup V 3 2 v)
noncomputable def spB (V : zM) (c : Int) : Int × zM := zif (¬ (0 ≤ c ∧ c < 36) ∨ V 0 c = 1 ∨ zBA V c) (-2, V) (zif (V 3 0 = 6) (-4, V) (V 3 0, zup (zup V 2 (V 3 0) c) 3 0 (V 3 0 + 1)))
noncomputable def spS (V : zM) (a b c d e : Int) : Int × zM := zif (¬ (1 ≤ a ∧ a ≤ 60) ∨ ¬ (1 ≤ b ∧ b ≤ 9) ∨ ¬ (0 ≤ c ∧ c ≤ 39) ∨ ¬ (c + 1 ≤ d ∧ d ≤ 40) ∨ ¬ (0 ≤ e ∧ e ≤ 60)) (-2, V) (zif (V 3 3 = 5) (-4, V) (V 3 3, zup (zup (zup (zup (zup (zup (zup V 4 (V 3 3) a) 5 (V 3 3) b) 6 (V 3 3) c) 7 (V 3 3) d) 8 (V 3 3) e) 9 (V 3 3) (-1)) 3 3 (V 3 3 + 1)))
noncomputable def spL (V : zM) (s b : Int) : Int × zM := zif (¬ (0 ≤ s ∧ s < V 3 3) ∨ (b ≠ -1 ∧ ¬ (0 ≤ b ∧ b < V 3 0))) (-2, V) (zif (b ≠ -1 ∧ zTK V s b) (-3, V) (V 9 s, zup V 9 s b))
/-- a sound of that kind may have that x -/
def zOf (V : zM) (k x : Int) : Prop := (k = 0 ∧ 0 ≤ x ∧ x < 36) ∨ (k = 4 ∧ x = 0) ∨ (1 ≤ k ∧ k ≤ 3 ∧ 0 ≤ x ∧ x < V 3 3)
noncomputable def spN (V : zM) (k x a b v : Int) : Int × zM := zif (¬ zOf V k x ∨ ¬ (0 ≤ a ∧ a ≤ 39) ∨ ¬ (a ≤ b ∧ b ≤ 39) ∨ ¬ (0 ≤ v ∧ v ≤ 60)) (-2, V) (zif (V 3 4 = 8) (-4, V) (V 3 4, zup (zup (zup (zup (zup (zup V 10 (V 3 4) k) 11 (V 3 4) x) 12 (V 3 4) a) 13 (V 3 4) b) 14 (V 3 4) v) 3 4 (V 3 4 + 1)))
noncomputable def spR (V : zM) (s b h : Int) : Int × zM := zif (¬ (0 ≤ s ∧ s < V 3 3) ∨ ¬ (0 ≤ b ∧ b < V 3 0)) (-2, V) (zif (V 3 5 = 4) (-4, V) (V 3 5, zup (zup (zup (zup V 15 (V 3 5) s) 16 (V 3 5) b) 17 (V 3 5) h) 3 5 (V 3 5 + 1)))
def zdropS (V : zM) : zM := fun k i => if 10 ≤ k ∧ k ≤ 14 ∧ i = V 3 4 - 1 then 0 else if k = 3 ∧ i = 4 then V 3 4 - 1 else V k i
noncomputable def spX (V : zM) : Int × zM := zif (V 3 4 = 0) (-3, V) (1, zdropS V)
def zfree (V : zM) : zM := fun k i => if 15 ≤ k ∧ k ≤ 17 then 0 else if k = 3 ∧ i = 5 then 0 else V k i
/-- a new house -/
def zV0 : zM := fun k i => if k = 3 ∧ i = 1 then 2 else 0
def zsum (f : Int → Int) : Nat → Int
  | 0 => 0
  | n + 1 => zsum f n + f (n : Int)
theorem zHV_w {μ : zM} {h : Nat} {c v : Int} (h0 : 0 ≤ c) (h1 : c < 36) : zHV (zup μ (h + 2) c v) h = zup (zHV μ h) 0 c v := by
  funext k i
  unfold zHV zup
  match k with
  | 0 => (simp only [Nat.reduceEqDiff, Nat.add_left_cancel_iff, Nat.reduceAdd, false_and, true_and, if_false, if_true, reduceCtorEq]; repeat' split) <;> first | rfl | omega | (simp_all; done) | (simp_all; omega)
  | 1 => (simp only [Nat.reduceEqDiff, Nat.add_left_cancel_iff, Nat.reduceAdd, false_and, true_and, if_false, if_true, reduceCtorEq]; repeat' split) <;> first | rfl | omega | (simp_all; done) | (simp_all; omega)
  | 2 => (simp only [Nat.reduceEqDiff, Nat.add_left_cancel_iff, Nat.reduceAdd, false_and, true_and, if_false, if_true, reduceCtorEq]; repeat' split) <;> first | rfl | omega | (simp_all; done) | (simp_all; omega)
  | 3 => (simp only [Nat.reduceEqDiff, Nat.add_left_cancel_iff, Nat.reduceAdd, false_and, true_and, if_false, if_true, reduceCtorEq]; repeat' split) <;> first | rfl | omega | (simp_all; done) | (simp_all; omega)
  | 4 => (simp only [Nat.reduceEqDiff, Nat.add_left_cancel_iff, Nat.reduceAdd, false_and, true_and, if_false, if_true, reduceCtorEq]; repeat' split) <;> first | rfl | omega | (simp_all; done) | (simp_all; omega)
  | 5 => (simp only [Nat.reduceEqDiff, Nat.add_left_cancel_iff, Nat.reduceAdd, false_and, true_and, if_false, if_true, reduceCtorEq]; repeat' split) <;> first | rfl | omega | (simp_all; done) | (simp_all; omega)
  | 6 => (simp only [Nat.reduceEqDiff, Nat.add_left_cancel_iff, Nat.reduceAdd, false_and, true_and, if_false, if_true, reduceCtorEq]; repeat' split) <;> first | rfl | omega | (simp_all; done) | (simp_all; omega)
  | 7 => (simp only [Nat.reduceEqDiff, Nat.add_left_cancel_iff, Nat.reduceAdd, false_and, true_and, if_false, if_true, reduceCtorEq]; repeat' split) <;> first | rfl | omega | (simp_all; done) | (simp_all; omega)
  | 8 => (simp only [Nat.reduceEqDiff, Nat.add_left_cancel_iff, Nat.reduceAdd, false_and, true_and, if_false, if_true, reduceCtorEq]; repeat' split) <;> first | rfl | omega | (simp_all; done) | (simp_all; omega)
  | 9 => (simp only [Nat.reduceEqDiff, Nat.add_left_cancel_iff, Nat.reduceAdd, false_and, true_and, if_false, if_true, reduceCtorEq]; repeat' split) <;> first | rfl | omega | (simp_all; done) | (simp_all; omega)
  | 10 => (simp only [Nat.reduceEqDiff, Nat.add_left_cancel_iff, Nat.reduceAdd, false_and, true_and, if_false, if_true, reduceCtorEq]; repeat' split) <;> first | rfl | omega | (simp_all; done) | (simp_all; omega)
  | 11 => (simp only [Nat.reduceEqDiff, Nat.add_left_cancel_iff, Nat.reduceAdd, false_and, true_and, if_false, if_true, reduceCtorEq]; repeat' split) <;> first | rfl | omega | (simp_all; done) | (simp_all; omega)
  | 12 => (simp only [Nat.reduceEqDiff, Nat.add_left_cancel_iff, Nat.reduceAdd, false_and, true_and, if_false, if_true, reduceCtorEq]; repeat' split) <;> first | rfl | omega | (simp_all; done) | (simp_all; omega)
  | 13 => (simp only [Nat.reduceEqDiff, Nat.add_left_cancel_iff, Nat.reduceAdd, false_and, true_and, if_false, if_true, reduceCtorEq]; repeat' split) <;> first | rfl | omega | (simp_all; done) | (simp_all; omega)
  | 14 => (simp only [Nat.reduceEqDiff, Nat.add_left_cancel_iff, Nat.reduceAdd, false_and, true_and, if_false, if_true, reduceCtorEq]; repeat' split) <;> first | rfl | omega | (simp_all; done) | (simp_all; omega)
  | 15 => (simp only [Nat.reduceEqDiff, Nat.add_left_cancel_iff, Nat.reduceAdd, false_and, true_and, if_false, if_true, reduceCtorEq]; repeat' split) <;> first | rfl | omega | (simp_all; done) | (simp_all; omega)
  | 16 => (simp only [Nat.reduceEqDiff, Nat.add_left_cancel_iff, Nat.reduceAdd, false_and, true_and, if_false, if_true, reduceCtorEq]; repeat' split) <;> first | rfl | omega | (simp_all; done) | (simp_all; omega)
  | 17 => (simp only [Nat.reduceEqDiff, Nat.add_left_cancel_iff, Nat.reduceAdd, false_and, true_and, if_false, if_true, reduceCtorEq]; repeat' split) <;> first | rfl | omega | (simp_all; done) | (simp_all; omega)
  | n + 18 => (simp only [Nat.reduceEqDiff, Nat.add_left_cancel_iff, Nat.reduceAdd, false_and, true_and, if_false, if_true, reduceCtorEq]; repeat' split) <;> first | rfl | omega | (simp_all; done) | (simp_all; omega)
theorem zHV_c {μ : zM} {h : Nat} {c v : Int} (h0 : 0 ≤ c) (h1 : c < 36) : zHV (zup μ (h + 3) c v) h = zup (zHV μ h) 1 c v := by
  funext k i
  unfold zHV zup
  match k with
  | 0 => (simp only [Nat.reduceEqDiff, Nat.add_left_cancel_iff, Nat.reduceAdd, false_and, true_and, if_false, if_true, reduceCtorEq]; repeat' split) <;> first | rfl | omega | (simp_all; done) | (simp_all; omega)
  | 1 => (simp only [Nat.reduceEqDiff, Nat.add_left_cancel_iff, Nat.reduceAdd, false_and, true_and, if_false, if_true, reduceCtorEq]; repeat' split) <;> first | rfl | omega | (simp_all; done) | (simp_all; omega)
  | 2 => (simp only [Nat.reduceEqDiff, Nat.add_left_cancel_iff, Nat.reduceAdd, false_and, true_and, if_false, if_true, reduceCtorEq]; repeat' split) <;> first | rfl | omega | (simp_all; done) | (simp_all; omega)
  | 3 => (simp only [Nat.reduceEqDiff, Nat.add_left_cancel_iff, Nat.reduceAdd, false_and, true_and, if_false, if_true, reduceCtorEq]; repeat' split) <;> first | rfl | omega | (simp_all; done) | (simp_all; omega)
  | 4 => (simp only [Nat.reduceEqDiff, Nat.add_left_cancel_iff, Nat.reduceAdd, false_and, true_and, if_false, if_true, reduceCtorEq]; repeat' split) <;> first | rfl | omega | (simp_all; done) | (simp_all; omega)
  | 5 => (simp only [Nat.reduceEqDiff, Nat.add_left_cancel_iff, Nat.reduceAdd, false_and, true_and, if_false, if_true, reduceCtorEq]; repeat' split) <;> first | rfl | omega | (simp_all; done) | (simp_all; omega)
  | 6 => (simp only [Nat.reduceEqDiff, Nat.add_left_cancel_iff, Nat.reduceAdd, false_and, true_and, if_false, if_true, reduceCtorEq]; repeat' split) <;> first | rfl | omega | (simp_all; done) | (simp_all; omega)
  | 7 => (simp only [Nat.reduceEqDiff, Nat.add_left_cancel_iff, Nat.reduceAdd, false_and, true_and, if_false, if_true, reduceCtorEq]; repeat' split) <;> first | rfl | omega | (simp_all; done) | (simp_all; omega)
  | 8 => (simp only [Nat.reduceEqDiff, Nat.add_left_cancel_iff, Nat.reduceAdd, false_and, true_and, if_false, if_true, reduceCtorEq]; repeat' split) <;> first | rfl | omega | (simp_all; done) | (simp_all; omega)
  | 9 => (simp only [Nat.reduceEqDiff, Nat.add_left_cancel_iff, Nat.reduceAdd, false_and, true_and, if_false, if_true, reduceCtorEq]; repeat' split) <;> first | rfl | omega | (simp_all; done) | (simp_all; omega)
  | 10 => (simp only [Nat.reduceEqDiff, Nat.add_left_cancel_iff, Nat.reduceAdd, false_and, true_and, if_false, if_true, reduceCtorEq]; repeat' split) <;> first | rfl | omega | (simp_all; done) | (simp_all; omega)
  | 11 => (simp only [Nat.reduceEqDiff, Nat.add_left_cancel_iff, Nat.reduceAdd, false_and, true_and, if_false, if_true, reduceCtorEq]; repeat' split) <;> first | rfl | omega | (simp_all; done) | (simp_all; omega)
  | 12 => (simp only [Nat.reduceEqDiff, Nat.add_left_cancel_iff, Nat.reduceAdd, false_and, true_and, if_false, if_true, reduceCtorEq]; repeat' split) <;> first | rfl | omega | (simp_all; done) | (simp_all; omega)
  | 13 => (simp only [Nat.reduceEqDiff, Nat.add_left_cancel_iff, Nat.reduceAdd, false_and, true_and, if_false, if_true, reduceCtorEq]; repeat' split) <;> first | rfl | omega | (simp_all; done) | (simp_all; omega)
  | 14 => (simp only [Nat.reduceEqDiff, Nat.add_left_cancel_iff, Nat.reduceAdd, false_and, true_and, if_false, if_true, reduceCtorEq]; repeat' split) <;> first | rfl | omega | (simp_all; done) | (simp_all; omega)
  | 15 => (simp only [Nat.reduceEqDiff, Nat.add_left_cancel_iff, Nat.reduceAdd, false_and, true_and, if_false, if_true, reduceCtorEq]; repeat' split) <;> first | rfl | omega | (simp_all; done) | (simp_all; omega)
  | 16 => (simp only [Nat.reduceEqDiff, Nat.add_left_cancel_iff, Nat.reduceAdd, false_and, true_and, if_false, if_true, reduceCtorEq]; repeat' split) <;> first | rfl | omega | (simp_all; done) | (simp_all; omega)
  | 17 => (simp only [Nat.reduceEqDiff, Nat.add_left_cancel_iff, Nat.reduceAdd, false_and, true_and, if_false, if_true, reduceCtorEq]; repeat' split) <;> first | rfl | omega | (simp_all; done) | (simp_all; omega)
  | n + 18 => (simp only [Nat.reduceEqDiff, Nat.add_left_cancel_iff, Nat.reduceAdd, false_and, true_and, if_false, if_true, reduceCtorEq]; repeat' split) <;> first | rfl | omega | (simp_all; done) | (simp_all; omega)
theorem zHV_f {μ : zM} {h : Nat} {v : Int} : zHV (zup μ (h + 1) 4 v) h = zup (zHV μ h) 3 1 v := by
  funext k i
  unfold zHV zup
  match k with
  | 0 => (simp only [Nat.reduceEqDiff, Nat.add_left_cancel_iff, Nat.reduceAdd, false_and, true_and, if_false, if_true, reduceCtorEq]; repeat' split) <;> first | rfl | omega | (simp_all; done) | (simp_all; omega)
  | 1 => (simp only [Nat.reduceEqDiff, Nat.add_left_cancel_iff, Nat.reduceAdd, false_and, true_and, if_false, if_true, reduceCtorEq]; repeat' split) <;> first | rfl | omega | (simp_all; done) | (simp_all; omega)
  | 2 => (simp only [Nat.reduceEqDiff, Nat.add_left_cancel_iff, Nat.reduceAdd, false_and, true_and, if_false, if_true, reduceCtorEq]; repeat' split) <;> first | rfl | omega | (simp_all; done) | (simp_all; omega)
  | 3 => (simp only [Nat.reduceEqDiff, Nat.add_left_cancel_iff, Nat.reduceAdd, false_and, true_and, if_false, if_true, reduceCtorEq]; repeat' split) <;> first | rfl | omega | (simp_all; done) | (simp_all; omega)
  | 4 => (simp only [Nat.reduceEqDiff, Nat.add_left_cancel_iff, Nat.reduceAdd, false_and, true_and, if_false, if_true, reduceCtorEq]; repeat' split) <;> first | rfl | omega | (simp_all; done) | (simp_all; omega)
  | 5 => (simp only [Nat.reduceEqDiff, Nat.add_left_cancel_iff, Nat.reduceAdd, false_and, true_and, if_false, if_true, reduceCtorEq]; repeat' split) <;> first | rfl | omega | (simp_all; done) | (simp_all; omega)
  | 6 => (simp only [Nat.reduceEqDiff, Nat.add_left_cancel_iff, Nat.reduceAdd, false_and, true_and, if_false, if_true, reduceCtorEq]; repeat' split) <;> first | rfl | omega | (simp_all; done) | (simp_all; omega)
  | 7 => (simp only [Nat.reduceEqDiff, Nat.add_left_cancel_iff, Nat.reduceAdd, false_and, true_and, if_false, if_true, reduceCtorEq]; repeat' split) <;> first | rfl | omega | (simp_all; done) | (simp_all; omega)
  | 8 => (simp only [Nat.reduceEqDiff, Nat.add_left_cancel_iff, Nat.reduceAdd, false_and, true_and, if_false, if_true, reduceCtorEq]; repeat' split) <;> first | rfl | omega | (simp_all; done) | (simp_all; omega)
  | 9 => (simp only [Nat.reduceEqDiff, Nat.add_left_cancel_iff, Nat.reduceAdd, false_and, true_and, if_false, if_true, reduceCtorEq]; repeat' split) <;> first | rfl | omega | (simp_all; done) | (simp_all; omega)
  | 10 => (simp only [Nat.reduceEqDiff, Nat.add_left_cancel_iff, Nat.reduceAdd, false_and, true_and, if_false, if_true, reduceCtorEq]; repeat' split) <;> first | rfl | omega | (simp_all; done) | (simp_all; omega)
  | 11 => (simp only [Nat.reduceEqDiff, Nat.add_left_cancel_iff, Nat.reduceAdd, false_and, true_and, if_false, if_true, reduceCtorEq]; repeat' split) <;> first | rfl | omega | (simp_all; done) | (simp_all; omega)
  | 12 => (simp only [Nat.reduceEqDiff, Nat.add_left_cancel_iff, Nat.reduceAdd, false_and, true_and, if_false, if_true, reduceCtorEq]; repeat' split) <;> first | rfl | omega | (simp_all; done) | (simp_all; omega)
  | 13 => (simp only [Nat.reduceEqDiff, Nat.add_left_cancel_iff, Nat.reduceAdd, false_and, true_and, if_false, if_true, reduceCtorEq]; repeat' split) <;> first | rfl | omega | (simp_all; done) | (simp_all; omega)
  | 14 => (simp only [Nat.reduceEqDiff, Nat.add_left_cancel_iff, Nat.reduceAdd, false_and, true_and, if_false, if_true, reduceCtorEq]; repeat' split) <;> first | rfl | omega | (simp_all; done) | (simp_all; omega)
  | 15 => (simp only [Nat.reduceEqDiff, Nat.add_left_cancel_iff, Nat.reduceAdd, false_and, true_and, if_false, if_true, reduceCtorEq]; repeat' split) <;> first | rfl | omega | (simp_all; done) | (simp_all; omega)
  | 16 => (simp only [Nat.reduceEqDiff, Nat.add_left_cancel_iff, Nat.reduceAdd, false_and, true_and, if_false, if_true, reduceCtorEq]; repeat' split) <;> first | rfl | omega | (simp_all; done) | (simp_all; omega)
  | 17 => (simp only [Nat.reduceEqDiff, Nat.add_left_cancel_iff, Nat.reduceAdd, false_and, true_and, if_false, if_true, reduceCtorEq]; repeat' split) <;> first | rfl | omega | (simp_all; done) | (simp_all; omega)
  | n + 18 => (simp only [Nat.reduceEqDiff, Nat.add_left_cancel_iff, Nat.reduceAdd, false_and, true_and, if_false, if_true, reduceCtorEq]; repeat' split) <;> first | rfl | omega | (simp_all; done) | (simp_all; omega)
theorem zHV_d {μ : zM} {h : Nat} {v : Int} : zHV (zup μ (h + 1) 5 v) h = zup (zHV μ h) 3 2 v := by
  funext k i
  unfold zHV zup
  match k with
  | 0 => (simp only [Nat.reduceEqDiff, Nat.add_left_cancel_iff, Nat.reduceAdd, false_and, true_and, if_false, if_true, reduceCtorEq]; repeat' split) <;> first | rfl | omega | (simp_all; done) | (simp_all; omega)
  | 1 => (simp only [Nat.reduceEqDiff, Nat.add_left_cancel_iff, Nat.reduceAdd, false_and, true_and, if_false, if_true, reduceCtorEq]; repeat' split) <;> first | rfl | omega | (simp_all; done) | (simp_all; omega)
  | 2 => (simp only [Nat.reduceEqDiff, Nat.add_left_cancel_iff, Nat.reduceAdd, false_and, true_and, if_false, if_true, reduceCtorEq]; repeat' split) <;> first | rfl | omega | (simp_all; done) | (simp_all; omega)
  | 3 => (simp only [Nat.reduceEqDiff, Nat.add_left_cancel_iff, Nat.reduceAdd, false_and, true_and, if_false, if_true, reduceCtorEq]; repeat' split) <;> first | rfl | omega | (simp_all; done) | (simp_all; omega)
  | 4 => (simp only [Nat.reduceEqDiff, Nat.add_left_cancel_iff, Nat.reduceAdd, false_and, true_and, if_false, if_true, reduceCtorEq]; repeat' split) <;> first | rfl | omega | (simp_all; done) | (simp_all; omega)
  | 5 => (simp only [Nat.reduceEqDiff, Nat.add_left_cancel_iff, Nat.reduceAdd, false_and, true_and, if_false, if_true, reduceCtorEq]; repeat' split) <;> first | rfl | omega | (simp_all; done) | (simp_all; omega)
  | 6 => (simp only [Nat.reduceEqDiff, Nat.add_left_cancel_iff, Nat.reduceAdd, false_and, true_and, if_false, if_true, reduceCtorEq]; repeat' split) <;> first | rfl | omega | (simp_all; done) | (simp_all; omega)
  | 7 => (simp only [Nat.reduceEqDiff, Nat.add_left_cancel_iff, Nat.reduceAdd, false_and, true_and, if_false, if_true, reduceCtorEq]; repeat' split) <;> first | rfl | omega | (simp_all; done) | (simp_all; omega)
  | 8 => (simp only [Nat.reduceEqDiff, Nat.add_left_cancel_iff, Nat.reduceAdd, false_and, true_and, if_false, if_true, reduceCtorEq]; repeat' split) <;> first | rfl | omega | (simp_all; done) | (simp_all; omega)
  | 9 => (simp only [Nat.reduceEqDiff, Nat.add_left_cancel_iff, Nat.reduceAdd, false_and, true_and, if_false, if_true, reduceCtorEq]; repeat' split) <;> first | rfl | omega | (simp_all; done) | (simp_all; omega)
  | 10 => (simp only [Nat.reduceEqDiff, Nat.add_left_cancel_iff, Nat.reduceAdd, false_and, true_and, if_false, if_true, reduceCtorEq]; repeat' split) <;> first | rfl | omega | (simp_all; done) | (simp_all; omega)
  | 11 => (simp only [Nat.reduceEqDiff, Nat.add_left_cancel_iff, Nat.reduceAdd, false_and, true_and, if_false, if_true, reduceCtorEq]; repeat' split) <;> first | rfl | omega | (simp_all; done) | (simp_all; omega)
  | 12 => (simp only [Nat.reduceEqDiff, Nat.add_left_cancel_iff, Nat.reduceAdd, false_and, true_and, if_false, if_true, reduceCtorEq]; repeat' split) <;> first | rfl | omega | (simp_all; done) | (simp_all; omega)
  | 13 => (simp only [Nat.reduceEqDiff, Nat.add_left_cancel_iff, Nat.reduceAdd, false_and, true_and, if_false, if_true, reduceCtorEq]; repeat' split) <;> first | rfl | omega | (simp_all; done) | (simp_all; omega)
  | 14 => (simp only [Nat.reduceEqDiff, Nat.add_left_cancel_iff, Nat.reduceAdd, false_and, true_and, if_false, if_true, reduceCtorEq]; repeat' split) <;> first | rfl | omega | (simp_all; done) | (simp_all; omega)
  | 15 => (simp only [Nat.reduceEqDiff, Nat.add_left_cancel_iff, Nat.reduceAdd, false_and, true_and, if_false, if_true, reduceCtorEq]; repeat' split) <;> first | rfl | omega | (simp_all; done) | (simp_all; omega)
  | 16 => (simp only [Nat.reduceEqDiff, Nat.add_left_cancel_iff, Nat.reduceAdd, false_and, true_and, if_false, if_true, reduceCtorEq]; repeat' split) <;> first | rfl | omega | (simp_all; done) | (simp_all; omega)
  | 17 => (simp only [Nat.reduceEqDiff, Nat.add_left_cancel_iff, Nat.reduceAdd, false_and, true_and, if_false, if_true, reduceCtorEq]; repeat' split) <;> first | rfl | omega | (simp_all; done) | (simp_all; omega)
  | n + 18 => (simp only [Nat.reduceEqDiff, Nat.add_left_cancel_iff, Nat.reduceAdd, false_and, true_and, if_false, if_true, reduceCtorEq]; repeat' split) <;> first | rfl | omega | (simp_all; done) | (simp_all; omega)
theorem zHV_b {μ : zM} {h : Nat} {n c : Int} (hn : μ (h + 1) 3 = n) (h0 : 0 ≤ n) : zHV (zup (zup μ (h + 4) n c) (h + 1) 3 (n + 1)) h = zup (zup (zHV μ h) 2 n c) 3 0 (n + 1) := by
  funext k i
  unfold zHV zup
  match k with
  | 0 => (simp only [Nat.reduceEqDiff, Nat.add_left_cancel_iff, Nat.reduceAdd, false_and, true_and, if_false, if_true, reduceCtorEq]; repeat' split) <;> first | rfl | omega | (simp_all; done) | (simp_all; omega)
  | 1 => (simp only [Nat.reduceEqDiff, Nat.add_left_cancel_iff, Nat.reduceAdd, false_and, true_and, if_false, if_true, reduceCtorEq]; repeat' split) <;> first | rfl | omega | (simp_all; done) | (simp_all; omega)
  | 2 => (simp only [Nat.reduceEqDiff, Nat.add_left_cancel_iff, Nat.reduceAdd, false_and, true_and, if_false, if_true, reduceCtorEq]; repeat' split) <;> first | rfl | omega | (simp_all; done) | (simp_all; omega)
  | 3 => (simp only [Nat.reduceEqDiff, Nat.add_left_cancel_iff, Nat.reduceAdd, false_and, true_and, if_false, if_true, reduceCtorEq]; repeat' split) <;> first | rfl | omega | (simp_all; done) | (simp_all; omega)
  | 4 => (simp only [Nat.reduceEqDiff, Nat.add_left_cancel_iff, Nat.reduceAdd, false_and, true_and, if_false, if_true, reduceCtorEq]; repeat' split) <;> first | rfl | omega | (simp_all; done) | (simp_all; omega)
  | 5 => (simp only [Nat.reduceEqDiff, Nat.add_left_cancel_iff, Nat.reduceAdd, false_and, true_and, if_false, if_true, reduceCtorEq]; repeat' split) <;> first | rfl | omega | (simp_all; done) | (simp_all; omega)
  | 6 => (simp only [Nat.reduceEqDiff, Nat.add_left_cancel_iff, Nat.reduceAdd, false_and, true_and, if_false, if_true, reduceCtorEq]; repeat' split) <;> first | rfl | omega | (simp_all; done) | (simp_all; omega)
  | 7 => (simp only [Nat.reduceEqDiff, Nat.add_left_cancel_iff, Nat.reduceAdd, false_and, true_and, if_false, if_true, reduceCtorEq]; repeat' split) <;> first | rfl | omega | (simp_all; done) | (simp_all; omega)
  | 8 => (simp only [Nat.reduceEqDiff, Nat.add_left_cancel_iff, Nat.reduceAdd, false_and, true_and, if_false, if_true, reduceCtorEq]; repeat' split) <;> first | rfl | omega | (simp_all; done) | (simp_all; omega)
  | 9 => (simp only [Nat.reduceEqDiff, Nat.add_left_cancel_iff, Nat.reduceAdd, false_and, true_and, if_false, if_true, reduceCtorEq]; repeat' split) <;> first | rfl | omega | (simp_all; done) | (simp_all; omega)
  | 10 => (simp only [Nat.reduceEqDiff, Nat.add_left_cancel_iff, Nat.reduceAdd, false_and, true_and, if_false, if_true, reduceCtorEq]; repeat' split) <;> first | rfl | omega | (simp_all; done) | (simp_all; omega)
  | 11 => (simp only [Nat.reduceEqDiff, Nat.add_left_cancel_iff, Nat.reduceAdd, false_and, true_and, if_false, if_true, reduceCtorEq]; repeat' split) <;> first | rfl | omega | (simp_all; done) | (simp_all; omega)
  | 12 => (simp only [Nat.reduceEqDiff, Nat.add_left_cancel_iff, Nat.reduceAdd, false_and, true_and, if_false, if_true, reduceCtorEq]; repeat' split) <;> first | rfl | omega | (simp_all; done) | (simp_all; omega)
  | 13 => (simp only [Nat.reduceEqDiff, Nat.add_left_cancel_iff, Nat.reduceAdd, false_and, true_and, if_false, if_true, reduceCtorEq]; repeat' split) <;> first | rfl | omega | (simp_all; done) | (simp_all; omega)
  | 14 => (simp only [Nat.reduceEqDiff, Nat.add_left_cancel_iff, Nat.reduceAdd, false_and, true_and, if_false, if_true, reduceCtorEq]; repeat' split) <;> first | rfl | omega | (simp_all; done) | (simp_all; omega)
  | 15 => (simp only [Nat.reduceEqDiff, Nat.add_left_cancel_iff, Nat.reduceAdd, false_and, true_and, if_false, if_true, reduceCtorEq]; repeat' split) <;> first | rfl | omega | (simp_all; done) | (simp_all; omega)
  | 16 => (simp only [Nat.reduceEqDiff, Nat.add_left_cancel_iff, Nat.reduceAdd, false_and, true_and, if_false, if_true, reduceCtorEq]; repeat' split) <;> first | rfl | omega | (simp_all; done) | (simp_all; omega)
  | 17 => (simp only [Nat.reduceEqDiff, Nat.add_left_cancel_iff, Nat.reduceAdd, false_and, true_and, if_false, if_true, reduceCtorEq]; repeat' split) <;> first | rfl | omega | (simp_all; done) | (simp_all; omega)
  | n + 18 => (simp only [Nat.reduceEqDiff, Nat.add_left_cancel_iff, Nat.reduceAdd, false_and, true_and, if_false, if_true, reduceCtorEq]; repeat' split) <;> first | rfl | omega | (simp_all; done) | (simp_all; omega)
theorem zHV_p {μ : zM} {h : Nat} {n a b c d e f : Int} (hn : μ (h + 5) 6 = n) (h0 : 0 ≤ n) : zHV (zup (zup (zup (zup (zup (zup (zup μ (h + 6) n a) (h + 7) n b) (h + 8) n c) (h + 9) n d) (h + 10) n e) (h + 11) n f) (h + 5) 6 (n + 1)) h = zup (zup (zup (zup (zup (zup (zup (zHV μ h) 4 n a) 5 n b) 6 n c) 7 n d) 8 n e) 9 n f) 3 3 (n + 1) := by
  funext k i
  unfold zHV zup
  match k with
  | 0 => (simp only [Nat.reduceEqDiff, Nat.add_left_cancel_iff, Nat.reduceAdd, false_and, true_and, if_false, if_true, reduceCtorEq]; repeat' split) <;> first | rfl | omega | (simp_all; done) | (simp_all; omega)
  | 1 => (simp only [Nat.reduceEqDiff, Nat.add_left_cancel_iff, Nat.reduceAdd, false_and, true_and, if_false, if_true, reduceCtorEq]; repeat' split) <;> first | rfl | omega | (simp_all; done) | (simp_all; omega)
  | 2 => (simp only [Nat.reduceEqDiff, Nat.add_left_cancel_iff, Nat.reduceAdd, false_and, true_and, if_false, if_true, reduceCtorEq]; repeat' split) <;> first | rfl | omega | (simp_all; done) | (simp_all; omega)
  | 3 => (simp only [Nat.reduceEqDiff, Nat.add_left_cancel_iff, Nat.reduceAdd, false_and, true_and, if_false, if_true, reduceCtorEq]; repeat' split) <;> first | rfl | omega | (simp_all; done) | (simp_all; omega)
  | 4 => (simp only [Nat.reduceEqDiff, Nat.add_left_cancel_iff, Nat.reduceAdd, false_and, true_and, if_false, if_true, reduceCtorEq]; repeat' split) <;> first | rfl | omega | (simp_all; done) | (simp_all; omega)
  | 5 => (simp only [Nat.reduceEqDiff, Nat.add_left_cancel_iff, Nat.reduceAdd, false_and, true_and, if_false, if_true, reduceCtorEq]; repeat' split) <;> first | rfl | omega | (simp_all; done) | (simp_all; omega)
  | 6 => (simp only [Nat.reduceEqDiff, Nat.add_left_cancel_iff, Nat.reduceAdd, false_and, true_and, if_false, if_true, reduceCtorEq]; repeat' split) <;> first | rfl | omega | (simp_all; done) | (simp_all; omega)
  | 7 => (simp only [Nat.reduceEqDiff, Nat.add_left_cancel_iff, Nat.reduceAdd, false_and, true_and, if_false, if_true, reduceCtorEq]; repeat' split) <;> first | rfl | omega | (simp_all; done) | (simp_all; omega)
  | 8 => (simp only [Nat.reduceEqDiff, Nat.add_left_cancel_iff, Nat.reduceAdd, false_and, true_and, if_false, if_true, reduceCtorEq]; repeat' split) <;> first | rfl | omega | (simp_all; done) | (simp_all; omega)
  | 9 => (simp only [Nat.reduceEqDiff, Nat.add_left_cancel_iff, Nat.reduceAdd, false_and, true_and, if_false, if_true, reduceCtorEq]; repeat' split) <;> first | rfl | omega | (simp_all; done) | (simp_all; omega)
  | 10 => (simp only [Nat.reduceEqDiff, Nat.add_left_cancel_iff, Nat.reduceAdd, false_and, true_and, if_false, if_true, reduceCtorEq]; repeat' split) <;> first | rfl | omega | (simp_all; done) | (simp_all; omega)
  | 11 => (simp only [Nat.reduceEqDiff, Nat.add_left_cancel_iff, Nat.reduceAdd, false_and, true_and, if_false, if_true, reduceCtorEq]; repeat' split) <;> first | rfl | omega | (simp_all; done) | (simp_all; omega)
  | 12 => (simp only [Nat.reduceEqDiff, Nat.add_left_cancel_iff, Nat.reduceAdd, false_and, true_and, if_false, if_true, reduceCtorEq]; repeat' split) <;> first | rfl | omega | (simp_all; done) | (simp_all; omega)
  | 13 => (simp only [Nat.reduceEqDiff, Nat.add_left_cancel_iff, Nat.reduceAdd, false_and, true_and, if_false, if_true, reduceCtorEq]; repeat' split) <;> first | rfl | omega | (simp_all; done) | (simp_all; omega)
  | 14 => (simp only [Nat.reduceEqDiff, Nat.add_left_cancel_iff, Nat.reduceAdd, false_and, true_and, if_false, if_true, reduceCtorEq]; repeat' split) <;> first | rfl | omega | (simp_all; done) | (simp_all; omega)
  | 15 => (simp only [Nat.reduceEqDiff, Nat.add_left_cancel_iff, Nat.reduceAdd, false_and, true_and, if_false, if_true, reduceCtorEq]; repeat' split) <;> first | rfl | omega | (simp_all; done) | (simp_all; omega)
  | 16 => (simp only [Nat.reduceEqDiff, Nat.add_left_cancel_iff, Nat.reduceAdd, false_and, true_and, if_false, if_true, reduceCtorEq]; repeat' split) <;> first | rfl | omega | (simp_all; done) | (simp_all; omega)
  | 17 => (simp only [Nat.reduceEqDiff, Nat.add_left_cancel_iff, Nat.reduceAdd, false_and, true_and, if_false, if_true, reduceCtorEq]; repeat' split) <;> first | rfl | omega | (simp_all; done) | (simp_all; omega)
  | n + 18 => (simp only [Nat.reduceEqDiff, Nat.add_left_cancel_iff, Nat.reduceAdd, false_and, true_and, if_false, if_true, reduceCtorEq]; repeat' split) <;> first | rfl | omega | (simp_all; done) | (simp_all; omega)
theorem zHV_l {μ : zM} {h : Nat} {s b : Int} (h0 : 0 ≤ s) (h1 : s < μ (h + 5) 6) : zHV (zup μ (h + 11) s b) h = zup (zHV μ h) 9 s b := by
  funext k i
  unfold zHV zup
  match k with
  | 0 => (simp only [Nat.reduceEqDiff, Nat.add_left_cancel_iff, Nat.reduceAdd, false_and, true_and, if_false, if_true, reduceCtorEq]; repeat' split) <;> first | rfl | omega | (simp_all; done) | (simp_all; omega)
  | 1 => (simp only [Nat.reduceEqDiff, Nat.add_left_cancel_iff, Nat.reduceAdd, false_and, true_and, if_false, if_true, reduceCtorEq]; repeat' split) <;> first | rfl | omega | (simp_all; done) | (simp_all; omega)
  | 2 => (simp only [Nat.reduceEqDiff, Nat.add_left_cancel_iff, Nat.reduceAdd, false_and, true_and, if_false, if_true, reduceCtorEq]; repeat' split) <;> first | rfl | omega | (simp_all; done) | (simp_all; omega)
  | 3 => (simp only [Nat.reduceEqDiff, Nat.add_left_cancel_iff, Nat.reduceAdd, false_and, true_and, if_false, if_true, reduceCtorEq]; repeat' split) <;> first | rfl | omega | (simp_all; done) | (simp_all; omega)
  | 4 => (simp only [Nat.reduceEqDiff, Nat.add_left_cancel_iff, Nat.reduceAdd, false_and, true_and, if_false, if_true, reduceCtorEq]; repeat' split) <;> first | rfl | omega | (simp_all; done) | (simp_all; omega)
  | 5 => (simp only [Nat.reduceEqDiff, Nat.add_left_cancel_iff, Nat.reduceAdd, false_and, true_and, if_false, if_true, reduceCtorEq]; repeat' split) <;> first | rfl | omega | (simp_all; done) | (simp_all; omega)
  | 6 => (simp only [Nat.reduceEqDiff, Nat.add_left_cancel_iff, Nat.reduceAdd, false_and, true_and, if_false, if_true, reduceCtorEq]; repeat' split) <;> first | rfl | omega | (simp_all; done) | (simp_all; omega)
  | 7 => (simp only [Nat.reduceEqDiff, Nat.add_left_cancel_iff, Nat.reduceAdd, false_and, true_and, if_false, if_true, reduceCtorEq]; repeat' split) <;> first | rfl | omega | (simp_all; done) | (simp_all; omega)
  | 8 => (simp only [Nat.reduceEqDiff, Nat.add_left_cancel_iff, Nat.reduceAdd, false_and, true_and, if_false, if_true, reduceCtorEq]; repeat' split) <;> first | rfl | omega | (simp_all; done) | (simp_all; omega)
  | 9 => (simp only [Nat.reduceEqDiff, Nat.add_left_cancel_iff, Nat.reduceAdd, false_and, true_and, if_false, if_true, reduceCtorEq]; repeat' split) <;> first | rfl | omega | (simp_all; done) | (simp_all; omega)
  | 10 => (simp only [Nat.reduceEqDiff, Nat.add_left_cancel_iff, Nat.reduceAdd, false_and, true_and, if_false, if_true, reduceCtorEq]; repeat' split) <;> first | rfl | omega | (simp_all; done) | (simp_all; omega)
  | 11 => (simp only [Nat.reduceEqDiff, Nat.add_left_cancel_iff, Nat.reduceAdd, false_and, true_and, if_false, if_true, reduceCtorEq]; repeat' split) <;> first | rfl | omega | (simp_all; done) | (simp_all; omega)
  | 12 => (simp only [Nat.reduceEqDiff, Nat.add_left_cancel_iff, Nat.reduceAdd, false_and, true_and, if_false, if_true, reduceCtorEq]; repeat' split) <;> first | rfl | omega | (simp_all; done) | (simp_all; omega)
  | 13 => (simp only [Nat.reduceEqDiff, Nat.add_left_cancel_iff, Nat.reduceAdd, false_and, true_and, if_false, if_true, reduceCtorEq]; repeat' split) <;> first | rfl | omega | (simp_all; done) | (simp_all; omega)
  | 14 => (simp only [Nat.reduceEqDiff, Nat.add_left_cancel_iff, Nat.reduceAdd, false_and, true_and, if_false, if_true, reduceCtorEq]; repeat' split) <;> first | rfl | omega | (simp_all; done) | (simp_all; omega)
  | 15 => (simp only [Nat.reduceEqDiff, Nat.add_left_cancel_iff, Nat.reduceAdd, false_and, true_and, if_false, if_true, reduceCtorEq]; repeat' split) <;> first | rfl | omega | (simp_all; done) | (simp_all; omega)
  | 16 => (simp only [Nat.reduceEqDiff, Nat.add_left_cancel_iff, Nat.reduceAdd, false_and, true_and, if_false, if_true, reduceCtorEq]; repeat' split) <;> first | rfl | omega | (simp_all; done) | (simp_all; omega)
  | 17 => (simp only [Nat.reduceEqDiff, Nat.add_left_cancel_iff, Nat.reduceAdd, false_and, true_and, if_false, if_true, reduceCtorEq]; repeat' split) <;> first | rfl | omega | (simp_all; done) | (simp_all; omega)
  | n + 18 => (simp only [Nat.reduceEqDiff, Nat.add_left_cancel_iff, Nat.reduceAdd, false_and, true_and, if_false, if_true, reduceCtorEq]; repeat' split) <;> first | rfl | omega | (simp_all; done) | (simp_all; omega)
theorem zHV_s {μ : zM} {h : Nat} {n a b c d e : Int} (hn : μ (h + 12) 5 = n) (h0 : 0 ≤ n) : zHV (zup (zup (zup (zup (zup (zup μ (h + 13) n a) (h + 14) n b) (h + 15) n c) (h + 16) n d) (h + 17) n e) (h + 12) 5 (n + 1)) h = zup (zup (zup (zup (zup (zup (zHV μ h) 10 n a) 11 n b) 12 n c) 13 n d) 14 n e) 3 4 (n + 1) := by
  funext k i
  unfold zHV zup
  match k with
  | 0 => (simp only [Nat.reduceEqDiff, Nat.add_left_cancel_iff, Nat.reduceAdd, false_and, true_and, if_false, if_true, reduceCtorEq]; repeat' split) <;> first | rfl | omega | (simp_all; done) | (simp_all; omega)
  | 1 => (simp only [Nat.reduceEqDiff, Nat.add_left_cancel_iff, Nat.reduceAdd, false_and, true_and, if_false, if_true, reduceCtorEq]; repeat' split) <;> first | rfl | omega | (simp_all; done) | (simp_all; omega)
  | 2 => (simp only [Nat.reduceEqDiff, Nat.add_left_cancel_iff, Nat.reduceAdd, false_and, true_and, if_false, if_true, reduceCtorEq]; repeat' split) <;> first | rfl | omega | (simp_all; done) | (simp_all; omega)
  | 3 => (simp only [Nat.reduceEqDiff, Nat.add_left_cancel_iff, Nat.reduceAdd, false_and, true_and, if_false, if_true, reduceCtorEq]; repeat' split) <;> first | rfl | omega | (simp_all; done) | (simp_all; omega)
  | 4 => (simp only [Nat.reduceEqDiff, Nat.add_left_cancel_iff, Nat.reduceAdd, false_and, true_and, if_false, if_true, reduceCtorEq]; repeat' split) <;> first | rfl | omega | (simp_all; done) | (simp_all; omega)
  | 5 => (simp only [Nat.reduceEqDiff, Nat.add_left_cancel_iff, Nat.reduceAdd, false_and, true_and, if_false, if_true, reduceCtorEq]; repeat' split) <;> first | rfl | omega | (simp_all; done) | (simp_all; omega)
  | 6 => (simp only [Nat.reduceEqDiff, Nat.add_left_cancel_iff, Nat.reduceAdd, false_and, true_and, if_false, if_true, reduceCtorEq]; repeat' split) <;> first | rfl | omega | (simp_all; done) | (simp_all; omega)
  | 7 => (simp only [Nat.reduceEqDiff, Nat.add_left_cancel_iff, Nat.reduceAdd, false_and, true_and, if_false, if_true, reduceCtorEq]; repeat' split) <;> first | rfl | omega | (simp_all; done) | (simp_all; omega)
  | 8 => (simp only [Nat.reduceEqDiff, Nat.add_left_cancel_iff, Nat.reduceAdd, false_and, true_and, if_false, if_true, reduceCtorEq]; repeat' split) <;> first | rfl | omega | (simp_all; done) | (simp_all; omega)
  | 9 => (simp only [Nat.reduceEqDiff, Nat.add_left_cancel_iff, Nat.reduceAdd, false_and, true_and, if_false, if_true, reduceCtorEq]; repeat' split) <;> first | rfl | omega | (simp_all; done) | (simp_all; omega)
  | 10 => (simp only [Nat.reduceEqDiff, Nat.add_left_cancel_iff, Nat.reduceAdd, false_and, true_and, if_false, if_true, reduceCtorEq]; repeat' split) <;> first | rfl | omega | (simp_all; done) | (simp_all; omega)
  | 11 => (simp only [Nat.reduceEqDiff, Nat.add_left_cancel_iff, Nat.reduceAdd, false_and, true_and, if_false, if_true, reduceCtorEq]; repeat' split) <;> first | rfl | omega | (simp_all; done) | (simp_all; omega)
  | 12 => (simp only [Nat.reduceEqDiff, Nat.add_left_cancel_iff, Nat.reduceAdd, false_and, true_and, if_false, if_true, reduceCtorEq]; repeat' split) <;> first | rfl | omega | (simp_all; done) | (simp_all; omega)
  | 13 => (simp only [Nat.reduceEqDiff, Nat.add_left_cancel_iff, Nat.reduceAdd, false_and, true_and, if_false, if_true, reduceCtorEq]; repeat' split) <;> first | rfl | omega | (simp_all; done) | (simp_all; omega)
  | 14 => (simp only [Nat.reduceEqDiff, Nat.add_left_cancel_iff, Nat.reduceAdd, false_and, true_and, if_false, if_true, reduceCtorEq]; repeat' split) <;> first | rfl | omega | (simp_all; done) | (simp_all; omega)
  | 15 => (simp only [Nat.reduceEqDiff, Nat.add_left_cancel_iff, Nat.reduceAdd, false_and, true_and, if_false, if_true, reduceCtorEq]; repeat' split) <;> first | rfl | omega | (simp_all; done) | (simp_all; omega)
  | 16 => (simp only [Nat.reduceEqDiff, Nat.add_left_cancel_iff, Nat.reduceAdd, false_and, true_and, if_false, if_true, reduceCtorEq]; repeat' split) <;> first | rfl | omega | (simp_all; done) | (simp_all; omega)
  | 17 => (simp only [Nat.reduceEqDiff, Nat.add_left_cancel_iff, Nat.reduceAdd, false_and, true_and, if_false, if_true, reduceCtorEq]; repeat' split) <;> first | rfl | omega | (simp_all; done) | (simp_all; omega)
  | n + 18 => (simp only [Nat.reduceEqDiff, Nat.add_left_cancel_iff, Nat.reduceAdd, false_and, true_and, if_false, if_true, reduceCtorEq]; repeat' split) <;> first | rfl | omega | (simp_all; done) | (simp_all; omega)
theorem zHV_r {μ : zM} {h : Nat} {n a b c : Int} (hn : μ (h + 18) 3 = n) (h0 : 0 ≤ n) : zHV (zup (zup (zup (zup μ (h + 19) n a) (h + 20) n b) (h + 21) n c) (h + 18) 3 (n + 1)) h = zup (zup (zup (zup (zHV μ h) 15 n a) 16 n b) 17 n c) 3 5 (n + 1) := by
  funext k i
  unfold zHV zup
  match k with
  | 0 => (simp only [Nat.reduceEqDiff, Nat.add_left_cancel_iff, Nat.reduceAdd, false_and, true_and, if_false, if_true, reduceCtorEq]; repeat' split) <;> first | rfl | omega | (simp_all; done) | (simp_all; omega)
  | 1 => (simp only [Nat.reduceEqDiff, Nat.add_left_cancel_iff, Nat.reduceAdd, false_and, true_and, if_false, if_true, reduceCtorEq]; repeat' split) <;> first | rfl | omega | (simp_all; done) | (simp_all; omega)
  | 2 => (simp only [Nat.reduceEqDiff, Nat.add_left_cancel_iff, Nat.reduceAdd, false_and, true_and, if_false, if_true, reduceCtorEq]; repeat' split) <;> first | rfl | omega | (simp_all; done) | (simp_all; omega)
  | 3 => (simp only [Nat.reduceEqDiff, Nat.add_left_cancel_iff, Nat.reduceAdd, false_and, true_and, if_false, if_true, reduceCtorEq]; repeat' split) <;> first | rfl | omega | (simp_all; done) | (simp_all; omega)
  | 4 => (simp only [Nat.reduceEqDiff, Nat.add_left_cancel_iff, Nat.reduceAdd, false_and, true_and, if_false, if_true, reduceCtorEq]; repeat' split) <;> first | rfl | omega | (simp_all; done) | (simp_all; omega)
  | 5 => (simp only [Nat.reduceEqDiff, Nat.add_left_cancel_iff, Nat.reduceAdd, false_and, true_and, if_false, if_true, reduceCtorEq]; repeat' split) <;> first | rfl | omega | (simp_all; done) | (simp_all; omega)
  | 6 => (simp only [Nat.reduceEqDiff, Nat.add_left_cancel_iff, Nat.reduceAdd, false_and, true_and, if_false, if_true, reduceCtorEq]; repeat' split) <;> first | rfl | omega | (simp_all; done) | (simp_all; omega)
  | 7 => (simp only [Nat.reduceEqDiff, Nat.add_left_cancel_iff, Nat.reduceAdd, false_and, true_and, if_false, if_true, reduceCtorEq]; repeat' split) <;> first | rfl | omega | (simp_all; done) | (simp_all; omega)
  | 8 => (simp only [Nat.reduceEqDiff, Nat.add_left_cancel_iff, Nat.reduceAdd, false_and, true_and, if_false, if_true, reduceCtorEq]; repeat' split) <;> first | rfl | omega | (simp_all; done) | (simp_all; omega)
  | 9 => (simp only [Nat.reduceEqDiff, Nat.add_left_cancel_iff, Nat.reduceAdd, false_and, true_and, if_false, if_true, reduceCtorEq]; repeat' split) <;> first | rfl | omega | (simp_all; done) | (simp_all; omega)
  | 10 => (simp only [Nat.reduceEqDiff, Nat.add_left_cancel_iff, Nat.reduceAdd, false_and, true_and, if_false, if_true, reduceCtorEq]; repeat' split) <;> first | rfl | omega | (simp_all; done) | (simp_all; omega)
  | 11 => (simp only [Nat.reduceEqDiff, Nat.add_left_cancel_iff, Nat.reduceAdd, false_and, true_and, if_false, if_true, reduceCtorEq]; repeat' split) <;> first | rfl | omega | (simp_all; done) | (simp_all; omega)
  | 12 => (simp only [Nat.reduceEqDiff, Nat.add_left_cancel_iff, Nat.reduceAdd, false_and, true_and, if_false, if_true, reduceCtorEq]; repeat' split) <;> first | rfl | omega | (simp_all; done) | (simp_all; omega)
  | 13 => (simp only [Nat.reduceEqDiff, Nat.add_left_cancel_iff, Nat.reduceAdd, false_and, true_and, if_false, if_true, reduceCtorEq]; repeat' split) <;> first | rfl | omega | (simp_all; done) | (simp_all; omega)
  | 14 => (simp only [Nat.reduceEqDiff, Nat.add_left_cancel_iff, Nat.reduceAdd, false_and, true_and, if_false, if_true, reduceCtorEq]; repeat' split) <;> first | rfl | omega | (simp_all; done) | (simp_all; omega)
  | 15 => (simp only [Nat.reduceEqDiff, Nat.add_left_cancel_iff, Nat.reduceAdd, false_and, true_and, if_false, if_true, reduceCtorEq]; repeat' split) <;> first | rfl | omega | (simp_all; done) | (simp_all; omega)
  | 16 => (simp only [Nat.reduceEqDiff, Nat.add_left_cancel_iff, Nat.reduceAdd, false_and, true_and, if_false, if_true, reduceCtorEq]; repeat' split) <;> first | rfl | omega | (simp_all; done) | (simp_all; omega)
  | 17 => (simp only [Nat.reduceEqDiff, Nat.add_left_cancel_iff, Nat.reduceAdd, false_and, true_and, if_false, if_true, reduceCtorEq]; repeat' split) <;> first | rfl | omega | (simp_all; done) | (simp_all; omega)
  | n + 18 => (simp only [Nat.reduceEqDiff, Nat.add_left_cancel_iff, Nat.reduceAdd, false_and, true_and, if_false, if_true, reduceCtorEq]; repeat' split) <;> first | rfl | omega | (simp_all; done) | (simp_all; omega)
theorem zHV_x {μ : zM} {h : Nat} {n : Int} (hn : μ (h + 12) 5 = n) (h0 : 1 ≤ n) : zHV (zup μ (h + 12) 5 (n - 1)) h = zdropS (zHV μ h) := by
  funext k i
  unfold zdropS zHV zup
  match k with
  | 0 => (simp only [Nat.reduceEqDiff, Nat.add_left_cancel_iff, Nat.reduceAdd, false_and, true_and, and_false, and_true, if_false, if_true, reduceCtorEq, Nat.reduceLeDiff, Nat.reduceLT]; repeat' split) <;> first | rfl | omega | (simp_all; done) | (simp_all; omega)
  | 1 => (simp only [Nat.reduceEqDiff, Nat.add_left_cancel_iff, Nat.reduceAdd, false_and, true_and, and_false, and_true, if_false, if_true, reduceCtorEq, Nat.reduceLeDiff, Nat.reduceLT]; repeat' split) <;> first | rfl | omega | (simp_all; done) | (simp_all; omega)
  | 2 => (simp only [Nat.reduceEqDiff, Nat.add_left_cancel_iff, Nat.reduceAdd, false_and, true_and, and_false, and_true, if_false, if_true, reduceCtorEq, Nat.reduceLeDiff, Nat.reduceLT]; repeat' split) <;> first | rfl | omega | (simp_all; done) | (simp_all; omega)
  | 3 => (simp only [Nat.reduceEqDiff, Nat.add_left_cancel_iff, Nat.reduceAdd, false_and, true_and, and_false, and_true, if_false, if_true, reduceCtorEq, Nat.reduceLeDiff, Nat.reduceLT]; repeat' split) <;> first | rfl | omega | (simp_all; done) | (simp_all; omega)
  | 4 => (simp only [Nat.reduceEqDiff, Nat.add_left_cancel_iff, Nat.reduceAdd, false_and, true_and, and_false, and_true, if_false, if_true, reduceCtorEq, Nat.reduceLeDiff, Nat.reduceLT]; repeat' split) <;> first | rfl | omega | (simp_all; done) | (simp_all; omega)
  | 5 => (simp only [Nat.reduceEqDiff, Nat.add_left_cancel_iff, Nat.reduceAdd, false_and, true_and, and_false, and_true, if_false, if_true, reduceCtorEq, Nat.reduceLeDiff, Nat.reduceLT]; repeat' split) <;> first | rfl | omega | (simp_all; done) | (simp_all; omega)
  | 6 => (simp only [Nat.reduceEqDiff, Nat.add_left_cancel_iff, Nat.reduceAdd, false_and, true_and, and_false, and_true, if_false, if_true, reduceCtorEq, Nat.reduceLeDiff, Nat.reduceLT]; repeat' split) <;> first | rfl | omega | (simp_all; done) | (simp_all; omega)
  | 7 => (simp only [Nat.reduceEqDiff, Nat.add_left_cancel_iff, Nat.reduceAdd, false_and, true_and, and_false, and_true, if_false, if_true, reduceCtorEq, Nat.reduceLeDiff, Nat.reduceLT]; repeat' split) <;> first | rfl | omega | (simp_all; done) | (simp_all; omega)
  | 8 => (simp only [Nat.reduceEqDiff, Nat.add_left_cancel_iff, Nat.reduceAdd, false_and, true_and, and_false, and_true, if_false, if_true, reduceCtorEq, Nat.reduceLeDiff, Nat.reduceLT]; repeat' split) <;> first | rfl | omega | (simp_all; done) | (simp_all; omega)
  | 9 => (simp only [Nat.reduceEqDiff, Nat.add_left_cancel_iff, Nat.reduceAdd, false_and, true_and, and_false, and_true, if_false, if_true, reduceCtorEq, Nat.reduceLeDiff, Nat.reduceLT]; repeat' split) <;> first | rfl | omega | (simp_all; done) | (simp_all; omega)
  | 10 => (simp only [Nat.reduceEqDiff, Nat.add_left_cancel_iff, Nat.reduceAdd, false_and, true_and, and_false, and_true, if_false, if_true, reduceCtorEq, Nat.reduceLeDiff, Nat.reduceLT]; repeat' split) <;> first | rfl | omega | (simp_all; done) | (simp_all; omega)
  | 11 => (simp only [Nat.reduceEqDiff, Nat.add_left_cancel_iff, Nat.reduceAdd, false_and, true_and, and_false, and_true, if_false, if_true, reduceCtorEq, Nat.reduceLeDiff, Nat.reduceLT]; repeat' split) <;> first | rfl | omega | (simp_all; done) | (simp_all; omega)
  | 12 => (simp only [Nat.reduceEqDiff, Nat.add_left_cancel_iff, Nat.reduceAdd, false_and, true_and, and_false, and_true, if_false, if_true, reduceCtorEq, Nat.reduceLeDiff, Nat.reduceLT]; repeat' split) <;> first | rfl | omega | (simp_all; done) | (simp_all; omega)
  | 13 => (simp only [Nat.reduceEqDiff, Nat.add_left_cancel_iff, Nat.reduceAdd, false_and, true_and, and_false, and_true, if_false, if_true, reduceCtorEq, Nat.reduceLeDiff, Nat.reduceLT]; repeat' split) <;> first | rfl | omega | (simp_all; done) | (simp_all; omega)
  | 14 => (simp only [Nat.reduceEqDiff, Nat.add_left_cancel_iff, Nat.reduceAdd, false_and, true_and, and_false, and_true, if_false, if_true, reduceCtorEq, Nat.reduceLeDiff, Nat.reduceLT]; repeat' split) <;> first | rfl | omega | (simp_all; done) | (simp_all; omega)
  | 15 => (simp only [Nat.reduceEqDiff, Nat.add_left_cancel_iff, Nat.reduceAdd, false_and, true_and, and_false, and_true, if_false, if_true, reduceCtorEq, Nat.reduceLeDiff, Nat.reduceLT]; repeat' split) <;> first | rfl | omega | (simp_all; done) | (simp_all; omega)
  | 16 => (simp only [Nat.reduceEqDiff, Nat.add_left_cancel_iff, Nat.reduceAdd, false_and, true_and, and_false, and_true, if_false, if_true, reduceCtorEq, Nat.reduceLeDiff, Nat.reduceLT]; repeat' split) <;> first | rfl | omega | (simp_all; done) | (simp_all; omega)
  | 17 => (simp only [Nat.reduceEqDiff, Nat.add_left_cancel_iff, Nat.reduceAdd, false_and, true_and, and_false, and_true, if_false, if_true, reduceCtorEq, Nat.reduceLeDiff, Nat.reduceLT]; repeat' split) <;> first | rfl | omega | (simp_all; done) | (simp_all; omega)
  | n + 18 => (simp only [Nat.reduceEqDiff, Nat.add_left_cancel_iff, Nat.reduceAdd, false_and, true_and, and_false, and_true, if_false, if_true, reduceCtorEq, Nat.reduceLeDiff, Nat.reduceLT]; repeat' split) <;> first | rfl | omega | (simp_all; done) | (simp_all; omega)
theorem zHV_e {μ : zM} {h : Nat} : zHV (zup μ (h + 18) 3 0) h = zfree (zHV μ h) := by
  funext k i
  unfold zfree zHV zup
  match k with
  | 0 => (simp only [Nat.reduceEqDiff, Nat.add_left_cancel_iff, Nat.reduceAdd, false_and, true_and, and_false, and_true, if_false, if_true, reduceCtorEq, Nat.reduceLeDiff, Nat.reduceLT]; repeat' split) <;> first | rfl | omega | (simp_all; done) | (simp_all; omega)
  | 1 => (simp only [Nat.reduceEqDiff, Nat.add_left_cancel_iff, Nat.reduceAdd, false_and, true_and, and_false, and_true, if_false, if_true, reduceCtorEq, Nat.reduceLeDiff, Nat.reduceLT]; repeat' split) <;> first | rfl | omega | (simp_all; done) | (simp_all; omega)
  | 2 => (simp only [Nat.reduceEqDiff, Nat.add_left_cancel_iff, Nat.reduceAdd, false_and, true_and, and_false, and_true, if_false, if_true, reduceCtorEq, Nat.reduceLeDiff, Nat.reduceLT]; repeat' split) <;> first | rfl | omega | (simp_all; done) | (simp_all; omega)
  | 3 => (simp only [Nat.reduceEqDiff, Nat.add_left_cancel_iff, Nat.reduceAdd, false_and, true_and, and_false, and_true, if_false, if_true, reduceCtorEq, Nat.reduceLeDiff, Nat.reduceLT]; repeat' split) <;> first | rfl | omega | (simp_all; done) | (simp_all; omega)
  | 4 => (simp only [Nat.reduceEqDiff, Nat.add_left_cancel_iff, Nat.reduceAdd, false_and, true_and, and_false, and_true, if_false, if_true, reduceCtorEq, Nat.reduceLeDiff, Nat.reduceLT]; repeat' split) <;> first | rfl | omega | (simp_all; done) | (simp_all; omega)
  | 5 => (simp only [Nat.reduceEqDiff, Nat.add_left_cancel_iff, Nat.reduceAdd, false_and, true_and, and_false, and_true, if_false, if_true, reduceCtorEq, Nat.reduceLeDiff, Nat.reduceLT]; repeat' split) <;> first | rfl | omega | (simp_all; done) | (simp_all; omega)
  | 6 => (simp only [Nat.reduceEqDiff, Nat.add_left_cancel_iff, Nat.reduceAdd, false_and, true_and, and_false, and_true, if_false, if_true, reduceCtorEq, Nat.reduceLeDiff, Nat.reduceLT]; repeat' split) <;> first | rfl | omega | (simp_all; done) | (simp_all; omega)
  | 7 => (simp only [Nat.reduceEqDiff, Nat.add_left_cancel_iff, Nat.reduceAdd, false_and, true_and, and_false, and_true, if_false, if_true, reduceCtorEq, Nat.reduceLeDiff, Nat.reduceLT]; repeat' split) <;> first | rfl | omega | (simp_all; done) | (simp_all; omega)
  | 8 => (simp only [Nat.reduceEqDiff, Nat.add_left_cancel_iff, Nat.reduceAdd, false_and, true_and, and_false, and_true, if_false, if_true, reduceCtorEq, Nat.reduceLeDiff, Nat.reduceLT]; repeat' split) <;> first | rfl | omega | (simp_all; done) | (simp_all; omega)
  | 9 => (simp only [Nat.reduceEqDiff, Nat.add_left_cancel_iff, Nat.reduceAdd, false_and, true_and, and_false, and_true, if_false, if_true, reduceCtorEq, Nat.reduceLeDiff, Nat.reduceLT]; repeat' split) <;> first | rfl | omega | (simp_all; done) | (simp_all; omega)
  | 10 => (simp only [Nat.reduceEqDiff, Nat.add_left_cancel_iff, Nat.reduceAdd, false_and, true_and, and_false, and_true, if_false, if_true, reduceCtorEq, Nat.reduceLeDiff, Nat.reduceLT]; repeat' split) <;> first | rfl | omega | (simp_all; done) | (simp_all; omega)
  | 11 => (simp only [Nat.reduceEqDiff, Nat.add_left_cancel_iff, Nat.reduceAdd, false_and, true_and, and_false, and_true, if_false, if_true, reduceCtorEq, Nat.reduceLeDiff, Nat.reduceLT]; repeat' split) <;> first | rfl | omega | (simp_all; done) | (simp_all; omega)
  | 12 => (simp only [Nat.reduceEqDiff, Nat.add_left_cancel_iff, Nat.reduceAdd, false_and, true_and, and_false, and_true, if_false, if_true, reduceCtorEq, Nat.reduceLeDiff, Nat.reduceLT]; repeat' split) <;> first | rfl | omega | (simp_all; done) | (simp_all; omega)
  | 13 => (simp only [Nat.reduceEqDiff, Nat.add_left_cancel_iff, Nat.reduceAdd, false_and, true_and, and_false, and_true, if_false, if_true, reduceCtorEq, Nat.reduceLeDiff, Nat.reduceLT]; repeat' split) <;> first | rfl | omega | (simp_all; done) | (simp_all; omega)
  | 14 => (simp only [Nat.reduceEqDiff, Nat.add_left_cancel_iff, Nat.reduceAdd, false_and, true_and, and_false, and_true, if_false, if_true, reduceCtorEq, Nat.reduceLeDiff, Nat.reduceLT]; repeat' split) <;> first | rfl | omega | (simp_all; done) | (simp_all; omega)
  | 15 => (simp only [Nat.reduceEqDiff, Nat.add_left_cancel_iff, Nat.reduceAdd, false_and, true_and, and_false, and_true, if_false, if_true, reduceCtorEq, Nat.reduceLeDiff, Nat.reduceLT]; repeat' split) <;> first | rfl | omega | (simp_all; done) | (simp_all; omega)
  | 16 => (simp only [Nat.reduceEqDiff, Nat.add_left_cancel_iff, Nat.reduceAdd, false_and, true_and, and_false, and_true, if_false, if_true, reduceCtorEq, Nat.reduceLeDiff, Nat.reduceLT]; repeat' split) <;> first | rfl | omega | (simp_all; done) | (simp_all; omega)
  | 17 => (simp only [Nat.reduceEqDiff, Nat.add_left_cancel_iff, Nat.reduceAdd, false_and, true_and, and_false, and_true, if_false, if_true, reduceCtorEq, Nat.reduceLeDiff, Nat.reduceLT]; repeat' split) <;> first | rfl | omega | (simp_all; done) | (simp_all; omega)
  | n + 18 => (simp only [Nat.reduceEqDiff, Nat.add_left_cancel_iff, Nat.reduceAdd, false_and, true_and, and_false, and_true, if_false, if_true, reduceCtorEq, Nat.reduceLeDiff, Nat.reduceLT]; repeat' split) <;> first | rfl | omega | (simp_all; done) | (simp_all; omega)
theorem zif_i {α : Type} {P : Prop} {a b : α} {p : α → Prop} (h1 : P → p a) (h2 : ¬ P → p b) : p (zif P a b) := by
  rcases Classical.em P with h | h
  · rw [zif_t h]; exact h1 h
  · rw [zif_f h]; exact h2 h
theorem zup_ap {μ : zM} {id : Nat} {k v : Int} {a : Nat} {j : Int} : zup μ id k v a j = if a = id ∧ j = k then v else μ a j := rfl
theorem spW_ok {V : zM} {c s : Int} (h : zOK V) (hs : s = 0 ∨ s = 1) : zOK (spW V c s).2 := by
  unfold spW
  refine zif_i (p := fun (q : Int × zM) => zOK q.2) (fun _ => h) (fun n1 => zif_i (p := fun (q : Int × zM) => zOK q.2) (fun _ => h) (fun _ => ⟨?_, h.2.1, h.2.2.1, h.2.2.2⟩))
  obtain ⟨f1, f2, f3, f4, f5⟩ := h.1
  refine ⟨fun d d0 d1 => ⟨?_, (f1 d d0 d1).2⟩, f2, fun i i0 i1 => ⟨(f3 i i0 i1).1, (f3 i i0 i1).2.1, ?_⟩, f4, f5.1, f5.2.1, ?_⟩
  · dsimp only
    rw [zup_ap]; split; exact hs; exact (f1 d d0 d1).1
  · show zup V 0 c s 0 (V 2 i) = 0
    rw [zup_ne (Or.inr (fun e => n1 (Or.inr (Or.inr ⟨i, i0, i1, e⟩))))]; exact (f3 i i0 i1).2.2
  · show zup V 0 c s 0 (V 3 2) = 0
    rw [zup_ne (Or.inr (fun e => n1 (Or.inr (Or.inl e.symm))))]; exact f5.2.2
theorem spC_ok {V : zM} {c k : Int} (h : zOK V) : zOK (spC V c k).2 := by
  unfold spC
  refine zif_i (p := fun (q : Int × zM) => zOK q.2) (fun _ => h) (fun n1 => ⟨?_, h.2.1, h.2.2.1, h.2.2.2⟩)
  obtain ⟨f1, f2, f3, f4, f5⟩ := h.1
  refine ⟨fun d d0 d1 => ⟨(f1 d d0 d1).1, ?_⟩, f2, f3, f4, f5⟩
  dsimp only
  rw [zup_ap]; split; omega; exact (f1 d d0 d1).2
theorem spF_ok {V : zM} {v : Int} (h : zOK V) : zOK (spF V v).2 := by
  unfold spF
  refine zif_i (p := fun (q : Int × zM) => zOK q.2) (fun _ => h) (fun n1 => ⟨?_, h.2.1, h.2.2.1, h.2.2.2⟩)
  obtain ⟨f1, f2, f3, f4, f5⟩ := h.1
  exact ⟨f1, f2, f3, show 0 ≤ v ∧ v ≤ 9 by omega, f5⟩
theorem spD_ok {V : zM} {v : Int} (h : zOK V) : zOK (spD V v).2 := by
  unfold spD
  refine zif_i (p := fun (q : Int × zM) => zOK q.2) (fun _ => h) (fun n1 => ⟨?_, h.2.1, h.2.2.1, h.2.2.2⟩)
  obtain ⟨f1, f2, f3, f4, f5⟩ := h.1
  refine ⟨f1, f2, f3, f4, show 0 ≤ v by omega, show v < 36 by omega, show V 0 v = 0 from ?_⟩
  have := (f1 v (by omega) (by omega)).1
  omega
theorem spB_ok {V : zM} {c : Int} (h : zOK V) : zOK (spB V c).2 := by
  unfold spB
  refine zif_i (p := fun (q : Int × zM) => zOK q.2) (fun _ => h) (fun n1 => zif_i (p := fun (q : Int × zM) => zOK q.2) (fun _ => h) (fun n2 => ⟨?_, ⟨h.2.1.1, fun i i0 i1 => ?_⟩, h.2.2.1, ⟨h.2.2.2.1, fun i i0 i1 => ?_⟩⟩))
  · obtain ⟨f1, f2, f3, f4, f5⟩ := h.1
    have w := (f1 c (by omega) (by omega)).1
    refine ⟨f1, show 0 ≤ V 3 0 + 1 ∧ V 3 0 + 1 ≤ 6 by omega, fun i i0 i1 => ?_, f4, f5⟩
    have i1 : i < V 3 0 + 1 := i1
    show 0 ≤ zup V 2 (V 3 0) c 2 i ∧ zup V 2 (V 3 0) c 2 i < 36 ∧ V 0 (zup V 2 (V 3 0) c 2 i) = 0
    rw [zup_ap]
    by_cases e : i = V 3 0
    · rw [if_pos ⟨rfl, e⟩]; exact ⟨by omega, by omega, by omega⟩
    · rw [if_neg (fun q => e q.2)]; exact f3 i i0 (by omega)
  · obtain ⟨p1, p2, p3, p4, p5⟩ := h.2.1.2 i i0 i1
    exact ⟨p1, p2, p3, p4, p5.1, show V 9 i < V 3 0 + 1 by omega⟩
  · obtain ⟨p1, p2, p3⟩ := h.2.2.2.2 i i0 i1
    exact ⟨p1, ⟨p2.1, show V 16 i < V 3 0 + 1 by omega⟩, p3⟩
theorem spS_ok {V : zM} {a b c d e : Int} (h : zOK V) : zOK (spS V a b c d e).2 := by
  unfold spS
  refine zif_i (p := fun (q : Int × zM) => zOK q.2) (fun _ => h) (fun n1 => zif_i (p := fun (q : Int × zM) => zOK q.2) (fun _ => h) (fun n2 => ⟨h.1, ⟨?_, fun i i0 i1 => ?_⟩, ⟨h.2.2.1.1, fun i i0 i1 => ?_⟩, ⟨h.2.2.2.1, fun i i0 i1 => ?_⟩⟩))
  · show 0 ≤ V 3 3 + 1 ∧ V 3 3 + 1 ≤ 5
    have := h.2.1.1
    omega
  · have i1 : i < V 3 3 + 1 := i1
    have hb := h.1.2.1
    by_cases e9 : i = V 3 3
    · subst e9
      simp only [zup_ap, Nat.reduceEqDiff, false_and, true_and, and_true, if_false, if_true, reduceCtorEq, Nat.reduceAdd, and_self]
      refine ⟨⟨by omega, by omega⟩, ⟨by omega, by omega⟩, ⟨by omega, by omega, by omega⟩, ⟨by omega, by omega⟩, by omega, ?_⟩
      simp
      omega
    · obtain ⟨p1, p2, p3, p4, p5⟩ := h.2.1.2 i i0 (by omega)
      simp only [zup_ap, Nat.reduceEqDiff, false_and, true_and, if_false, reduceCtorEq, e9]
      exact ⟨p1, p2, p3, p4, p5.1, by simpa using p5.2⟩
  · obtain ⟨s1, s2, s3, s4, s5, s6⟩ := h.2.2.1.2 i i0 i1
    refine ⟨s1, s2, fun k1 k2 => ⟨(s3 k1 k2).1, ?_⟩, s4, s5, s6⟩
    have := (s3 k1 k2).2
    show V 11 i < V 3 3 + 1
    omega
  · obtain ⟨p1, p2, p3⟩ := h.2.2.2.2 i i0 i1
    exact ⟨⟨p1.1, show V 15 i < V 3 3 + 1 by omega⟩, p2, p3⟩
theorem spL_ok {V : zM} {s b : Int} (h : zOK V) : zOK (spL V s b).2 := by
  unfold spL
  refine zif_i (p := fun (q : Int × zM) => zOK q.2) (fun _ => h) (fun n1 => zif_i (p := fun (q : Int × zM) => zOK q.2) (fun _ => h) (fun n2 => ⟨h.1, ⟨h.2.1.1, fun i i0 i1 => ?_⟩, h.2.2.1, h.2.2.2⟩))
  obtain ⟨p1, p2, p3, p4, p5⟩ := h.2.1.2 i i0 i1
  have hb := h.1.2.1
  refine ⟨p1, p2, p3, p4, ?_⟩
  show -1 ≤ zup V 9 s b 9 i ∧ zup V 9 s b 9 i < V 3 0
  rw [zup_ap]
  split
  · by_cases e : b = -1
    · omega
    · have : 0 ≤ b ∧ b < V 3 0 := Classical.byContradiction fun q => n1 (Or.inr ⟨e, q⟩)
      omega
  · exact p5
theorem spN_ok {V : zM} {k x a b v : Int} (h : zOK V) : zOK (spN V k x a b v).2 := by
  unfold spN
  refine zif_i (p := fun (q : Int × zM) => zOK q.2) (fun _ => h) (fun n1 => zif_i (p := fun (q : Int × zM) => zOK q.2) (fun _ => h) (fun n2 => ⟨h.1, h.2.1, ⟨?_, fun i i0 i1 => ?_⟩, h.2.2.2⟩))
  · show 0 ≤ V 3 4 + 1 ∧ V 3 4 + 1 ≤ 8
    have := h.2.2.1.1
    omega
  · have i1 : i < V 3 4 + 1 := i1
    by_cases e9 : i = V 3 4
    · subst e9
      have ho : zOf V k x := Classical.byContradiction fun q => n1 (Or.inl q)
      simp only [zup_ap, Nat.reduceEqDiff, false_and, true_and, and_true, if_false, if_true, reduceCtorEq, Nat.reduceAdd, and_self]
      unfold zOf at ho
      refine ⟨by omega, fun _ => by omega, fun _ _ => ⟨by omega, ?_⟩, fun _ => by omega, by omega, by omega⟩
      simp
      omega
    · obtain ⟨s1, s2, s3, s4, s5, s6⟩ := h.2.2.1.2 i i0 (by omega)
      simp only [zup_ap, Nat.reduceEqDiff, false_and, true_and, if_false, reduceCtorEq, e9]
      exact ⟨s1, s2, fun k1 k2 => ⟨(s3 k1 k2).1, by simpa using (s3 k1 k2).2⟩, s4, s5, s6⟩
theorem spR_ok {V : zM} {s b hh : Int} (h : zOK V) (h1 : hh = 0 ∨ hh = 1) : zOK (spR V s b hh).2 := by
  unfold spR
  refine zif_i (p := fun (q : Int × zM) => zOK q.2) (fun _ => h) (fun n1 => zif_i (p := fun (q : Int × zM) => zOK q.2) (fun _ => h) (fun n2 => ⟨h.1, h.2.1, h.2.2.1, ⟨?_, fun i i0 i1 => ?_⟩⟩))
  · show 0 ≤ V 3 5 + 1 ∧ V 3 5 + 1 ≤ 4
    have := h.2.2.2.1
    omega
  · have i1 : i < V 3 5 + 1 := i1
    by_cases e9 : i = V 3 5
    · subst e9
      simp only [zup_ap, Nat.reduceEqDiff, false_and, true_and, and_true, if_false, if_true, reduceCtorEq, Nat.reduceAdd, and_self]
      refine ⟨⟨by omega, ?_⟩, ⟨by omega, ?_⟩, h1⟩ <;> simp <;> omega
    · obtain ⟨p1, p2, p3⟩ := h.2.2.2.2 i i0 (by omega)
      simp only [zup_ap, Nat.reduceEqDiff, false_and, true_and, if_false, reduceCtorEq, e9]
      exact ⟨⟨p1.1, by simpa using p1.2⟩, ⟨p2.1, by simpa using p2.2⟩, p3⟩
theorem spX_ok {V : zM} (h : zOK V) : zOK (spX V).2 := by
  unfold spX
  refine zif_i (p := fun (q : Int × zM) => zOK q.2) (fun _ => h) (fun n1 => ⟨h.1, h.2.1, ⟨?_, fun i i0 i1 => ?_⟩, h.2.2.2⟩)
  · show 0 ≤ V 3 4 - 1 ∧ V 3 4 - 1 ≤ 8
    have := h.2.2.1.1
    omega
  · have i1 : i < V 3 4 - 1 := i1
    obtain ⟨s1, s2, s3, s4, s5, s6⟩ := h.2.2.1.2 i i0 (by omega)
    have e : ∀ k, 10 ≤ k → k ≤ 14 → zdropS V k i = V k i := fun k k0 k1 => by
      unfold zdropS
      rw [if_neg (by omega), if_neg (by omega)]
    dsimp only
    rw [e 10 (by decide) (by decide), e 11 (by decide) (by decide), e 12 (by decide) (by decide), e 13 (by decide) (by decide), e 14 (by decide) (by decide)]
    exact ⟨s1, s2, s3, s4, s5, s6⟩
theorem zfree_ok {V : zM} (h : zOK V) : zOK (zfree V) := ⟨h.1, h.2.1, h.2.2.1, show 0 ≤ (0 : Int) ∧ (0 : Int) ≤ 4 by decide, fun i i0 (i1 : i < 0) => by omega⟩
theorem zV0_ok : zOK zV0 := ⟨⟨fun c _ _ => ⟨Or.inl rfl, show 0 ≤ (0 : Int) ∧ (0 : Int) ≤ 40 by decide⟩, by decide, fun i i0 (i1 : i < 0) => by omega, by decide, by decide⟩, ⟨by decide, fun i i0 (i1 : i < 0) => by omega⟩, ⟨by decide, fun i i0 (i1 : i < 0) => by omega⟩, ⟨by decide, fun i i0 (i1 : i < 0) => by omega⟩⟩
