/-! THE LIGHT LAYER: values are mathematical numbers, the memory is one function of a cell's number and a place; cells are numbered in the order in which the two constructors make them -/
abbrev zAV : Type := Int ⊕ (Int ⊕ (Nat ⊕ Unit))
abbrev zI (z : Int) : zAV := Sum.inl z
abbrev zL (z : Int) : zAV := Sum.inr (Sum.inl z)
abbrev zR (k : Nat) : zAV := Sum.inr (Sum.inr (Sum.inl k))
abbrev zU : zAV := Sum.inr (Sum.inr (Sum.inr ()))
abbrev zM : Type := Nat → Int → Int
abbrev zin (z : Int) : Prop := -2147483648 ≤ z ∧ z ≤ 2147483647
abbrev zinL (z : Int) : Prop := -9223372036854775808 ≤ z ∧ z ≤ 9223372036854775807
def zv (ad : Nat → Nat) : zAV → Value
  | .inl z => .int (Int32.ofInt z)
  | .inr (.inl z) => .long (Int64.ofInt z)
  | .inr (.inr (.inl k)) => .ref (ad k)
  | .inr (.inr (.inr _)) => .null
def zcan : zAV → Prop
  | .inl z => zin z
  | .inr (.inl z) => zinL z
  | _ => True
def zcl : List zAV → Prop
  | [] => True
  | v :: t => zcan v ∧ zcl t
def zwide : zAV → Bool
  | .inr (.inl _) => true
  | _ => false
def zcat : List zAV → Nat
  | [] => 0
  | v :: t => (if zwide v then 2 else 1) + zcat t
/-- a reference in memory: its cell's number; below 0: null -/
def zr (ad : Nat → Nat) (z : Int) : Option Nat := if z < 0 then none else some (ad z.toNat)
/-- what each cell is: a class (below 13), an array of int (20), boolean (21), int[] (22), House (23); how many places -/
def zks_0 : List (Nat × Nat) := [(11, 13), (2, 4), (1, 6), (21, 36), (20, 36), (20, 6), (5, 7), (20, 5), (20, 5), (20, 5), (20, 5), (20, 5), (20, 5), (9, 6), (20, 8), (20, 8), (20, 8), (20, 8), (20, 8), (7, 4), (20, 4), (20, 4), (21, 4), (2, 4), (1, 6), (21, 36), (20, 36), (20, 6), (5, 7), (20, 5), (20, 5), (20, 5), (20, 5), (20, 5), (20, 5), (9, 6), (20, 8), (20, 8), (20, 8), (20, 8), (20, 8), (7, 4), (20, 4), (20, 4), (21, 4), (23, 2), (21, 2), (10, 6), (20, 60), (22, 60), (20, 5), (20, 5), (20, 5), (20, 5), (20, 5), (20, 5), (20, 5), (20, 5), (20, 5), (20, 5)]
def zks_1 : List (Nat × Nat) := [(20, 5), (20, 5), (20, 5), (20, 5), (20, 5), (20, 5), (20, 5), (20, 5), (20, 5), (20, 5), (20, 5), (20, 5), (20, 5), (20, 5), (20, 5), (20, 5), (20, 5), (20, 5), (20, 5), (20, 5), (20, 5), (20, 5), (20, 5), (20, 5), (20, 5), (20, 5), (20, 5), (20, 5), (20, 5), (20, 5), (20, 5), (20, 5), (20, 5), (20, 5), (20, 5), (20, 5), (20, 5), (20, 5), (20, 5), (20, 5), (20, 5), (20, 5), (20, 5), (20, 5), (20, 5), (20, 5), (20, 5), (20, 5), (20, 5), (20, 5), (20, 300), (4, 15), (20, 5), (20, 5), (22, 5), (20, 40), (20, 40), (20, 40), (20, 40), (20, 40)]
def zks_2 : List (Nat × Nat) := [(22, 5), (20, 40), (20, 40), (20, 40), (20, 40), (20, 40), (0, 10), (6, 1), (20, 36), (22, 6), (20, 36), (20, 36), (20, 36), (20, 36), (20, 36), (20, 36), (20, 36), (22, 6), (20, 6), (20, 6), (20, 6), (20, 6), (20, 6), (20, 6), (22, 6), (20, 6), (20, 6), (20, 6), (20, 6), (20, 6), (20, 6), (22, 8), (20, 6), (20, 6), (20, 6), (20, 6), (20, 6), (20, 6), (20, 6), (20, 6), (20, 40), (20, 40), (22, 6), (20, 6), (20, 6), (20, 6), (20, 6), (20, 6), (20, 6), (1, 6), (21, 36), (20, 36), (20, 6), (20, 5), (20, 5), (20, 5), (5, 7), (20, 5), (20, 5), (20, 5)]
def zks_3 : List (Nat × Nat) := [(20, 5), (20, 5), (20, 5), (9, 6), (20, 8), (20, 8), (20, 8), (20, 8), (20, 8), (8, 7), (20, 5), (20, 5), (2, 4), (1, 6), (21, 36), (20, 36), (20, 6), (5, 7), (20, 5), (20, 5), (20, 5), (20, 5), (20, 5), (20, 5), (9, 6), (20, 8), (20, 8), (20, 8), (20, 8), (20, 8), (7, 4), (20, 4), (20, 4), (21, 4), (4, 15), (20, 5), (20, 5), (22, 5), (20, 40), (20, 40), (20, 40), (20, 40), (20, 40), (22, 5), (20, 40), (20, 40), (20, 40), (20, 40), (20, 40), (0, 10), (6, 1), (20, 36), (22, 6), (20, 36), (20, 36), (20, 36), (20, 36), (20, 36), (20, 36), (20, 36)]
def zks_4 : List (Nat × Nat) := [(22, 6), (20, 6), (20, 6), (20, 6), (20, 6), (20, 6), (20, 6), (22, 6), (20, 6), (20, 6), (20, 6), (20, 6), (20, 6), (20, 6), (22, 8), (20, 6), (20, 6), (20, 6), (20, 6), (20, 6), (20, 6), (20, 6), (20, 6), (20, 40), (20, 40), (22, 6), (20, 6), (20, 6), (20, 6), (20, 6), (20, 6), (20, 6), (1, 6), (21, 36), (20, 36), (20, 6), (20, 5), (20, 5), (20, 5), (5, 7), (20, 5), (20, 5), (20, 5), (20, 5), (20, 5), (20, 5), (9, 6), (20, 8), (20, 8), (20, 8), (20, 8), (20, 8), (3, 8), (0, 10), (6, 1), (20, 36), (22, 6), (20, 36), (20, 36), (20, 36)]
def zks_5 : List (Nat × Nat) := [(20, 36), (20, 36), (20, 36), (20, 36), (22, 6), (20, 6), (20, 6), (20, 6), (20, 6), (20, 6), (20, 6), (22, 6), (20, 6), (20, 6), (20, 6), (20, 6), (20, 6), (20, 6), (22, 8), (20, 6), (20, 6), (20, 6), (20, 6), (20, 6), (20, 6), (20, 6), (20, 6), (20, 40), (20, 40), (22, 6), (20, 6), (20, 6), (20, 6), (20, 6), (20, 6), (20, 6), (1, 6), (21, 36), (20, 36), (20, 6), (6, 1), (20, 36), (20, 36), (21, 36), (20, 36), (6, 1), (20, 36), (20, 36), (20, 3), (2, 4), (1, 6), (21, 36), (20, 36), (20, 6), (5, 7), (20, 5), (20, 5), (20, 5), (20, 5), (20, 5)]
def zks_6 : List (Nat × Nat) := [(20, 5), (9, 6), (20, 8), (20, 8), (20, 8), (20, 8), (20, 8), (7, 4), (20, 4), (20, 4), (21, 4), (2, 4), (1, 6), (21, 36), (20, 36), (20, 6), (5, 7), (20, 5), (20, 5), (20, 5), (20, 5), (20, 5), (20, 5), (9, 6), (20, 8), (20, 8), (20, 8), (20, 8), (20, 8), (7, 4), (20, 4), (20, 4), (21, 4), (12, 42), (20, 172), (20, 344), (21, 2), (20, 172), (20, 3), (20, 300), (20, 300), (20, 1500), (20, 1296), (20, 5), (20, 5), (20, 5), (20, 5), (20, 200), (20, 5), (20, 200), (20, 200), (20, 220), (20, 220), (20, 220), (20, 220), (20, 36), (20, 36), (20, 5), (20, 5), (20, 5)]
def zks : List (Nat × Nat) := zks_0 ++ (zks_1 ++ (zks_2 ++ (zks_3 ++ (zks_4 ++ (zks_5 ++ (zks_6))))))
def zN : Nat := 420
def zl (k : Nat) : Nat × Nat := zks.getD k (99, 0)
def zrefs : Nat → List Bool
  | 0 => [true, true, true, true, true, true, true, true, true, true]
  | 1 => [true, true, true, false, false, false]
  | 2 => [true, true, true, true]
  | 3 => [false, false, false, true, true, true, true, true]
  | 4 => [true, true, true, true, true, true, true, true, true, true, false, false, false, false, false]
  | 5 => [true, true, true, true, true, true, false]
  | 6 => [true]
  | 7 => [true, true, true, false]
  | 8 => [true, false, false, false, true, true, true]
  | 9 => [true, true, true, true, true, false]
  | 10 => [false, false, true, true, true, false]
  | 11 => [true, true, true, true, true, true, true, true, true, true, true, false, false]
  | 12 => [true, true, true, true, true, false, false, false, true, false, false, false, false, false, true, true, false, true, false, true, true, true, true, true, true, true, true, true, true, true, true, false, false, false, true, true, true, true, true, false, false, false]
  | _ => []
/-- where a final field leads: so many cells on -/
def zoffs : Nat → List (Option Nat)
  | 0 => [some 1, some 3, some 10, some 11, some 18, some 25, some 34, some 35, some 36, none]
  | 1 => [some 1, some 2, some 3, none, none, none]
  | 2 => [some 1, some 5, some 12, some 18]
  | 3 => [none, none, none, some 1, some 48, some 50, some 51, some 52]
  | 4 => [some 1, some 2, some 3, some 9, some 15, some 62, some 63, some 64, none, none, none, none, none, none, none]
  | 5 => [some 1, some 2, some 3, some 4, some 5, some 6, none]
  | 6 => [some 1]
  | 7 => [some 1, some 2, some 3, none]
  | 8 => [some 1, none, none, none, some 2, some 3, some 25]
  | 9 => [some 1, some 2, some 3, some 4, some 5, none]
  | 10 => [none, none, some 1, some 2, some 63, none]
  | 11 => [some 1, some 23, some 45, some 46, some 47, some 111, some 189, some 292, some 345, some 347, some 348, none, none]
  | 12 => [some 1, some 2, some 3, some 4, some 5, none, none, none, some 6, none, none, none, none, none, some 7, some 8, none, some 9, none, some 10, some 11, some 12, some 13, some 14, some 15, some 16, some 17, some 18, some 19, some 20, some 21, none, none, none, some 22, some 23, some 24, some 25, some 26, none, none, none]
  | _ => []
def zoff (ci k : Nat) : Option Nat := ((zoffs ci)[k]?).join
abbrev zHa : Nat := 304
abbrev zHb : Nat := 22
theorem zl_lt {k : Nat} {a n : Nat} (h : zl k = (a, n)) (ha : a ≠ 99) : k < zN := by
  rcases Nat.lt_or_ge k zN with h1 | h1
  · exact h1
  · refine absurd ?_ ha
    have e : zks.length = zN := by decide +kernel
    have : zl k = (99, 0) := by
      unfold zl
      rw [List.getD_eq_getElem?_getD, List.getElem?_eq_none (by rw [e]; exact h1)]
      rfl
    rw [this] at h
    exact (Prod.mk.inj h).1.symm
def zup (μ : zM) (id : Nat) (k v : Int) : zM := fun a j => if a = id ∧ j = k then v else μ a j
theorem zup_eq {μ : zM} {id : Nat} {k v : Int} : zup μ id k v id k = v := by simp [zup]
theorem zup_ne {μ : zM} {id : Nat} {k v : Int} {a : Nat} {j : Int} (h : a ≠ id ∨ j ≠ k) : zup μ id k v a j = μ a j := by
  unfold zup
  rw [if_neg]
  intro q
  rcases h with h | h
  · exact h q.1
  · exact h q.2
theorem zup_id {μ : zM} {id : Nat} {k v : Int} {a : Nat} {j : Int} (h : a ≠ id) : zup μ id k v a j = μ a j := zup_ne (Or.inl h)
theorem zup_row {μ : zM} {id : Nat} {k v : Int} {a : Nat} (h : a ≠ id) : zup μ id k v a = μ a := funext fun _ => zup_id h
/-- what holds of every memory: numbers of the machine; finals and rows lead where they lead; booleans are 0 or 1 -/
def zC (μ : zM) : Prop := (∀ id j, zin (μ id j)) ∧ (∀ (id k o : Nat), zoff (zl id).1 k = some o → μ id (k : Int) = ((id + o : Nat) : Int)) ∧ (∀ (id j n : Nat), zl id = (22, n) → j < n → μ id (j : Int) = ((id + 1 + j : Nat) : Int)) ∧ (∀ (id j n : Nat), zl id = (23, n) → j < n → μ id (j : Int) = ((id + zHa + zHb * j : Nat) : Int)) ∧ (∀ (id n : Nat) (j : Int), zl id = (21, n) → μ id j = 0 ∨ μ id j = 1)
/-- the environment: the classes' numbers and slots, the cells' addresses, the arrays' classes, which cells are ours, how many; the script -/
abbrev zE : Type := va_G × (Nat → Nat) × (Nat → ClassId) × (Nat → Prop) × Nat × Nat × (Nat → Int32)
abbrev zD (E : zE) : va_G := E.1
abbrev zad (E : zE) : Nat → Nat := E.2.1
abbrev zcs (E : zE) : Nat → ClassId := E.2.2.1
abbrev zA (E : zE) : Nat → Prop := E.2.2.2.1
abbrev zn (E : zE) : Nat := E.2.2.2.2.1
abbrev zsl (E : zE) : Nat := E.2.2.2.2.2.1
abbrev zsx (E : zE) : Nat → Int32 := E.2.2.2.2.2.2
def ztys (E : zE) : List (ClassId × FieldType) := [(zcs E 0, .int), (zcs E 1, .boolean), (zcs E 2, .array .int), (zcs E 3, .object RX2)]
def zfs (ad : Nat → Nat) (f : Int → Int) : List Bool → Nat → List Value
  | [], _ => []
  | b :: t, k => (if b then va_rf (zr ad (f k)) else .int (Int32.ofInt (f k))) :: zfs ad f t (k + 1)
def zeq (E : zE) (q : Nat × Nat) (f : Int → Int) : va_E :=
  if q.1 < 13 then .inr (q.1, zfs (zad E) f (zrefs q.1) 0)
  else if q.1 = 20 then .inl (zcs E 0, q.2, .inl (fun j => Int32.ofInt (f j)))
  else if q.1 = 21 then .inl (zcs E 1, q.2, .inl (fun j => Int32.ofInt (f j)))
  else if q.1 = 22 then .inl (zcs E 2, q.2, .inr (.inr (.inr (.inr (fun j => zr (zad E) (f j))))))
  else .inl (zcs E 3, q.2, .inr (.inr (.inr (.inr (fun j => zr (zad E) (f j))))))
def zws (E : zE) (μ : zM) (n : Nat) : va_W := (List.range n).map (fun id => (zad E id, zeq E (zl id) (μ id)))
theorem zws_at {E : zE} {μ : zM} {n id : Nat} (h : id < n) : (zws E μ n)[id]? = some (zad E id, zeq E (zl id) (μ id)) := by
  unfold zws
  rw [List.getElem?_map, List.getElem?_range h]
  rfl
theorem zws_set {E : zE} {μ : zM} {n id : Nat} {k v : Int} : (zws E μ n).set id (zad E id, zeq E (zl id) (zup μ id k v id)) = zws E (zup μ id k v) n := by
  apply List.ext_getElem?
  intro i
  by_cases hi : i < n
  · rw [zws_at hi]
    by_cases e : i = id
    · subst e
      rw [List.getElem?_set_self (by simp [zws]; exact hi)]
    · rw [List.getElem?_set_ne (Ne.symm e), zws_at hi, zup_row e]
  · rw [List.getElem?_eq_none (by simp [zws]; omega), List.getElem?_eq_none (by simp [zws]; omega)]
theorem zfs_at {ad : Nat → Nat} {f : Int → Int} : ∀ {l : List Bool} {i k : Nat} {b : Bool}, l[k]? = some b → (zfs ad f l i)[k]? = some (if b then va_rf (zr ad (f ((i + k : Nat) : Int))) else .int (Int32.ofInt (f ((i + k : Nat) : Int))))
  | [], i, k, b, h => by simp at h
  | c :: t, i, 0, b, h => by
    cases (Option.some.inj (h : some c = some b))
    rfl
  | c :: t, i, k + 1, b, h => by
    have h1 := zfs_at (ad := ad) (f := f) (l := t) (i := i + 1) (k := k) (b := b) h
    show (zfs ad f t (i + 1))[k]? = _
    rw [h1]
    have e : i + 1 + k = i + (k + 1) := by omega
    rw [e]
theorem zfs_len {ad : Nat → Nat} {f : Int → Int} : ∀ {l : List Bool} {i : Nat}, (zfs ad f l i).length = l.length
  | [], _ => rfl
  | _ :: t, i => congrArg (· + 1) (zfs_len (l := t) (i := i + 1))
theorem zfs_set {ad : Nat → Nat} {f g : Int → Int} {l : List Bool} {k : Nat} {x : Value} (hx : ∀ b, l[k]? = some b → x = if b then va_rf (zr ad (g (k : Int))) else .int (Int32.ofInt (g (k : Int)))) (hg : ∀ j : Nat, j ≠ k → g (j : Int) = f (j : Int)) (hk : k < l.length) : (zfs ad f l 0).set k x = zfs ad g l 0 := by
  apply List.ext_getElem?
  intro i
  by_cases hi : i < l.length
  · obtain ⟨b, hb⟩ : ∃ b, l[i]? = some b := ⟨l[i], List.getElem?_eq_getElem hi⟩
    have e2 := zfs_at (ad := ad) (f := g) (i := 0) hb
    have e1 := zfs_at (ad := ad) (f := f) (i := 0) hb
    simp only [Nat.zero_add] at e1 e2
    rw [e2]
    by_cases e : i = k
    · subst e
      rw [List.getElem?_set_self (by rw [zfs_len]; exact hi), hx b hb]
    · rw [List.getElem?_set_ne (Ne.symm e), e1, hg i e]
  · rw [List.getElem?_eq_none (by rw [List.length_set, zfs_len]; omega), List.getElem?_eq_none (by rw [zfs_len]; omega)]
/-- the world: all cells that there are, as the memory has them -/
def zWd (E : zE) (μ : zM) (H : Heap) : Prop := va_P (zD E) vwCl (zws E μ (zn E)) H ∧ va_D (zA E) (zws E μ (zn E))
def zWt : List Int32 := [119, 97, 108, 108, 32, 98, 111, 97, 114, 100, 32, 102, 97, 100, 101, 32, 100, 111, 111, 114, 32, 98, 101, 100, 32, 115, 108, 101, 101, 112, 101, 114, 32, 108, 105, 101, 32, 110, 111, 105, 115, 101, 32, 99, 114, 105, 101, 100, 32, 116, 117, 114, 110, 101, 100, 32, 114, 117, 110, 103, 32, 111, 117, 116, 32]
def zNum : List Int32 := [1, 2, 1, 1, 1, 5, 2, 4, 4, 4, 4, 4]
/-- what stands ahead of the law and isn't written: the static row NUMBERS (9001), the constant WORDS (9000, its bytes 9003), three statics; the script (9002) -/
def zZq (E : zE) (U : State) (H : Heap) : Prop := va_Z "jdk/internal/util/Preconditions" "SIOOBE_FORMATTER" "Ljava/util/function/BiFunction;" .null (zA E) U H ∨ va_Z "jdk/internal/util/Preconditions" "SIOOBE_FORMATTER" "Ljava/util/function/BiFunction;" (.ref (zad E 9004)) (zA E) U H
theorem zZq.moved {E : zE} {u U : State} {H : Heap} (hvm : u.vm.Alike U.vm) (h : zZq E u H) : zZq E U H := h.elim (fun h => Or.inl (va_Z.moved hvm h)) (fun h => Or.inr (va_Z.moved hvm h))
def zRO (E : zE) (U : State) : Prop := va_Z RX10 "NUMBERS" "[I" (.ref (zad E 9001)) (zA E) U U.heap ∧ va_T .int (zad E 9001) 12 (fun j => .int (zNum.getD j 0)) (zA E) U U.heap ∧ vk_S 1 [65] [zWt] (fun _ => zad E 9000) (fun _ => zad E 9003) (zA E) U U.heap ∧ vk_R RX10 59 "wall board fade door bed sleeper lie noise cried turned rung out " (zad E 9000) U ∧ va_Z "java/lang/String" "COMPACT_STRINGS" "Z" (.int 1) (zA E) U U.heap ∧ zZq E U U.heap
def zX2 (E : zE) (U : State) : Prop := va_X (zad E 9002) (zsl E) (zsx E) U U.heap ∧ zad E 9002 < U.heap.size ∧ ¬ zA E (zad E 9002)
/-- what holds at every method's entry -/
def zKst (E : zE) (U : State) : Prop := va_K (zD E) vwCl (ztys E) U ∧ (∀ w ∈ NW, va_Nw w U) ∧ zRO E U ∧ (∀ q, U.heap.size ≤ q → zA E q) ∧ zX2 E U
theorem zZq.movedk {E : zE} {s U : State} {H : Heap} {locs : List Loc} (h : zZq E s s.heap) (hS : va_S (zA E) s.heap H locs) (hU : U.heap = H) (hW : s.WarmedH U.vm) : zZq E U U.heap := (zZq.moved hW.alike h).elim (fun h => Or.inl (va_Z.kept h (fun q a b => by rw [hU]; exact hS.2.1 q a b))) (fun h => Or.inr (va_Z.kept h (fun q a b => by rw [hU]; exact hS.2.1 q a b)))
theorem zKst.next {E : zE} {s U : State} {H : Heap} {locs : List Loc} (h : zKst E s) (hS : va_S (zA E) s.heap H locs) (hU : U.heap = H) (hW : s.WarmedH U.vm) : zKst E U := by
  obtain ⟨h1, h2, ⟨r1, r2, r3, r4, r5, r6⟩, h4, x1, x2, x3⟩ := h
  have hk : ∀ q : Nat, q < s.heap.size → ¬ zA E q → U.heap[q]? = s.heap[q]? := fun q a b => by rw [hU]; exact hS.2.1 q a b
  have hz : s.heap.size ≤ U.heap.size := by rw [hU]; exact hS.1
  refine ⟨va_K.moved hW.alike h1, fun w hw => NW_warm hw hW (h2 w hw), ⟨(va_Z.moved hW.alike r1).kept hk, (va_T.moved hW.alike r2).kept hk, (vk_S.moved hW.alike r3).kept hk, vk_R.warm hW r4, (va_Z.moved hW.alike r5).kept hk, r6.movedk hS hU hW⟩, fun q hq => h4 q (Nat.le_trans hz hq), (va_X.moved hW.alike x1).kept (hk _ x2 x3), Nat.lt_of_lt_of_le x2 hz, x3⟩
def zQ (E : zE) (post : Option zAV → zM → Prop) : Array Value → State → Outcome → State → Prop := fun _ st oc t => (∃ (r : Option zAV) (μ : zM), oc = .returned (r.map (zv (zad E))) ∧ post r μ ∧ zC μ ∧ (∀ v, r = some v → zcan v) ∧ zWd E μ t.heap) ∧ va_F (zA E) st t
/-- a method's contract: from the memory μ with these arguments it returns, and post holds of its answer and the memory behind it -/
def Ct (l : Launch) (E : zE) (y : MethodName) (cc : ByteArray) (mL : Nat) (ret : Option FieldType) (rm : Room) (as : List zAV) (μ : zM) (post : Option zAV → zM → Prop) : Prop :=
  zn E = zN → zC μ → zcl as → Met l y (.code y cc mL ret :: LW) rm (va_Pc (as.map (zv (zad E))) (fun U => zKst E U ∧ zWd E μ U.heap)) (zQ E post) 0 0 (zA E)
/-- the frame of a method under way -/
abbrev zX : Type := Program × Launch × Env × State × MethodId × Array Value × List Frame × Method × Code × Nat × Nat × (State → Prop)
def zW (X : zX) (rm : Room) (H : Heap) (locs : List Loc) (g : JFrame) : Prop := W X.1 X.2.1 X.2.2.1 rm X.2.2.2.1 X.2.2.2.2.1 X.2.2.2.2.2.1 X.2.2.2.2.2.2.1 X.2.2.2.2.2.2.2.1 X.2.2.2.2.2.2.2.2.1 H locs X.2.2.2.2.2.2.2.2.2.1 X.2.2.2.2.2.2.2.2.2.2.1 X.2.2.2.2.2.2.2.2.2.2.2 g
def zRv (ret : Option FieldType) (cc : ByteArray) (pc : Nat) (r : Option zAV) : Prop := (ret = none ∧ r = none ∧ decode cc pc = .ok (.return_, 1)) ∨ (ret = some .int ∧ ∃ z, r = some (zI z) ∧ decode cc pc = .ok (.ireturn, 1)) ∨ (ret = some .boolean ∧ ∃ z, (z = 0 ∨ z = 1) ∧ r = some (zI z) ∧ decode cc pc = .ok (.ireturn, 1)) ∨ (ret = some .long ∧ ∃ z, r = some (zL z) ∧ decode cc pc = .ok (.lreturn, 1)) ∨ (ret = some .char ∧ ∃ z, 0 ≤ z ∧ z < 256 ∧ r = some (zI z) ∧ decode cc pc = .ok (.ireturn, 1)) ∨ (ret = some .byte ∧ ∃ z, 0 ≤ z ∧ z < 128 ∧ r = some (zI z) ∧ decode cc pc = .ok (.ireturn, 1))
def zCx (X : zX) (E : zE) (cc : ByteArray) (own : String) (rm : Room) (ret : Option FieldType) (post : Option zAV → zM → Prop) : Prop :=
  X.1.tables.exec = Jvm.exec ∧ X.2.2.2.2.2.2.2.2.1.code = cc ∧ X.2.2.2.1.vm.findClass own = some X.2.2.2.2.1.cls ∧ (∀ w ∈ LW, w.before X.2.2.2.2.2.1 X.2.2.2.1 = true) ∧ zKst E X.2.2.2.1 ∧ (X.2.2.2.2.2.2.2.2.2.1 ≤ rm.cells ∧ X.2.2.2.2.2.2.2.2.2.2.1 ≤ rm.slots) ∧ zn E = zN ∧
  (∀ (pc : Nat) (H : Heap) (locs : List Loc) (la : Array Slot) (r : Option zAV) (μ : zM), zRv ret cc pc r → post r μ → zC μ → (∀ v, r = some v → zcan v) → zWd E μ H → va_S (zA E) X.2.2.2.1.heap H locs → zW X rm H locs (F0 X.2.2.2.2.1 pc la (r.toList.map (zv (zad E)))))
/-- the locals -/
def zLh (ad : Nat → Nat) (la : Array Slot) (nL : Nat) (ls : List zAV) : Prop := ls.length = nL ∧ la.size = nL ∧ lv_wf la ∧ ∀ (i : Nat) (v : zAV), ls[i]? = some v → v ≠ zU → la[i]? = some (.val (zv ad v))
/-- from this point on the method comes to its end, and post holds there -/
def MW (X : zX) (E : zE) (cc : ByteArray) (own : String) (rm : Room) (ret : Option FieldType) (post : Option zAV → zM → Prop) (pc : Nat) (ls st : List zAV) (μ : zM) : Prop :=
  zCx X E cc own rm ret post → zC μ → zcl ls → zcl st → ∀ (H : Heap) (locs : List Loc) (la : Array Slot), zWd E μ H → va_S (zA E) X.2.2.2.1.heap H locs → zLh (zad E) la X.2.2.2.2.2.2.2.2.1.maxLocals ls → zW X rm H locs (F0 X.2.2.2.2.1 pc la (st.map (zv (zad E))))
