/-! THE TEXT, PURE -/
def zby (t : Int → Int) (n i : Int) : Int := if i < n then t i else -1
def zpB (x : Int) : Prop := x = 32
def zpL (x : Int) : Prop := 97 ≤ x ∧ x ≤ 122
def zpD (x : Int) : Prop := 48 ≤ x ∧ x ≤ 57
/-- from a to b all bytes are such, and the one at b isn't -/
def zRun (C : Int → Prop) (t : Int → Int) (n a b : Int) : Prop := a ≤ b ∧ (∀ i, a ≤ i → i < b → C (zby t n i)) ∧ ¬ C (zby t n b)
theorem zRun_u {C : Int → Prop} {t : Int → Int} {n a b c : Int} (h : zRun C t n a b) (g : zRun C t n a c) : b = c := by
  by_cases q : b < c
  · exact absurd (g.2.1 b h.1 q) h.2.2
  · by_cases q2 : c < b
    · exact absurd (h.2.1 c g.1 q2) g.2.2
    · omega
theorem zRun_n {C : Int → Prop} {t : Int → Int} {n a b : Int} (h : zRun C t n a b) (hC : ¬ C (-1)) (ha : a ≤ n) : b ≤ n := by
  by_cases q : b ≤ n
  · exact q
  · have := h.2.1 (b - 1) (by omega) (by omega)
    unfold zby at this
    rw [if_neg (by omega)] at this
    exact absurd this hC
noncomputable def zenf (C : Int → Prop) (t : Int → Int) (n : Int) : Nat → Int → Int
  | 0, a => a
  | k + 1, a => zif (C (zby t n a)) (zenf C t n k (a + 1)) a
theorem zenf_r {C : Int → Prop} {t : Int → Int} {n : Int} (hC : ¬ C (-1)) : ∀ (k : Nat) (a : Int), n < a + k → zRun C t n a (zenf C t n k a)
  | 0, a, h => ⟨Int.le_refl _, fun i i0 i1 => by have i1 : i < a := i1; omega, by show ¬ C (zby t n a); unfold zby; rw [if_neg (by omega)]; exact hC⟩
  | k + 1, a, h => by
    have h9 : n < a + 1 + (k : Int) := by have h8 : n < a + ((k + 1 : Nat) : Int) := h; omega
    show zRun C t n a (zif (C (zby t n a)) (zenf C t n k (a + 1)) a)
    by_cases q : C (zby t n a)
    · rw [zif_t q]
      have ih := zenf_r (t := t) hC k (a + 1) h9
      refine ⟨by have := ih.1; omega, fun i i0 i1 => ?_, ih.2.2⟩
      by_cases e : i = a
      · rw [e]; exact q
      · exact ih.2.1 i (by omega) i1
    · rw [zif_f q]; exact ⟨Int.le_refl _, fun i i0 i1 => by omega, q⟩
/-- the end of the run that begins at a -/
noncomputable def zen (C : Int → Prop) (t : Int → Int) (n a : Int) : Int := zenf C t n 400 a
theorem zpB_n : ¬ zpB (-1) := by unfold zpB; decide
theorem zpL_n : ¬ zpL (-1) := by unfold zpL; decide
theorem zpD_n : ¬ zpD (-1) := by unfold zpD; decide
theorem zen_r {C : Int → Prop} {t : Int → Int} {n a : Int} (hC : ¬ C (-1)) (hn : n ≤ 300) (ha : 0 ≤ a) : zRun C t n a (zen C t n a) := zenf_r hC 400 a (by omega)
theorem zen_e {C : Int → Prop} {t : Int → Int} {n a b : Int} (hC : ¬ C (-1)) (hn : n ≤ 300) (ha : 0 ≤ a) (h : zRun C t n a b) : b = zen C t n a := zRun_u h (zen_r hC hn ha)
theorem zen_b {C : Int → Prop} {t : Int → Int} {n a : Int} (hC : ¬ C (-1)) (hn : n ≤ 300) (ha : 0 ≤ a) (an : a ≤ n) : a ≤ zen C t n a ∧ zen C t n a ≤ n := ⟨(zen_r hC hn ha).1, zRun_n (zen_r hC hn ha) hC an⟩
/-- letters to the base of 32 -/
def zcd (t : Int → Int) (a : Int) : Nat → Int
  | 0 => 0
  | k + 1 => 32 * zcd t a k + (t (a + (k : Int)) - 96)
theorem zcd_s {t : Int → Int} {a : Int} {k : Nat} : zcd t a (k + 1) = 32 * zcd t a k + (t (a + (k : Int)) - 96) := rfl
def zKr : List Int → Int
  | [] => 0
  | c :: r => 32 * zKr r + c
def zmr (t : Int → Int) (a : Int) : List Int → Nat → Prop
  | [], k => k = 0
  | _ :: _, 0 => False
  | c :: r, k + 1 => t (a + (k : Int)) - 96 = c ∧ zmr t a r k
theorem zKr_0 : ∀ (r : List Int), (∀ c ∈ r, 1 ≤ c ∧ c ≤ 26) → 0 ≤ zKr r
  | [], _ => Int.le_refl _
  | c :: r, h => by
    have := zKr_0 r (fun x hx => h x (List.mem_cons_of_mem _ hx))
    have := h c List.mem_cons_self
    show 0 ≤ 32 * zKr r + c
    omega
theorem zcd_0 {t : Int → Int} {a : Int} : ∀ (k : Nat), (∀ j : Nat, j < k → 1 ≤ t (a + (j : Int)) - 96 ∧ t (a + (j : Int)) - 96 ≤ 26) → 0 ≤ zcd t a k
  | 0, _ => Int.le_refl _
  | k + 1, h => by
    have := zcd_0 k (fun j hj => h j (by omega))
    have := h k (by omega)
    rw [zcd_s]; omega
theorem zcd_m {t : Int → Int} {a : Int} : ∀ (r : List Int) (k : Nat), (∀ c ∈ r, 1 ≤ c ∧ c ≤ 26) → (∀ j : Nat, j < k → 1 ≤ t (a + (j : Int)) - 96 ∧ t (a + (j : Int)) - 96 ≤ 26) → (zcd t a k = zKr r ↔ zmr t a r k)
  | [], 0, _, _ => ⟨fun _ => rfl, fun _ => rfl⟩
  | [], k + 1, _, h => by
    have h1 := zcd_0 k (fun j hj => h j (by omega))
    have h2 := h k (by omega)
    refine ⟨fun q => ?_, fun q => absurd q (by show ¬ (k + 1 = 0); omega)⟩
    rw [zcd_s] at q
    have q : 32 * zcd t a k + (t (a + (k : Int)) - 96) = 0 := q
    omega
  | c :: r, 0, hr, _ => by
    have h1 := zKr_0 r (fun x hx => hr x (List.mem_cons_of_mem _ hx))
    have h2 := hr c List.mem_cons_self
    refine ⟨fun q => ?_, fun q => absurd q (fun z => z)⟩
    have q : (0 : Int) = 32 * zKr r + c := q
    omega
  | c :: r, k + 1, hr, h => by
    have h2 := h k (by omega)
    have h3 := hr c List.mem_cons_self
    have ih := zcd_m (t := t) (a := a) r k (fun x hx => hr x (List.mem_cons_of_mem _ hx)) (fun j hj => h j (by omega))
    rw [zcd_s]
    show (32 * zcd t a k + (t (a + (k : Int)) - 96) = 32 * zKr r + c ↔ t (a + (k : Int)) - 96 = c ∧ zmr t a r k)
    constructor
    · intro q
      exact ⟨by omega, ih.mp (by omega)⟩
    · intro q
      have := ih.mpr q.2
      omega
theorem zmr_i {t : Int → Int} {a : Int} : ∀ (r : List Int) (k : Nat), zmr t a r k ↔ (k = r.length ∧ ∀ j : Nat, j < r.length → t (a + (j : Int)) - 96 = r.getD (r.length - 1 - j) 0)
  | [], k => ⟨fun q => ⟨q, fun j hj => absurd hj (by show ¬ (j < 0); omega)⟩, fun q => q.1⟩
  | c :: r, 0 => ⟨fun q => absurd q (fun z => z), fun q => absurd q.1 (by show ¬ (0 = r.length + 1); omega)⟩
  | c :: r, k + 1 => by
    have ih := zmr_i (t := t) (a := a) r k
    show (t (a + (k : Int)) - 96 = c ∧ zmr t a r k) ↔ (k + 1 = r.length + 1 ∧ ∀ j : Nat, j < r.length + 1 → t (a + (j : Int)) - 96 = (c :: r).getD (r.length + 1 - 1 - j) 0)
    constructor
    · intro q
      have q2 := ih.mp q.2
      refine ⟨by omega, fun j hj => ?_⟩
      by_cases e : j = r.length
      · subst e
        rw [show r.length + 1 - 1 - r.length = 0 by omega, ← q2.1]
        exact q.1
      · rw [show r.length + 1 - 1 - j = (r.length - 1 - j) + 1 by omega]
        exact q2.2 j (by omega)
    · intro q
      have e : k = r.length := by omega
      refine ⟨?_, ih.mpr ⟨e, fun j hj => ?_⟩⟩
      · have := q.2 k (by omega)
        rw [show r.length + 1 - 1 - k = 0 by omega] at this
        exact this
      · have := q.2 j (by omega)
        rw [show r.length + 1 - 1 - j = (r.length - 1 - j) + 1 by omega] at this
        exact this
/-- of WORDS the i-th byte -/
def zwt (i : Nat) : Int := (zWt.getD i 0).toInt
/-- which word a number stands for -/
def zwv (v : Int) : Int := if v = 755084 then 0 else if v = 2590276 then 1 else if v = 197765 then 2 else if v = 146930 then 3 else if v = 2212 then 4 else if v = 20809171122 then 5 else if v = 12581 then 6 else if v = 15181413 then 7 else if v = 3744932 then 8 else if v = 693713060 then 9 else if v = 611783 then 10 else if v = 16052 then 11 else -1
/-- whether the letters from a on, k of them, are those of WORDS in f .. e - 1 -/
def zSm (t : Int → Int) (a : Int) (k f e : Nat) : Prop := k + f = e ∧ ∀ i : Nat, f ≤ i → i < e → t (a + ((i : Int) - (f : Int))) = zwt i
theorem zSm_r {t : Int → Int} {a : Int} {k f e : Nat} {r : List Int} (hf : f + r.length = e) (h : ∀ j : Nat, j < r.length → zwt (f + j) = r.getD (r.length - 1 - j) 0 + 96) : zSm t a k f e ↔ zmr t a r k := by
  rw [zmr_i]
  constructor
  · intro q
    refine ⟨by have := q.1; omega, fun j hj => ?_⟩
    have := q.2 (f + j) (by omega) (by omega)
    rw [show ((f + j : Nat) : Int) - (f : Int) = (j : Int) by omega, h j hj] at this
    omega
  · intro q
    refine ⟨by have := q.1; omega, fun i i0 i1 => ?_⟩
    have := q.2 (i - f) (by omega)
    have h2 := h (i - f) (by omega)
    rw [show f + (i - f) = i by omega] at h2
    rw [show (i : Int) - (f : Int) = ((i - f : Nat) : Int) by omega, h2]
    omega
theorem zSm_0 {t : Int → Int} {a : Int} {k : Nat} (hl : ∀ j : Nat, j < k → 1 ≤ t (a + (j : Int)) - 96 ∧ t (a + (j : Int)) - 96 ≤ 26) : zSm t a k 0 4 ↔ zcd t a k = 755084 := (zSm_r (r := [12, 12, 1, 23]) rfl (by decide +kernel)).trans (zcd_m _ k (by decide) hl).symm
theorem zSm_1 {t : Int → Int} {a : Int} {k : Nat} (hl : ∀ j : Nat, j < k → 1 ≤ t (a + (j : Int)) - 96 ∧ t (a + (j : Int)) - 96 ≤ 26) : zSm t a k 5 10 ↔ zcd t a k = 2590276 := (zSm_r (r := [4, 18, 1, 15, 2]) rfl (by decide +kernel)).trans (zcd_m _ k (by decide) hl).symm
theorem zSm_2 {t : Int → Int} {a : Int} {k : Nat} (hl : ∀ j : Nat, j < k → 1 ≤ t (a + (j : Int)) - 96 ∧ t (a + (j : Int)) - 96 ≤ 26) : zSm t a k 11 15 ↔ zcd t a k = 197765 := (zSm_r (r := [5, 4, 1, 6]) rfl (by decide +kernel)).trans (zcd_m _ k (by decide) hl).symm
theorem zSm_3 {t : Int → Int} {a : Int} {k : Nat} (hl : ∀ j : Nat, j < k → 1 ≤ t (a + (j : Int)) - 96 ∧ t (a + (j : Int)) - 96 ≤ 26) : zSm t a k 16 20 ↔ zcd t a k = 146930 := (zSm_r (r := [18, 15, 15, 4]) rfl (by decide +kernel)).trans (zcd_m _ k (by decide) hl).symm
theorem zSm_4 {t : Int → Int} {a : Int} {k : Nat} (hl : ∀ j : Nat, j < k → 1 ≤ t (a + (j : Int)) - 96 ∧ t (a + (j : Int)) - 96 ≤ 26) : zSm t a k 21 24 ↔ zcd t a k = 2212 := (zSm_r (r := [4, 5, 2]) rfl (by decide +kernel)).trans (zcd_m _ k (by decide) hl).symm
theorem zSm_5 {t : Int → Int} {a : Int} {k : Nat} (hl : ∀ j : Nat, j < k → 1 ≤ t (a + (j : Int)) - 96 ∧ t (a + (j : Int)) - 96 ≤ 26) : zSm t a k 25 32 ↔ zcd t a k = 20809171122 := (zSm_r (r := [18, 5, 16, 5, 5, 12, 19]) rfl (by decide +kernel)).trans (zcd_m _ k (by decide) hl).symm
theorem zSm_6 {t : Int → Int} {a : Int} {k : Nat} (hl : ∀ j : Nat, j < k → 1 ≤ t (a + (j : Int)) - 96 ∧ t (a + (j : Int)) - 96 ≤ 26) : zSm t a k 33 36 ↔ zcd t a k = 12581 := (zSm_r (r := [5, 9, 12]) rfl (by decide +kernel)).trans (zcd_m _ k (by decide) hl).symm
theorem zSm_7 {t : Int → Int} {a : Int} {k : Nat} (hl : ∀ j : Nat, j < k → 1 ≤ t (a + (j : Int)) - 96 ∧ t (a + (j : Int)) - 96 ≤ 26) : zSm t a k 37 42 ↔ zcd t a k = 15181413 := (zSm_r (r := [5, 19, 9, 15, 14]) rfl (by decide +kernel)).trans (zcd_m _ k (by decide) hl).symm
theorem zSm_8 {t : Int → Int} {a : Int} {k : Nat} (hl : ∀ j : Nat, j < k → 1 ≤ t (a + (j : Int)) - 96 ∧ t (a + (j : Int)) - 96 ≤ 26) : zSm t a k 43 48 ↔ zcd t a k = 3744932 := (zSm_r (r := [4, 5, 9, 18, 3]) rfl (by decide +kernel)).trans (zcd_m _ k (by decide) hl).symm
theorem zSm_9 {t : Int → Int} {a : Int} {k : Nat} (hl : ∀ j : Nat, j < k → 1 ≤ t (a + (j : Int)) - 96 ∧ t (a + (j : Int)) - 96 ≤ 26) : zSm t a k 49 55 ↔ zcd t a k = 693713060 := (zSm_r (r := [4, 5, 14, 18, 21, 20]) rfl (by decide +kernel)).trans (zcd_m _ k (by decide) hl).symm
theorem zSm_10 {t : Int → Int} {a : Int} {k : Nat} (hl : ∀ j : Nat, j < k → 1 ≤ t (a + (j : Int)) - 96 ∧ t (a + (j : Int)) - 96 ≤ 26) : zSm t a k 56 60 ↔ zcd t a k = 611783 := (zSm_r (r := [7, 14, 21, 18]) rfl (by decide +kernel)).trans (zcd_m _ k (by decide) hl).symm
theorem zSm_11 {t : Int → Int} {a : Int} {k : Nat} (hl : ∀ j : Nat, j < k → 1 ≤ t (a + (j : Int)) - 96 ∧ t (a + (j : Int)) - 96 ≤ 26) : zSm t a k 61 64 ↔ zcd t a k = 16052 := (zSm_r (r := [20, 21, 15]) rfl (by decide +kernel)).trans (zcd_m _ k (by decide) hl).symm
/-- where the word begins that WORDS's i-th byte belongs to, and its number -/
def zws9 : Nat → Nat × Nat
  | 0 => (0, 0)
  | i + 1 => if zwt i = 32 then ((zws9 i).1 + 1, i + 1) else zws9 i
theorem zws9_s {i : Nat} : zws9 (i + 1) = if zwt i = 32 then ((zws9 i).1 + 1, i + 1) else zws9 i := rfl
theorem zwsp : ∀ i : Nat, i < 65 → zwt i = 32 → i = 4 ∨ i = 10 ∨ i = 15 ∨ i = 20 ∨ i = 24 ∨ i = 32 ∨ i = 36 ∨ i = 42 ∨ i = 48 ∨ i = 55 ∨ i = 60 ∨ i = 64 := by decide +kernel
theorem zws9_b : ∀ i : Nat, i < 66 → (zws9 i).1 ≤ 12 ∧ (zws9 i).2 ≤ i := by decide +kernel
theorem zwt_b : ∀ i : Nat, i < 65 → 0 ≤ zwt i ∧ zwt i < 128 := by decide +kernel
theorem zwv_of {t : Int → Int} {a : Int} {k i : Nat} (hi : i < 65) (h32 : zwt i = 32) (hl : ∀ j : Nat, j < k → 1 ≤ t (a + (j : Int)) - 96 ∧ t (a + (j : Int)) - 96 ≤ 26) (h : zSm t a k (zws9 i).2 i) : zwv (zcd t a k) = ((zws9 i).1 : Int) := by
  rcases zwsp i hi h32 with rfl | rfl | rfl | rfl | rfl | rfl | rfl | rfl | rfl | rfl | rfl | rfl
  · rw [(zSm_0 hl).mp h]; decide +kernel
  · rw [(zSm_1 hl).mp h]; decide +kernel
  · rw [(zSm_2 hl).mp h]; decide +kernel
  · rw [(zSm_3 hl).mp h]; decide +kernel
  · rw [(zSm_4 hl).mp h]; decide +kernel
  · rw [(zSm_5 hl).mp h]; decide +kernel
  · rw [(zSm_6 hl).mp h]; decide +kernel
  · rw [(zSm_7 hl).mp h]; decide +kernel
  · rw [(zSm_8 hl).mp h]; decide +kernel
  · rw [(zSm_9 hl).mp h]; decide +kernel
  · rw [(zSm_10 hl).mp h]; decide +kernel
  · rw [(zSm_11 hl).mp h]; decide +kernel
theorem zwv_no {t : Int → Int} {a : Int} {k : Nat} (hl : ∀ j : Nat, j < k → 1 ≤ t (a + (j : Int)) - 96 ∧ t (a + (j : Int)) - 96 ≤ 26) (h : ∀ i : Nat, i < 65 → zwt i = 32 → ¬ zSm t a k (zws9 i).2 i) : zwv (zcd t a k) = -1 := by
  have h0 : ¬ zcd t a k = 755084 := fun q => h 4 (by decide) (by decide +kernel) ((zSm_0 hl).mpr q)
  have h1 : ¬ zcd t a k = 2590276 := fun q => h 10 (by decide) (by decide +kernel) ((zSm_1 hl).mpr q)
  have h2 : ¬ zcd t a k = 197765 := fun q => h 15 (by decide) (by decide +kernel) ((zSm_2 hl).mpr q)
  have h3 : ¬ zcd t a k = 146930 := fun q => h 20 (by decide) (by decide +kernel) ((zSm_3 hl).mpr q)
  have h4 : ¬ zcd t a k = 2212 := fun q => h 24 (by decide) (by decide +kernel) ((zSm_4 hl).mpr q)
  have h5 : ¬ zcd t a k = 20809171122 := fun q => h 32 (by decide) (by decide +kernel) ((zSm_5 hl).mpr q)
  have h6 : ¬ zcd t a k = 12581 := fun q => h 36 (by decide) (by decide +kernel) ((zSm_6 hl).mpr q)
  have h7 : ¬ zcd t a k = 15181413 := fun q => h 42 (by decide) (by decide +kernel) ((zSm_7 hl).mpr q)
  have h8 : ¬ zcd t a k = 3744932 := fun q => h 48 (by decide) (by decide +kernel) ((zSm_8 hl).mpr q)
  have h9 : ¬ zcd t a k = 693713060 := fun q => h 55 (by decide) (by decide +kernel) ((zSm_9 hl).mpr q)
  have h10 : ¬ zcd t a k = 611783 := fun q => h 60 (by decide) (by decide +kernel) ((zSm_10 hl).mpr q)
  have h11 : ¬ zcd t a k = 16052 := fun q => h 64 (by decide) (by decide +kernel) ((zSm_11 hl).mpr q)
  unfold zwv
  rw [if_neg h0, if_neg h1, if_neg h2, if_neg h3, if_neg h4, if_neg h5, if_neg h6, if_neg h7, if_neg h8, if_neg h9, if_neg h10, if_neg h11]
theorem zwv_b {v : Int} : -1 ≤ zwv v ∧ zwv v ≤ 11 := by
  unfold zwv
  repeat' split
  all_goals omega
/-- a word of more than seven letters is none -/
theorem zwv_8 {t : Int → Int} {a : Int} {k : Nat} (hk : 7 < k) (hl : ∀ j : Nat, j < k → 1 ≤ t (a + (j : Int)) - 96 ∧ t (a + (j : Int)) - 96 ≤ 26) : zwv (zcd t a k) = -1 := by
  have h0 : ¬ zcd t a k = 755084 := fun q => by have := ((zSm_0 hl).mpr q).1; omega
  have h1 : ¬ zcd t a k = 2590276 := fun q => by have := ((zSm_1 hl).mpr q).1; omega
  have h2 : ¬ zcd t a k = 197765 := fun q => by have := ((zSm_2 hl).mpr q).1; omega
  have h3 : ¬ zcd t a k = 146930 := fun q => by have := ((zSm_3 hl).mpr q).1; omega
  have h4 : ¬ zcd t a k = 2212 := fun q => by have := ((zSm_4 hl).mpr q).1; omega
  have h5 : ¬ zcd t a k = 20809171122 := fun q => by have := ((zSm_5 hl).mpr q).1; omega
  have h6 : ¬ zcd t a k = 12581 := fun q => by have := ((zSm_6 hl).mpr q).1; omega
  have h7 : ¬ zcd t a k = 15181413 := fun q => by have := ((zSm_7 hl).mpr q).1; omega
  have h8 : ¬ zcd t a k = 3744932 := fun q => by have := ((zSm_8 hl).mpr q).1; omega
  have h9 : ¬ zcd t a k = 693713060 := fun q => by have := ((zSm_9 hl).mpr q).1; omega
  have h10 : ¬ zcd t a k = 611783 := fun q => by have := ((zSm_10 hl).mpr q).1; omega
  have h11 : ¬ zcd t a k = 16052 := fun q => by have := ((zSm_11 hl).mpr q).1; omega
  unfold zwv
  rw [if_neg h0, if_neg h1, if_neg h2, if_neg h3, if_neg h4, if_neg h5, if_neg h6, if_neg h7, if_neg h8, if_neg h9, if_neg h10, if_neg h11]
/-- the number that stands in a .. b - 1 -/
def znv (t : Int → Int) (a b : Int) : Int := if b - a = 1 then t a - 48 else 10 * (t a - 48) + (t (a + 1) - 48)
/-- how many numbers a word takes -/
def zcn (w : Int) : Int := if w = 1 ∨ w = 6 then 2 else if w = 5 then 5 else if 7 ≤ w then 4 else 1
/-- an item that begins at p: its word, its end; where its i-th number begins and ends -/
noncomputable def zIw (t : Int → Int) (n p : Int) : Int := zwv (zcd t p (zen zpL t n p - p).toNat)
noncomputable def zIe (t : Int → Int) (n p : Int) : Nat → Int
  | 0 => zen zpL t n p
  | i + 1 => zen zpD t n (zen zpB t n (zIe t n p i))
noncomputable def zIs (t : Int → Int) (n p : Int) (i : Nat) : Int := zen zpB t n (zIe t n p i)
theorem zIe_s {t : Int → Int} {n p : Int} {i : Nat} : zIe t n p (i + 1) = zen zpD t n (zIs t n p i) := rfl
def zIg (t : Int → Int) (n p : Int) (i : Nat) : Prop := zIe t n p (i + 1) - zIs t n p i = 1 ∨ zIe t n p (i + 1) - zIs t n p i = 2
noncomputable def zIv (t : Int → Int) (n p : Int) (i : Nat) : Int := znv t (zIs t n p i) (zIe t n p (i + 1))
/-- the item's fault, f: -1 for none -/
def zIf (t : Int → Int) (n p f : Int) : Prop := (zIw t n p = -1 ∧ f = p) ∨ (zIw t n p ≠ -1 ∧ ((∃ i : Nat, (i : Int) < zcn (zIw t n p) ∧ (∀ j : Nat, j < i → zIg t n p j) ∧ ¬ zIg t n p i ∧ f = zIs t n p i) ∨ ((∀ j : Nat, (j : Int) < zcn (zIw t n p) → zIg t n p j) ∧ ((zby t n (zIs t n p (zcn (zIw t n p)).toNat) = 59 ∧ f = -1) ∨ (zby t n (zIs t n p (zcn (zIw t n p)).toNat) ≠ 59 ∧ f = zIs t n p (zcn (zIw t n p)).toNat)))))
theorem zIf_u {t : Int → Int} {n p f g : Int} (h : zIf t n p f) (k : zIf t n p g) : f = g := by
  rcases h with ⟨h1, h2⟩ | ⟨h1, h2⟩
  · rcases k with ⟨k1, k2⟩ | ⟨k1, k2⟩
    · omega
    · exact absurd h1 k1
  · rcases k with ⟨k1, k2⟩ | ⟨k1, k2⟩
    · exact absurd k1 h1
    · rcases h2 with ⟨i, i1, i2, i3, i4⟩ | ⟨a1, a2⟩
      · rcases k2 with ⟨j, j1, j2, j3, j4⟩ | ⟨b1, b2⟩
        · have : i = j := by
            by_cases q : i < j
            · exact absurd (j2 i q) i3
            · by_cases q2 : j < i
              · exact absurd (i2 j q2) j3
              · omega
          rw [i4, j4, this]
        · exact absurd (b1 i i1) i3
      · rcases k2 with ⟨j, j1, j2, j3, j4⟩ | ⟨b1, b2⟩
        · exact absurd (a1 j j1) j3
        · rcases a2 with ⟨c1, c2⟩ | ⟨c1, c2⟩
          · rcases b2 with ⟨d1, d2⟩ | ⟨d1, d2⟩
            · omega
            · exact absurd c1 d1
          · rcases b2 with ⟨d1, d2⟩ | ⟨d1, d2⟩
            · exact absurd d1 c1
            · omega
/-- where the k-th item begins; the text's end, or its fault -/
noncomputable def zps (t : Int → Int) (n : Int) : Nat → Int
  | 0 => zen zpB t n 0
  | k + 1 => zen zpB t n (zIs t n (zps t n k) (zcn (zIw t n (zps t n k))).toNat + 1)
theorem zps_s {t : Int → Int} {n : Int} {k : Nat} : zps t n (k + 1) = zen zpB t n (zIs t n (zps t n k) (zcn (zIw t n (zps t n k))).toNat + 1) := rfl
/-- the text read: k items without a fault; then its end (f = -1) or the fault f -/
def zRd9 (t : Int → Int) (n : Int) (k : Nat) (f : Int) : Prop := (∀ j : Nat, j < k → zps t n j < n ∧ zIf t n (zps t n j) (-1)) ∧ ((n ≤ zps t n k ∧ f = -1) ∨ (zps t n k < n ∧ zIf t n (zps t n k) f ∧ f ≠ -1))
theorem zRd9_u {t : Int → Int} {n : Int} {k m : Nat} {f g : Int} (h : zRd9 t n k f) (q : zRd9 t n m g) : k = m ∧ f = g := by
  have e : k = m := by
    by_cases c : k < m
    · have a := q.1 k c
      rcases h.2 with ⟨b, -⟩ | ⟨b1, b2, b3⟩
      · omega
      · exact absurd (zIf_u b2 a.2) b3
    · by_cases c2 : m < k
      · have a := h.1 m c2
        rcases q.2 with ⟨b, -⟩ | ⟨b1, b2, b3⟩
        · omega
        · exact absurd (zIf_u b2 a.2) b3
      · omega
  subst e
  refine ⟨rfl, ?_⟩
  rcases h.2 with ⟨a, rfl⟩ | ⟨a, a2, a3⟩
  · rcases q.2 with ⟨b, rfl⟩ | ⟨b, b2, b3⟩
    · rfl
    · omega
  · rcases q.2 with ⟨b, rfl⟩ | ⟨b, b2, b3⟩
    · omega
    · exact zIf_u a2 b2
theorem zcn_b {w : Int} : 1 ≤ zcn w ∧ zcn w ≤ 5 := by
  unfold zcn
  repeat' split
  all_goals omega
/-- positions of an item lie within the text -/
theorem zIe_b {t : Int → Int} {n p : Int} (hn : n ≤ 300) (p0 : 0 ≤ p) (pn : p ≤ n) : ∀ i : Nat, p ≤ zIe t n p i ∧ zIe t n p i ≤ n
  | 0 => zen_b zpL_n hn p0 pn
  | i + 1 => by
    have h := zIe_b (t := t) hn p0 pn i
    have a := zen_b (t := t) zpB_n hn (a := zIe t n p i) (by omega) h.2
    have b := zen_b (t := t) zpD_n hn (a := zen zpB t n (zIe t n p i)) (by omega) a.2
    show p ≤ zen zpD t n (zen zpB t n (zIe t n p i)) ∧ zen zpD t n (zen zpB t n (zIe t n p i)) ≤ n
    omega
theorem zIs_b {t : Int → Int} {n p : Int} (hn : n ≤ 300) (p0 : 0 ≤ p) (pn : p ≤ n) (i : Nat) : zIe t n p i ≤ zIs t n p i ∧ zIs t n p i ≤ n := zen_b zpB_n hn (by have := zIe_b (t := t) hn p0 pn i; omega) (zIe_b hn p0 pn i).2
