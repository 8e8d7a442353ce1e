theorem spT_cg {V : zM} {w : Int} {f g : Int → Int} (hw : 0 ≤ w) (h : ∀ i, 0 ≤ i → i < zcn w → f i = g i) : spT V w f = spT V w g := by
  have h0 := h 0 (by decide) (by have := zcn_b (w := w); omega)
  unfold spT
  by_cases q0 : w = 0
  · rw [if_pos q0, if_pos q0, h0]
  · rw [if_neg q0, if_neg q0]
    by_cases q1 : w = 1
    · have h1 := h 1 (by decide) (by unfold zcn; rw [if_pos (by omega)]; decide)
      rw [if_pos q1, if_pos q1, h0, h1]
    · rw [if_neg q1, if_neg q1]
      by_cases q2 : w = 2
      · rw [if_pos q2, if_pos q2, h0]
      · rw [if_neg q2, if_neg q2]
        by_cases q3 : w = 3
        · rw [if_pos q3, if_pos q3, h0]
        · rw [if_neg q3, if_neg q3]
          by_cases q4 : w = 4
          · rw [if_pos q4, if_pos q4, h0]
          · rw [if_neg q4, if_neg q4]
            by_cases q5 : w = 5
            · have e : zcn w = 5 := by unfold zcn; rw [if_neg (by omega), if_pos q5]
              rw [if_pos q5, if_pos q5, h0, h 1 (by decide) (by omega), h 2 (by decide) (by omega), h 3 (by decide) (by omega), h 4 (by decide) (by omega)]
            · rw [if_neg q5, if_neg q5]
              by_cases q6 : w = 6
              · have e : zcn w = 2 := by unfold zcn; rw [if_pos (by omega)]
                rw [if_pos q6, if_pos q6, h0, h 1 (by decide) (by omega)]
              · have e : zcn w = 4 := by unfold zcn; rw [if_neg (by omega), if_neg q5, if_pos (by omega)]
                rw [if_neg q6, if_neg q6, h0, h 1 (by decide) (by omega), h 2 (by decide) (by omega), h 3 (by decide) (by omega)]
/-- the house that the first items tell -/
noncomputable def zIn (t : Int → Int) (n : Int) (j : Nat) : Int → Int := fun i => zIv t n (zps t n j) i.toNat
noncomputable def zTS (t : Int → Int) (n : Int) : Nat → zM
  | 0 => zV0
  | j + 1 => (spT (zTS t n j) (zIw t n (zps t n j)) (zIn t n j)).2
theorem zTS_s {t : Int → Int} {n : Int} {j : Nat} : zTS t n (j + 1) = (spT (zTS t n j) (zIw t n (zps t n j)) (zIn t n j)).2 := rfl
def zTg9 (t : Int → Int) (n : Int) (j : Nat) : Prop := -2 < (spT (zTS t n j) (zIw t n (zps t n j)) (zIn t n j)).1
/-- of k items m are told well, and then one isn't, or that is all -/
def zTd9 (t : Int → Int) (n : Int) (k m : Nat) : Prop := m ≤ k ∧ (∀ j : Nat, j < m → zTg9 t n j) ∧ (m = k ∨ ¬ zTg9 t n m)
theorem zTd9_u {t : Int → Int} {n : Int} {k m l : Nat} (h : zTd9 t n k m) (g : zTd9 t n k l) : m = l := by
  by_cases q : m < l
  · rcases h.2.2 with e | e
    · have := g.1; omega
    · exact absurd (g.2.1 m q) e
  · by_cases q2 : l < m
    · rcases g.2.2 with e | e
      · have := h.1; omega
      · exact absurd (h.2.1 l q2) e
    · omega
theorem zTS_ok {t : Int → Int} {n : Int} : ∀ j : Nat, zOK (zTS t n j)
  | 0 => zV0_ok
  | j + 1 => by rw [zTS_s]; exact spT_ok (zTS_ok j)
theorem zV0_sum : zsum (zV0 0) 36 = 0 := by
  have : ∀ n : Nat, zsum (zV0 0) n = 0 := fun n => by
    induction n with
    | zero => rfl
    | succ n ih => rw [zsum_s, ih]; rfl
  exact this 36
/-- an answer of the house's calls is below -1 where it refuses, and not below 0 else, but for lie -/
theorem spT_g {V : zM} {w : Int} {f : Int → Int} (ok : zOK V) (hw : 0 ≤ w) (h6 : w ≠ 6) : -2 < (spT V w f).1 → 0 ≤ (spT V w f).1 := by
  unfold spT
  have b := ok.1.2.1
  have c := ok.1.2.2.2
  have p := ok.2.1.1
  have s := ok.2.2.1.1
  have N : ∀ (Q : Prop) (a y : Int × zM), (-2 < a.1 → 0 ≤ a.1) → (-2 < y.1 → 0 ≤ y.1) → (-2 < (zif Q a y).1 → 0 ≤ (zif Q a y).1) := fun Q a y h1 h2 => zif_i (p := fun (z : Int × zM) => -2 < z.1 → 0 ≤ z.1) (fun _ => h1) (fun _ => h2)
  split
  · unfold spW; exact N _ _ _ (fun q => by have q : _ < _ := q; simp only [] at q; omega) (N _ _ _ (fun q => by have q : _ < _ := q; simp only [] at q; omega) (fun _ => by show (0 : Int) ≤ 1; decide))
  · split
    · unfold spC
      refine zif_i (p := fun (z : Int × zM) => -2 < z.1 → 0 ≤ z.1) (fun _ q => by have q : (-2 : Int) < -2 := q; omega) (fun q _ => ?_)
      have : 0 ≤ f 0 ∧ f 0 < 36 := by
        by_cases z : 0 ≤ f 0 ∧ f 0 < 36
        · exact z
        · exact absurd (Or.inl z) q
      exact (ok.1.1 _ this.1 this.2).2.1
    · split
      · unfold spF; exact N _ _ _ (fun q => by have q : _ < _ := q; simp only [] at q; omega) (fun _ => c.1.1)
      · split
        · unfold spD; exact N _ _ _ (fun q => by have q : _ < _ := q; simp only [] at q; omega) (fun _ => c.2.1)
        · split
          · unfold spB; exact N _ _ _ (fun q => by have q : _ < _ := q; simp only [] at q; omega) (N _ _ _ (fun q => by have q : _ < _ := q; simp only [] at q; omega) (fun _ => b.1))
          · split
            · unfold spS; exact N _ _ _ (fun q => by have q : _ < _ := q; simp only [] at q; omega) (N _ _ _ (fun q => by have q : _ < _ := q; simp only [] at q; omega) (fun _ => p.1))
            · skip
              unfold spN; exact N _ _ _ (fun q => by have q : _ < _ := q; simp only [] at q; omega) (N _ _ _ (fun q => by have q : _ < _ := q; simp only [] at q; omega) (fun _ => s.1))
