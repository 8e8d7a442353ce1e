/-! THE SEARCH, PURE -/
/-- as V, but with other beds (k = 9) or other hours of going (k = 6) -/
def zVk (k0 : Nat) (V : zM) (g : Int → Int) : zM := fun k i => if k = k0 ∧ 0 ≤ i ∧ i < V 3 3 then g i else V k i
theorem zVk_ne {k0 k : Nat} {V : zM} {g : Int → Int} (h : k ≠ k0) : zVk k0 V g k = V k := by
  funext i
  unfold zVk
  rw [if_neg (fun q => h q.1)]
theorem zVk_in {k0 : Nat} {V : zM} {g : Int → Int} {i : Int} (h0 : 0 ≤ i) (h1 : i < V 3 3) : zVk k0 V g k0 i = g i := if_pos ⟨rfl, h0, h1⟩
theorem zVk_out {k0 : Nat} {V : zM} {g : Int → Int} {i : Int} (h : ¬ (0 ≤ i ∧ i < V 3 3)) : zVk k0 V g k0 i = V k0 i := if_neg (fun q => h q.2)
theorem zVk_2 {k0 : Nat} {V W : zM} {g : Int → Int} (h : ∀ k, k ≠ k0 → W k = V k) (h3 : k0 ≠ 3) (h4 : ∀ i, ¬ (0 ≤ i ∧ i < V 3 3) → W k0 i = V k0 i) : zVk k0 W g = zVk k0 V g := by
  funext k i
  unfold zVk
  rw [h 3 (fun q => h3 q.symm)]
  by_cases q : k = k0
  · subst q
    by_cases r : 0 ≤ i ∧ i < V 3 3
    · rw [if_pos ⟨rfl, r⟩, if_pos ⟨rfl, r⟩]
    · rw [if_neg (fun c => r c.2), if_neg (fun c => r c.2)]; exact h4 i r
  · rw [if_neg (fun c => q c.1), if_neg (fun c => q c.1), h k q]
theorem zVk_cg {k0 : Nat} {V : zM} {g f : Int → Int} (h : ∀ i, 0 ≤ i → i < V 3 3 → g i = f i) : zVk k0 V g = zVk k0 V f := by
  funext k i
  unfold zVk
  by_cases q : k = k0 ∧ 0 ≤ i ∧ i < V 3 3
  · rw [if_pos q, if_pos q]; exact h i q.2.1 q.2.2
  · rw [if_neg q, if_neg q]
theorem zEr_k {V W : zM} {fan : Int} {μ : zM} {e : Nat} (h : ∀ k, k ≠ 9 → k ≠ 6 → W k = V k) (q : zEr V fan μ e) : zEr W fan μ e := by
  have e0 := h 0 (by decide) (by decide)
  have e1 := h 1 (by decide) (by decide)
  have e2 := h 2 (by decide) (by decide)
  have e3 := h 3 (by decide) (by decide)
  have e10 := h 10 (by decide) (by decide)
  have e11 := h 11 (by decide) (by decide)
  have e12 := h 12 (by decide) (by decide)
  have e13 := h 13 (by decide) (by decide)
  have e14 := h 14 (by decide) (by decide)
  have o : zOp W = zOp V := by unfold zOp; rw [e0]
  have c : ∀ t, zCv W t = zCv V t := fun t => by unfold zCv; rw [e3]; exact zsum_c (fun i _ _ => by unfold zCvf; rw [e10, e12, e13, e14])
  have d : ∀ i t, zDu W i t = zDu V i t := fun i t => by unfold zDu; rw [e10, e12, e13]
  have hc : ∀ l, zHc W l = zHc V l := fun l => by funext x; unfold zHc zWk; rw [o, e1, e2, e3]
  have wc : ∀ l a b, zWc W l a b = zWc V l a b := fun l a b => by unfold zWc zWk; rw [hc, o]
  have hs : ∀ l x v, zHs W l x v = zHs V l x v := fun l x v => by unfold zHs zWk; rw [o, e2, e3]
  unfold zEr zEa zEb zEc zEd at *
  unfold zWk at *
  simp only [o, e2, e3, e10, e11, e14, c, d, wc, hs]
  exact q
theorem zHV_k9 {μ ν : zM} {h : Nat} {g : Int → Int} (f : ∀ a : Nat, a ≠ h + 11 → ν a = μ a) (hg : ∀ i, 0 ≤ i → i < μ (h + 5) 6 → ν (h + 11) i = g i) : zHV ν h = zVk 9 (zHV μ h) g := by
  funext k i
  unfold zVk
  match k with
  | 0 => (rw [if_neg (fun q => absurd q.1 (by decide))]; show (if 0 ≤ i ∧ i < 36 then ν (h + 2) i else 0) = (if 0 ≤ i ∧ i < 36 then μ (h + 2) i else 0); rw [f (h + 2) (by omega)])
  | 1 => (rw [if_neg (fun q => absurd q.1 (by decide))]; show (if 0 ≤ i ∧ i < 36 then ν (h + 3) i else 0) = (if 0 ≤ i ∧ i < 36 then μ (h + 3) i else 0); rw [f (h + 3) (by omega)])
  | 2 => (rw [if_neg (fun q => absurd q.1 (by decide))]; show (if 0 ≤ i ∧ i < ν (h + 1) 3 then ν (h + 4) i else 0) = (if 0 ≤ i ∧ i < μ (h + 1) 3 then μ (h + 4) i else 0); rw [f (h + 1) (by omega), f (h + 4) (by omega)])
  | 3 => (rw [if_neg (fun q => absurd q.1 (by decide))]; show (if i = 0 then ν (h + 1) 3 else if i = 1 then ν (h + 1) 4 else if i = 2 then ν (h + 1) 5 else if i = 3 then ν (h + 5) 6 else if i = 4 then ν (h + 12) 5 else if i = 5 then ν (h + 18) 3 else 0) = (if i = 0 then μ (h + 1) 3 else if i = 1 then μ (h + 1) 4 else if i = 2 then μ (h + 1) 5 else if i = 3 then μ (h + 5) 6 else if i = 4 then μ (h + 12) 5 else if i = 5 then μ (h + 18) 3 else 0); rw [f (h + 1) (by omega), f (h + 5) (by omega), f (h + 12) (by omega), f (h + 18) (by omega)])
  | 4 => (rw [if_neg (fun q => absurd q.1 (by decide))]; show (if 0 ≤ i ∧ i < ν (h + 5) 6 then ν (h + 6) i else 0) = (if 0 ≤ i ∧ i < μ (h + 5) 6 then μ (h + 6) i else 0); rw [f (h + 5) (by omega), f (h + 6) (by omega)])
  | 5 => (rw [if_neg (fun q => absurd q.1 (by decide))]; show (if 0 ≤ i ∧ i < ν (h + 5) 6 then ν (h + 7) i else 0) = (if 0 ≤ i ∧ i < μ (h + 5) 6 then μ (h + 7) i else 0); rw [f (h + 5) (by omega), f (h + 7) (by omega)])
  | 6 => (rw [if_neg (fun q => absurd q.1 (by decide))]; show (if 0 ≤ i ∧ i < ν (h + 5) 6 then ν (h + 8) i else 0) = (if 0 ≤ i ∧ i < μ (h + 5) 6 then μ (h + 8) i else 0); rw [f (h + 5) (by omega), f (h + 8) (by omega)])
  | 7 => (rw [if_neg (fun q => absurd q.1 (by decide))]; show (if 0 ≤ i ∧ i < ν (h + 5) 6 then ν (h + 9) i else 0) = (if 0 ≤ i ∧ i < μ (h + 5) 6 then μ (h + 9) i else 0); rw [f (h + 5) (by omega), f (h + 9) (by omega)])
  | 8 => (rw [if_neg (fun q => absurd q.1 (by decide))]; show (if 0 ≤ i ∧ i < ν (h + 5) 6 then ν (h + 10) i else 0) = (if 0 ≤ i ∧ i < μ (h + 5) 6 then μ (h + 10) i else 0); rw [f (h + 5) (by omega), f (h + 10) (by omega)])
  | 9 => exact (Classical.em (0 ≤ i ∧ i < μ (h + 5) 6)).elim (fun q => by (rw [if_pos (show 9 = 9 ∧ 0 ≤ i ∧ i < zHV μ h 3 3 from ⟨rfl, q⟩)]; show (if 0 ≤ i ∧ i < ν (h + 5) 6 then ν (h + 11) i else 0) = g i; rw [f (h + 5) (by omega), if_pos q]; exact hg i q.1 q.2)) (fun q => by (rw [if_neg (show ¬ (9 = 9 ∧ 0 ≤ i ∧ i < zHV μ h 3 3) from fun c => q c.2)]; show (if 0 ≤ i ∧ i < ν (h + 5) 6 then ν (h + 11) i else 0) = (if 0 ≤ i ∧ i < μ (h + 5) 6 then μ (h + 11) i else 0); rw [f (h + 5) (by omega), if_neg q, if_neg q]))
  | 10 => (rw [if_neg (fun q => absurd q.1 (by decide))]; show (if 0 ≤ i ∧ i < ν (h + 12) 5 then ν (h + 13) i else 0) = (if 0 ≤ i ∧ i < μ (h + 12) 5 then μ (h + 13) i else 0); rw [f (h + 12) (by omega), f (h + 13) (by omega)])
  | 11 => (rw [if_neg (fun q => absurd q.1 (by decide))]; show (if 0 ≤ i ∧ i < ν (h + 12) 5 then ν (h + 14) i else 0) = (if 0 ≤ i ∧ i < μ (h + 12) 5 then μ (h + 14) i else 0); rw [f (h + 12) (by omega), f (h + 14) (by omega)])
  | 12 => (rw [if_neg (fun q => absurd q.1 (by decide))]; show (if 0 ≤ i ∧ i < ν (h + 12) 5 then ν (h + 15) i else 0) = (if 0 ≤ i ∧ i < μ (h + 12) 5 then μ (h + 15) i else 0); rw [f (h + 12) (by omega), f (h + 15) (by omega)])
  | 13 => (rw [if_neg (fun q => absurd q.1 (by decide))]; show (if 0 ≤ i ∧ i < ν (h + 12) 5 then ν (h + 16) i else 0) = (if 0 ≤ i ∧ i < μ (h + 12) 5 then μ (h + 16) i else 0); rw [f (h + 12) (by omega), f (h + 16) (by omega)])
  | 14 => (rw [if_neg (fun q => absurd q.1 (by decide))]; show (if 0 ≤ i ∧ i < ν (h + 12) 5 then ν (h + 17) i else 0) = (if 0 ≤ i ∧ i < μ (h + 12) 5 then μ (h + 17) i else 0); rw [f (h + 12) (by omega), f (h + 17) (by omega)])
  | 15 => (rw [if_neg (fun q => absurd q.1 (by decide))]; show (if 0 ≤ i ∧ i < ν (h + 18) 3 then ν (h + 19) i else 0) = (if 0 ≤ i ∧ i < μ (h + 18) 3 then μ (h + 19) i else 0); rw [f (h + 18) (by omega), f (h + 19) (by omega)])
  | 16 => (rw [if_neg (fun q => absurd q.1 (by decide))]; show (if 0 ≤ i ∧ i < ν (h + 18) 3 then ν (h + 20) i else 0) = (if 0 ≤ i ∧ i < μ (h + 18) 3 then μ (h + 20) i else 0); rw [f (h + 18) (by omega), f (h + 20) (by omega)])
  | 17 => (rw [if_neg (fun q => absurd q.1 (by decide))]; show (if 0 ≤ i ∧ i < ν (h + 18) 3 then ν (h + 21) i else 0) = (if 0 ≤ i ∧ i < μ (h + 18) 3 then μ (h + 21) i else 0); rw [f (h + 18) (by omega), f (h + 21) (by omega)])
  | n + 18 => exact (if_neg (fun q => absurd q.1 (by omega))).symm
theorem zHV_k6 {μ ν : zM} {h : Nat} {g : Int → Int} (f : ∀ a : Nat, a ≠ h + 8 → ν a = μ a) (hg : ∀ i, 0 ≤ i → i < μ (h + 5) 6 → ν (h + 8) i = g i) : zHV ν h = zVk 6 (zHV μ h) g := by
  funext k i
  unfold zVk
  match k with
  | 0 => (rw [if_neg (fun q => absurd q.1 (by decide))]; show (if 0 ≤ i ∧ i < 36 then ν (h + 2) i else 0) = (if 0 ≤ i ∧ i < 36 then μ (h + 2) i else 0); rw [f (h + 2) (by omega)])
  | 1 => (rw [if_neg (fun q => absurd q.1 (by decide))]; show (if 0 ≤ i ∧ i < 36 then ν (h + 3) i else 0) = (if 0 ≤ i ∧ i < 36 then μ (h + 3) i else 0); rw [f (h + 3) (by omega)])
  | 2 => (rw [if_neg (fun q => absurd q.1 (by decide))]; show (if 0 ≤ i ∧ i < ν (h + 1) 3 then ν (h + 4) i else 0) = (if 0 ≤ i ∧ i < μ (h + 1) 3 then μ (h + 4) i else 0); rw [f (h + 1) (by omega), f (h + 4) (by omega)])
  | 3 => (rw [if_neg (fun q => absurd q.1 (by decide))]; show (if i = 0 then ν (h + 1) 3 else if i = 1 then ν (h + 1) 4 else if i = 2 then ν (h + 1) 5 else if i = 3 then ν (h + 5) 6 else if i = 4 then ν (h + 12) 5 else if i = 5 then ν (h + 18) 3 else 0) = (if i = 0 then μ (h + 1) 3 else if i = 1 then μ (h + 1) 4 else if i = 2 then μ (h + 1) 5 else if i = 3 then μ (h + 5) 6 else if i = 4 then μ (h + 12) 5 else if i = 5 then μ (h + 18) 3 else 0); rw [f (h + 1) (by omega), f (h + 5) (by omega), f (h + 12) (by omega), f (h + 18) (by omega)])
  | 4 => (rw [if_neg (fun q => absurd q.1 (by decide))]; show (if 0 ≤ i ∧ i < ν (h + 5) 6 then ν (h + 6) i else 0) = (if 0 ≤ i ∧ i < μ (h + 5) 6 then μ (h + 6) i else 0); rw [f (h + 5) (by omega), f (h + 6) (by omega)])
  | 5 => (rw [if_neg (fun q => absurd q.1 (by decide))]; show (if 0 ≤ i ∧ i < ν (h + 5) 6 then ν (h + 7) i else 0) = (if 0 ≤ i ∧ i < μ (h + 5) 6 then μ (h + 7) i else 0); rw [f (h + 5) (by omega), f (h + 7) (by omega)])
  | 6 => exact (Classical.em (0 ≤ i ∧ i < μ (h + 5) 6)).elim (fun q => by (rw [if_pos (show 6 = 6 ∧ 0 ≤ i ∧ i < zHV μ h 3 3 from ⟨rfl, q⟩)]; show (if 0 ≤ i ∧ i < ν (h + 5) 6 then ν (h + 8) i else 0) = g i; rw [f (h + 5) (by omega), if_pos q]; exact hg i q.1 q.2)) (fun q => by (rw [if_neg (show ¬ (6 = 6 ∧ 0 ≤ i ∧ i < zHV μ h 3 3) from fun c => q c.2)]; show (if 0 ≤ i ∧ i < ν (h + 5) 6 then ν (h + 8) i else 0) = (if 0 ≤ i ∧ i < μ (h + 5) 6 then μ (h + 8) i else 0); rw [f (h + 5) (by omega), if_neg q, if_neg q]))
  | 7 => (rw [if_neg (fun q => absurd q.1 (by decide))]; show (if 0 ≤ i ∧ i < ν (h + 5) 6 then ν (h + 9) i else 0) = (if 0 ≤ i ∧ i < μ (h + 5) 6 then μ (h + 9) i else 0); rw [f (h + 5) (by omega), f (h + 9) (by omega)])
  | 8 => (rw [if_neg (fun q => absurd q.1 (by decide))]; show (if 0 ≤ i ∧ i < ν (h + 5) 6 then ν (h + 10) i else 0) = (if 0 ≤ i ∧ i < μ (h + 5) 6 then μ (h + 10) i else 0); rw [f (h + 5) (by omega), f (h + 10) (by omega)])
  | 9 => (rw [if_neg (fun q => absurd q.1 (by decide))]; show (if 0 ≤ i ∧ i < ν (h + 5) 6 then ν (h + 11) i else 0) = (if 0 ≤ i ∧ i < μ (h + 5) 6 then μ (h + 11) i else 0); rw [f (h + 5) (by omega), f (h + 11) (by omega)])
  | 10 => (rw [if_neg (fun q => absurd q.1 (by decide))]; show (if 0 ≤ i ∧ i < ν (h + 12) 5 then ν (h + 13) i else 0) = (if 0 ≤ i ∧ i < μ (h + 12) 5 then μ (h + 13) i else 0); rw [f (h + 12) (by omega), f (h + 13) (by omega)])
  | 11 => (rw [if_neg (fun q => absurd q.1 (by decide))]; show (if 0 ≤ i ∧ i < ν (h + 12) 5 then ν (h + 14) i else 0) = (if 0 ≤ i ∧ i < μ (h + 12) 5 then μ (h + 14) i else 0); rw [f (h + 12) (by omega), f (h + 14) (by omega)])
  | 12 => (rw [if_neg (fun q => absurd q.1 (by decide))]; show (if 0 ≤ i ∧ i < ν (h + 12) 5 then ν (h + 15) i else 0) = (if 0 ≤ i ∧ i < μ (h + 12) 5 then μ (h + 15) i else 0); rw [f (h + 12) (by omega), f (h + 15) (by omega)])
  | 13 => (rw [if_neg (fun q => absurd q.1 (by decide))]; show (if 0 ≤ i ∧ i < ν (h + 12) 5 then ν (h + 16) i else 0) = (if 0 ≤ i ∧ i < μ (h + 12) 5 then μ (h + 16) i else 0); rw [f (h + 12) (by omega), f (h + 16) (by omega)])
  | 14 => (rw [if_neg (fun q => absurd q.1 (by decide))]; show (if 0 ≤ i ∧ i < ν (h + 12) 5 then ν (h + 17) i else 0) = (if 0 ≤ i ∧ i < μ (h + 12) 5 then μ (h + 17) i else 0); rw [f (h + 12) (by omega), f (h + 17) (by omega)])
  | 15 => (rw [if_neg (fun q => absurd q.1 (by decide))]; show (if 0 ≤ i ∧ i < ν (h + 18) 3 then ν (h + 19) i else 0) = (if 0 ≤ i ∧ i < μ (h + 18) 3 then μ (h + 19) i else 0); rw [f (h + 18) (by omega), f (h + 19) (by omega)])
  | 16 => (rw [if_neg (fun q => absurd q.1 (by decide))]; show (if 0 ≤ i ∧ i < ν (h + 18) 3 then ν (h + 20) i else 0) = (if 0 ≤ i ∧ i < μ (h + 18) 3 then μ (h + 20) i else 0); rw [f (h + 18) (by omega), f (h + 20) (by omega)])
  | 17 => (rw [if_neg (fun q => absurd q.1 (by decide))]; show (if 0 ≤ i ∧ i < ν (h + 18) 3 then ν (h + 21) i else 0) = (if 0 ≤ i ∧ i < μ (h + 18) 3 then μ (h + 21) i else 0); rw [f (h + 18) (by omega), f (h + 21) (by omega)])
  | n + 18 => exact (if_neg (fun q => absurd q.1 (by omega))).symm
theorem zVk_9ok {V : zM} {g : Int → Int} (ok : zOK V) (hg : ∀ i, 0 ≤ i → i < V 3 3 → -1 ≤ g i ∧ g i < V 3 0) : zOK (zVk 9 V g) := by
  refine ⟨ok.1, ⟨ok.2.1.1, fun i i0 i1 => ?_⟩, ok.2.2.1, ok.2.2.2⟩
  have p := ok.2.1.2 i i0 i1
  have e : zVk 9 V g 9 i = g i := zVk_in i0 i1
  exact ⟨p.1, p.2.1, p.2.2.1, p.2.2.2.1, by rw [e]; exact hg i i0 i1⟩
theorem zVk_6ok {V : zM} {g : Int → Int} (ok : zOK V) (hg : ∀ i, 0 ≤ i → i < V 3 3 → 0 ≤ g i ∧ g i < V 7 i) : zOK (zVk 6 V g) := by
  refine ⟨ok.1, ⟨ok.2.1.1, fun i i0 i1 => ?_⟩, ok.2.2.1, ok.2.2.2⟩
  have p := ok.2.1.2 i i0 i1
  have e : zVk 6 V g 6 i = g i := zVk_in i0 i1
  have q := hg i i0 i1
  exact ⟨p.1, p.2.1, by rw [e]; exact ⟨q.1, q.2, p.2.2.1.2.2⟩, p.2.2.2.1, p.2.2.2.2⟩
/-- powers; the k-th of n figures of a code -/
def zpo (b : Int) : Nat → Int
  | 0 => 1
  | n + 1 => zpo b n * b
theorem zpo_s {b : Int} {n : Nat} : zpo b (n + 1) = zpo b n * b := rfl
theorem zpo_n {b : Int} (h0 : 0 ≤ b) : ∀ {n : Nat}, 0 ≤ zpo b n
  | 0 => by show (0 : Int) ≤ 1; decide
  | n + 1 => by rw [zpo_s]; exact Int.mul_nonneg (zpo_n h0) h0
theorem zpo_b {b : Int} (h0 : 0 ≤ b) (h1 : b ≤ 6) {n : Nat} (hn : n ≤ 5) : 0 ≤ zpo b n ∧ zpo b n ≤ 7776 := by
  have s : ∀ m : Nat, zpo b (m + 1) ≤ zpo b m * 6 := fun m => by rw [zpo_s]; exact Int.mul_le_mul_of_nonneg_left h1 (zpo_n h0)
  have z0 : zpo b 0 = 1 := rfl
  have s1 : zpo b 1 ≤ zpo b 0 * 6 := s 0
  have s2 : zpo b 2 ≤ zpo b 1 * 6 := s 1
  have s3 : zpo b 3 ≤ zpo b 2 * 6 := s 2
  have s4 : zpo b 4 ≤ zpo b 3 * 6 := s 3
  have s5 : zpo b 5 ≤ zpo b 4 * 6 := s 4
  refine ⟨zpo_n h0, ?_⟩
  rcases (by omega : n = 0 ∨ n = 1 ∨ n = 2 ∨ n = 3 ∨ n = 4 ∨ n = 5) with rfl | rfl | rfl | rfl | rfl | rfl <;> omega
def zdv (c b : Int) : Nat → Int
  | 0 => c
  | j + 1 => zdv c b j / b
theorem zdv_s {c b : Int} {j : Nat} : zdv c b (j + 1) = zdv c b j / b := rfl
theorem zdv_b {c b : Int} (hc : 0 ≤ c) (hb : 0 < b) : ∀ {j : Nat}, 0 ≤ zdv c b j ∧ zdv c b j ≤ c
  | 0 => ⟨hc, Int.le_refl _⟩
  | j + 1 => by
    have := zdv_b hc hb (j := j)
    rw [zdv_s]
    exact ⟨Int.ediv_nonneg this.1 (by omega), Int.le_trans (Int.ediv_le_self _ this.1) this.2⟩
/-- the row of a code: its k-th of n, below base b -/
def zrw (c b n k : Int) : Int := zdv c b (n - 1 - k).toNat % b
theorem zrw_b {c b n k : Int} (hb : 0 < b) : 0 ≤ zrw c b n k ∧ zrw c b n k < b := ⟨Int.emod_nonneg _ (by omega), Int.emod_lt_of_pos _ hb⟩
/-- all of a row unlike -/
def zUn (f : Int → Int) (n : Int) : Prop := ∀ i j : Int, 0 ≤ j → j < i → i < n → f j ≠ f i
theorem zUn_c {f g : Int → Int} {n : Int} (h : ∀ i, 0 ≤ i → i < n → f i = g i) : zUn f n ↔ zUn g n :=
  ⟨fun q i j j0 ji i1 => by rw [← h i (by omega) i1, ← h j j0 (by omega)]; exact q i j j0 ji i1, fun q i j j0 ji i1 => by rw [h i (by omega) i1, h j j0 (by omega)]; exact q i j j0 ji i1⟩
theorem zRu_c {V : zM} {f g : Int → Int} (ok : zOK V) (h : ∀ i, 0 ≤ i → i < V 3 3 → f i = g i) : zAl V f ↔ zAl V g := by
  have e : ∀ i, 0 ≤ i → i < V 3 5 → f (V 15 i) = g (V 15 i) := fun i i0 i1 => h _ (ok.2.2.2.2 i i0 i1).1.1 (ok.2.2.2.2 i i0 i1).1.2
  exact ⟨fun q i i0 i1 => by rw [← e i i0 i1]; exact q i i0 i1, fun q i i0 i1 => by rw [e i i0 i1]; exact q i i0 i1⟩
/-- the first best of the codes: found, worst, good, which -/
noncomputable def zSe (T : Int → Prop) (W G : Int → Int) : Nat → Int × Int × Int × Int
  | 0 => (0, 0, 0, 0)
  | n + 1 => zif (T (n : Int) ∧ ((zSe T W G n).1 = 0 ∨ (zSe T W G n).2.1 < W n ∨ (W n = (zSe T W G n).2.1 ∧ (zSe T W G n).2.2.1 < G n))) (1, W n, G n, (n : Int)) (zSe T W G n)
theorem zSe_s {T : Int → Prop} {W G : Int → Int} {n : Nat} : zSe T W G (n + 1) = zif (T (n : Int) ∧ ((zSe T W G n).1 = 0 ∨ (zSe T W G n).2.1 < W n ∨ (W n = (zSe T W G n).2.1 ∧ (zSe T W G n).2.2.1 < G n))) (1, W n, G n, (n : Int)) (zSe T W G n) := rfl
theorem zSe_01 {T : Int → Prop} {W G : Int → Int} : ∀ {n : Nat}, ((zSe T W G n).1 = 0 ∨ (zSe T W G n).1 = 1) ∧ ((zSe T W G n).1 = 1 → 0 ≤ (zSe T W G n).2.2.2 ∧ (zSe T W G n).2.2.2 < n)
  | 0 => ⟨Or.inl rfl, fun q => absurd q (by show ¬ ((0 : Int) = 1); decide)⟩
  | n + 1 => by
    have ih := zSe_01 (T := T) (W := W) (G := G) (n := n)
    rw [zSe_s]
    refine zif_i (p := fun (z : Int × Int × Int × Int) => (z.1 = 0 ∨ z.1 = 1) ∧ (z.1 = 1 → 0 ≤ z.2.2.2 ∧ z.2.2.2 < ((n + 1 : Nat) : Int))) (fun _ => ⟨Or.inr rfl, fun _ => ⟨by show 0 ≤ (n : Int); omega, by show (n : Int) < ((n + 1 : Nat) : Int); omega⟩⟩) (fun _ => ⟨ih.1, fun q => ⟨(ih.2 q).1, by have := (ih.2 q).2; omega⟩⟩)
/-- bits of a row of numbers below 6 -/
theorem zbd_6 : ∀ v : Nat, v < 6 → ∀ i : Nat, i < 6 → ∀ x : Nat, x < 64 → (zor (x : Int) (zshl 1 (v : Int)) / (2 ^ i : Nat) % 2 = if i = v then 1 else (x : Int) / (2 ^ i : Nat) % 2) ∧ 0 ≤ zor (x : Int) (zshl 1 (v : Int)) ∧ zor (x : Int) (zshl 1 (v : Int)) < 64 := by decide +kernel
theorem zBt_or {x : Int} {P : Int → Prop} {v : Int} (h : zBt x 6 P) (v0 : 0 ≤ v) (v1 : v < 6) : zBt (zor x (zshl 1 v)) 6 (fun i => P i ∨ i = v) := by
  obtain ⟨⟨h0, h1⟩, h2⟩ := h
  obtain ⟨m, rfl⟩ : ∃ m : Nat, x = m := ⟨x.toNat, by omega⟩
  obtain ⟨w, rfl⟩ : ∃ w : Nat, v = w := ⟨v.toNat, by omega⟩
  have h1 : ((m : Nat) : Int) < 64 := h1
  refine ⟨(zbd_6 w (by omega) 0 (by decide) m (by omega)).2, fun i hi => ?_⟩
  rw [(zbd_6 w (by omega) i hi m (by omega)).1]
  by_cases q : i = w
  · rw [if_pos q, zb_t (Or.inr (by rw [q]))]
  · rw [if_neg q, h2 i hi]
    exact zb_c ⟨fun c => Or.inl c, fun c => c.elim id (fun e => absurd e (by omega))⟩
theorem zBt_6 : zBt 0 6 (fun _ => False) := ⟨by decide, fun i hi => by rw [zb_f (fun q => q)]; exact (by decide +kernel : ∀ i : Nat, i < 6 → (0 : Int) / (2 ^ i : Nat) % 2 = 0) i hi⟩
set_option maxRecDepth 100000 in
set_option maxHeartbeats 4000000 in
theorem k_X8_power {l : Launch} {E : zE} {μ : zM} {b n : Int} (b0 : 0 ≤ b) (b1 : b ≤ 6) (n0 : 0 ≤ n) (n1 : n ≤ 5) : Ct l E yX8_power cX8_power 4 (some .int) ({ frames := 0, cells := 0, slots := 0, locals := 0 }) [zI b, zI n] μ (fun r ν => r = some (zI (zpo b n.toNat)) ∧ ν = μ) := by
  refine Ct.of RX8 [zI b, zI n, zU, zU] (by decide +kernel) rfl ⟨rfl, rfl⟩ rfl (Nat.le_of_ble_eq_true rfl) (fun X hX hc0 ha0 => ?_)
  subst hX
  have L : ∀ (m : Nat) (k : Nat), (k : Int) ≤ n → n - k < m → MW X E cX8_power RX8 ({ frames := 0, cells := 0, slots := 0, locals := 0 }) (some .int) (fun r ν => r = some (zI (zpo b n.toNat)) ∧ ν = μ) 4 [zI b, zI n, zI (zpo b k), zI (k : Int)] [] μ := by
    intro m
    induction m with
    | zero => intro k hk h3; omega
    | succ m ih =>
      intro k hk h3
      refine z_iload_3 dX8_power_4 ?_
      refine z_iload_1 dX8_power_5 ?_
      refine z_icmpge (tgt := 19) dX8_power_6 (by decide) (fun h_6 => ?_) (fun h_6 => ?_)
      · refine z_iload_2 dX8_power_19 ?_
        exact z_iret dX8_power_20 (⟨congrArg (fun z => (some (zI z) : Option zAV)) (by rw [show n.toNat = k by omega]), rfl⟩)
      · have q1 := zpo_b b0 b1 (n := k) (by omega)
        have q2 := zpo_b b0 b1 (n := k + 1) (by omega)
        rw [zpo_s] at q2
        refine z_iload_2 dX8_power_9 ?_
        refine z_iload_0 dX8_power_10 ?_
        refine z_imul dX8_power_11 (by omega) ?_
        refine z_istore_2 rfl dX8_power_12 ?_
        refine z_iinc_3 rfl dX8_power_13 (by omega) ?_
        refine z_goto (tgt := 4) dX8_power_16 (by decide) ?_
        exact ih (k + 1) (by omega) (by omega)
  refine z_iconst dX8_power_0 (by decide) ?_
  refine z_istore_2 rfl dX8_power_1 ?_
  refine z_iconst dX8_power_2 (by decide) ?_
  refine z_istore_3 rfl dX8_power_3 ?_
  exact L 9 0 (by omega) (by omega)
set_option maxRecDepth 100000 in
set_option maxHeartbeats 4000000 in
theorem k_X8_fillRow {l : Launch} {E : zE} {μ : zM} {c b n : Int} (c0 : 0 ≤ c) (b1 : b ≤ 6) (n0 : 0 ≤ n) (n1 : n ≤ 5) : Ct l E yX8_fillRow cX8_fillRow 6 none ({ frames := 0, cells := 0, slots := 0, locals := 0 }) [zR 189, zI c, zI b, zI n] μ (fun r ν => r = none ∧ (0 < b → ∀ k, 0 ≤ k → k < n → ν 191 k = zrw c b n k) ∧ ∀ a, a ≠ 191 → ν a = μ a) := by
  refine Ct.of RX8 [zR 189, zI c, zI b, zI n, zU, zU] (by decide +kernel) rfl ⟨rfl, rfl⟩ rfl (Nat.le_of_ble_eq_true rfl) (fun X hX hc0 ha0 => ?_)
  subst hX
  have L : ∀ (m : Nat) (j : Nat) (ξ : zM), (j : Int) ≤ n → (0 < b → ∀ k, n - 1 - (j : Int) < k → k < n → ξ 191 k = zrw c b n k) → (∀ a, a ≠ 191 → ξ a = μ a) → n - j < m → MW X E cX8_fillRow RX8 ({ frames := 0, cells := 0, slots := 0, locals := 0 }) none (fun r ν => r = none ∧ (0 < b → ∀ k, 0 ≤ k → k < n → ν 191 k = zrw c b n k) ∧ ∀ a, a ≠ 191 → ν a = μ a) 8 [zR 189, zI c, zI b, zI n, zI (zdv c b j), zI (n - 1 - (j : Int))] [] ξ := by
    intro m
    induction m with
    | zero => intro j ξ hj hd hfr h3; omega
    | succ m ih =>
      intro j ξ hj hd hfr h3
      refine z_iload_5 dX8_fillRow_8 ?_
      refine z_iflt (tgt := 40) dX8_fillRow_10 (by decide) (fun h_10 => ?_) (fun h_10 => ?_)
      · exact z_vret dX8_fillRow_40 (⟨rfl, fun q k k0 k1 => hd q k (by omega) k1, hfr⟩)
      · refine z_iload_2 dX8_fillRow_13 ?_
        refine z_ifle (tgt := 40) dX8_fillRow_14 (by decide) (fun h_14 => ?_) (fun h_14 => ?_)
        · exact z_vret dX8_fillRow_40 (⟨rfl, fun q k k0 k1 => absurd q (by omega), hfr⟩)
        · have dv := zdv_b c0 (show 0 < b by omega) (j := j)
          refine z_aload_0 dX8_fillRow_17 ?_
          refine z_getF 191 2 rfl f_X8_15 zl_189 rfl rfl dX8_fillRow_18 ?_
          refine z_iload_5 dX8_fillRow_21 ?_
          refine z_iload_4 dX8_fillRow_23 ?_
          refine z_iload_2 dX8_fillRow_25 ?_
          refine z_irem dX8_fillRow_26 (by omega) (by omega) ?_
          refine z_iast zl_191 (by omega) (by omega) dX8_fillRow_27 ?_
          refine z_iload_4 dX8_fillRow_28 ?_
          refine z_iload_2 dX8_fillRow_30 ?_
          refine z_idiv dX8_fillRow_31 (by omega) (by omega) ?_
          refine z_istore_4 rfl dX8_fillRow_32 ?_
          refine z_iinc_5 rfl dX8_fillRow_34 (by omega) ?_
          refine z_goto (tgt := 8) dX8_fillRow_37 (by decide) ?_
          refine z_weak (ls' := [zR 189, zI c, zI b, zI n, zI (zdv c b (j + 1)), zI (n - 1 - ((j + 1 : Nat) : Int))]) ⟨Or.inl rfl, Or.inl rfl, Or.inl rfl, Or.inl rfl, Or.inl rfl, Or.inl (congrArg zI (by omega)), trivial⟩ (ih (j + 1) _ (by omega) (fun q k k0 k1 => ?_) (fun a ha => by rw [zup_row ha]; exact hfr a ha) (by omega))
          by_cases e : k = n - 1 - j
          · subst e
            rw [zup_eq]
            unfold zrw
            rw [show (n - 1 - (n - 1 - (j : Int))).toNat = j by omega]
          · rw [zup_ne (Or.inr e)]; exact hd q k (by omega) k1
  refine z_iload_1 dX8_fillRow_0 ?_
  refine z_istore_4 rfl dX8_fillRow_1 ?_
  refine z_iload_3 dX8_fillRow_3 ?_
  refine z_iconst dX8_fillRow_4 (by decide) ?_
  refine z_isub dX8_fillRow_5 (by omega) ?_
  refine z_istore_5 rfl dX8_fillRow_6 ?_
  refine z_weak (ls' := [zR 189, zI c, zI b, zI n, zI (zdv c b 0), zI (n - 1 - ((0 : Nat) : Int))]) ⟨Or.inl rfl, Or.inl rfl, Or.inl rfl, Or.inl rfl, Or.inl rfl, Or.inl (congrArg zI (by omega)), trivial⟩ (L 9 0 μ (by omega) (fun _ k k0 k1 => by omega) (fun _ _ => rfl) (by omega))
theorem zBt_cg {x : Int} {n : Nat} {P Q : Int → Prop} (h : zBt x n P) (e : ∀ i, P i ↔ Q i) : zBt x n Q := ⟨h.1, fun i hi => by rw [h.2 i hi]; exact zb_c (e _)⟩
set_option maxRecDepth 100000 in
set_option maxHeartbeats 4000000 in
theorem k_X8_isUnlike {l : Launch} {E : zE} {μ : zM} {n : Int} (n0 : 0 ≤ n) (n1 : n ≤ 5) (hr : ∀ k, 0 ≤ k → k < n → 0 ≤ μ 191 k ∧ μ 191 k < 6) : Ct l E yX8_isUnlike cX8_isUnlike 4 (some .boolean) ({ frames := 0, cells := 0, slots := 0, locals := 0 }) [zR 189, zI n] μ (fun r ν => r = some (zI (zb (zUn (μ 191) n))) ∧ ν = μ) := by
  refine Ct.of RX8 [zR 189, zI n, zU, zU] (by decide +kernel) rfl ⟨rfl, rfl⟩ rfl (Nat.le_of_ble_eq_true rfl) (fun X hX hc0 ha0 => ?_)
  subst hX
  have L : ∀ (m : Nat) (k : Nat) (x : Int), (k : Int) ≤ n → zBt x 6 (fun v => ∃ j, 0 ≤ j ∧ j < (k : Int) ∧ μ 191 j = v) → (∀ i j : Int, 0 ≤ j → j < i → i < k → μ 191 j ≠ μ 191 i) → n - k < m → MW X E cX8_isUnlike RX8 ({ frames := 0, cells := 0, slots := 0, locals := 0 }) (some .boolean) (fun r ν => r = some (zI (zb (zUn (μ 191) n))) ∧ ν = μ) 4 [zR 189, zI n, zI x, zI (k : Int)] [] μ := by
    intro m
    induction m with
    | zero => intro k x hk hx hun h3; omega
    | succ m ih =>
      intro k x hk hx hun h3
      refine z_iload_3 dX8_isUnlike_4 ?_
      refine z_iload_1 dX8_isUnlike_5 ?_
      refine z_icmpge (tgt := 41) dX8_isUnlike_6 (by decide) (fun h_6 => ?_) (fun h_6 => ?_)
      · refine z_iconst dX8_isUnlike_41 (by decide) ?_
        exact z_zret (Or.inr rfl) dX8_isUnlike_42 (zb_r (fun i j j0 ji i1 => hun i j j0 ji (by omega)) rfl)
      · have hv := hr k (by omega) (by omega)
        refine z_iload_2 dX8_isUnlike_9 ?_
        refine z_aload_0 dX8_isUnlike_10 ?_
        refine z_getF 191 2 rfl f_X8_15 zl_189 rfl rfl dX8_isUnlike_11 ?_
        refine z_iload_3 dX8_isUnlike_14 ?_
        refine z_iald zl_191 (by omega) (by omega) dX8_isUnlike_15 ?_
        refine z_ishr dX8_isUnlike_16 ?_
        refine z_iconst dX8_isUnlike_17 (by decide) ?_
        refine z_iand dX8_isUnlike_18 ?_
        rw [zBt_ti hx (by decide) hv.1 hv.2]
        refine z_ifeq (tgt := 24) dX8_isUnlike_19 (by decide) (fun h_19 => ?_) (fun h_19 => ?_)
        · replace h_19 := zb_0.mp h_19
          refine z_iload_2 dX8_isUnlike_24 ?_
          refine z_iconst dX8_isUnlike_25 (by decide) ?_
          refine z_aload_0 dX8_isUnlike_26 ?_
          refine z_getF 191 2 rfl f_X8_15 zl_189 rfl rfl dX8_isUnlike_27 ?_
          refine z_iload_3 dX8_isUnlike_30 ?_
          refine z_iald zl_191 (by omega) (by omega) dX8_isUnlike_31 ?_
          refine z_ishl dX8_isUnlike_32 ?_
          refine z_ior dX8_isUnlike_33 ?_
          refine z_istore_2 rfl dX8_isUnlike_34 ?_
          refine z_iinc_3 rfl dX8_isUnlike_35 (by omega) ?_
          refine z_goto (tgt := 4) dX8_isUnlike_38 (by decide) ?_
          refine ih (k + 1) _ (by omega) ?_ (fun i j j0 ji i1 => ?_) (by omega)
          · exact zBt_cg (zBt_or hx hv.1 hv.2) (fun v => ⟨fun q => q.elim (fun ⟨j, a, c, d⟩ => ⟨j, a, by omega, d⟩) (fun e => ⟨k, by omega, by omega, e.symm⟩), fun ⟨j, a, c, d⟩ => by by_cases e : j = k; exact Or.inr (by rw [← d, e]); exact Or.inl ⟨j, a, by omega, d⟩⟩)
          · by_cases e : i = k
            · rw [e]; exact fun q => h_19 ⟨j, j0, by omega, q⟩
            · exact hun i j j0 ji (by omega)
        · replace h_19 := zb_n.mp h_19
          refine z_iconst dX8_isUnlike_22 (by decide) ?_
          exact z_zret (Or.inl rfl) dX8_isUnlike_23 (by obtain ⟨j, j0, j1, e⟩ := h_19; exact zb_r0 (fun q => q k j j0 j1 (by omega) e) rfl)
  refine z_iconst dX8_isUnlike_0 (by decide) ?_
  refine z_istore_2 rfl dX8_isUnlike_1 ?_
  refine z_iconst dX8_isUnlike_2 (by decide) ?_
  refine z_istore_3 rfl dX8_isUnlike_3 ?_
  exact L 9 0 0 (by omega) (zBt_cg zBt_6 (fun v => ⟨fun q => q.elim, fun ⟨j, a, c, _⟩ => by omega⟩)) (fun i j j0 ji i1 => by omega) (by omega)
set_option maxRecDepth 100000 in
set_option maxHeartbeats 4000000 in
theorem k_X8_exchange {l : Launch} {E : zE} {μ : zM} (hc : 0 ≤ μ 6 6 ∧ μ 6 6 ≤ 5) (hr : ∀ k, 0 ≤ k → k < μ 6 6 → 0 ≤ μ 191 k ∧ μ 191 k < μ 6 6) : Ct l E yX8_exchange cX8_exchange 4 (some .boolean) ({ frames := 0, cells := 0, slots := 0, locals := 0 }) [zR 189, zR 6] μ (fun r ν => r = some (zI (zb (∀ k, 0 ≤ k → k < μ 6 6 → zHV μ 1 6 (μ 191 k) < zHV μ 1 7 k))) ∧ ((∀ k, 0 ≤ k → k < μ 6 6 → zHV μ 1 6 (μ 191 k) < zHV μ 1 7 k) → ∀ k, 0 ≤ k → k < μ 6 6 → ν 200 k = zHV μ 1 6 (μ 191 k)) ∧ ∀ a, a ≠ 200 → ν a = μ a) := by
  refine Ct.of RX8 [zR 189, zR 6, zU, zU] (by decide +kernel) rfl ⟨rfl, rfl⟩ rfl (Nat.le_of_ble_eq_true rfl) (fun X hX hc0 ha0 => ?_)
  subst hX
  have L : ∀ (m : Nat) (k : Nat) (ξ : zM), (k : Int) ≤ μ 6 6 → (∀ i, 0 ≤ i → i < (k : Int) → zHV μ 1 6 (μ 191 i) < zHV μ 1 7 i) → (∀ i, 0 ≤ i → i < (k : Int) → ξ 200 i = zHV μ 1 6 (μ 191 i)) → (∀ a, a ≠ 200 → ξ a = μ a) → μ 6 6 - k < m → MW X E cX8_exchange RX8 ({ frames := 0, cells := 0, slots := 0, locals := 0 }) (some .boolean) (fun r ν => r = some (zI (zb (∀ k, 0 ≤ k → k < μ 6 6 → zHV μ 1 6 (μ 191 k) < zHV μ 1 7 k))) ∧ ((∀ k, 0 ≤ k → k < μ 6 6 → zHV μ 1 6 (μ 191 k) < zHV μ 1 7 k) → ∀ k, 0 ≤ k → k < μ 6 6 → ν 200 k = zHV μ 1 6 (μ 191 k)) ∧ ∀ a, a ≠ 200 → ν a = μ a) 2 [zR 189, zR 6, zI (k : Int), zU] [] ξ := by
    intro m
    induction m with
    | zero => intro k ξ hk hq hd hfr h3; omega
    | succ m ih =>
      intro k ξ hk hq hd hfr h3
      have hc6 : ξ 6 6 = μ 6 6 := by rw [hfr 6 (by decide)]
      refine z_iload_2 dX8_exchange_2 ?_
      refine z_aload_1 dX8_exchange_3 ?_
      refine z_getI 6 rfl f_X8_40 zl_6 rfl dX8_exchange_4 ?_
      refine z_icmpge (tgt := 53) dX8_exchange_7 (by decide) (fun h_7 => ?_) (fun h_7 => ?_)
      · refine z_iconst dX8_exchange_53 (by decide) ?_
        exact z_zret (Or.inr rfl) dX8_exchange_54 (⟨by rw [zb_t (fun i i0 i1 => hq i i0 (by omega))], fun _ i i0 i1 => hd i i0 (by omega), hfr⟩)
      · have s1 : (k : Int) < μ 6 6 := by omega
        have rk := hr k (by omega) s1
        have e6 : ξ 9 (μ 191 (k : Int)) = zHV μ 1 6 (μ 191 (k : Int)) := by rw [hfr 9 (by decide)]; exact (zHV_6 (h := 1) rk.1 rk.2).symm
        have e7 : ξ 10 (k : Int) = zHV μ 1 7 k := by rw [hfr 10 (by decide)]; exact (zHV_7 (h := 1) (by omega) s1).symm
        refine z_aload_1 dX8_exchange_10 ?_
        refine z_getF 9 3 rfl f_X8_119 zl_6 rfl rfl dX8_exchange_11 ?_
        refine z_aload_0 dX8_exchange_14 ?_
        refine z_getF 191 2 rfl f_X8_15 zl_189 rfl rfl dX8_exchange_15 ?_
        refine z_iload_2 dX8_exchange_18 ?_
        refine z_iald zl_191 (by omega) (by omega) dX8_exchange_19 ?_
        rw [hfr 191 (by decide)]
        refine z_iald zl_9 (by omega) (by omega) dX8_exchange_20 ?_
        rw [e6]
        refine z_istore_3 rfl dX8_exchange_21 ?_
        refine z_iload_3 dX8_exchange_22 ?_
        refine z_aload_1 dX8_exchange_23 ?_
        refine z_getF 10 4 rfl f_X8_122 zl_6 rfl rfl dX8_exchange_24 ?_
        refine z_iload_2 dX8_exchange_27 ?_
        refine z_iald zl_10 (by omega) (by omega) dX8_exchange_28 ?_
        rw [e7]
        refine z_icmplt (tgt := 34) dX8_exchange_29 (by decide) (fun h_29 => ?_) (fun h_29 => ?_)
        · refine z_aload_0 dX8_exchange_34 ?_
          refine z_getF 192 3 rfl f_X8_21 zl_189 rfl rfl dX8_exchange_35 ?_
          refine z_getF 197 5 rfl f_X8_36 zl_192 rfl rfl dX8_exchange_38 ?_
          refine z_getF 200 3 rfl f_X8_119 zl_197 rfl rfl dX8_exchange_41 ?_
          refine z_iload_2 dX8_exchange_44 ?_
          refine z_iload_3 dX8_exchange_45 ?_
          refine z_iast zl_200 (by omega) (by omega) dX8_exchange_46 ?_
          refine z_iinc_2 rfl dX8_exchange_47 (by omega) ?_
          refine z_goto (tgt := 2) dX8_exchange_50 (by decide) ?_
          refine z_weak (ls' := [zR 189, zR 6, zI ((k + 1 : Nat) : Int), zU]) ⟨Or.inl rfl, Or.inl rfl, Or.inl rfl, Or.inr rfl, trivial⟩ (ih (k + 1) _ (by omega) (fun i i0 i1 => by by_cases q : i = k; rw [q]; exact h_29; exact hq i i0 (by omega)) (fun i i0 i1 => by by_cases q : i = k; rw [q, zup_eq]; rw [zup_ne (Or.inr q)]; exact hd i i0 (by omega)) (fun a ha => by rw [zup_row ha]; exact hfr a ha) (by omega))
        · refine z_iconst dX8_exchange_32 (by decide) ?_
          exact z_zret (Or.inl rfl) dX8_exchange_33 (⟨by rw [zb_f (fun q => by have := q k (by omega) s1; omega)], fun q => absurd (q k (by omega) s1) (by omega), hfr⟩)
  refine z_iconst dX8_exchange_0 (by decide) ?_
  refine z_istore_2 rfl dX8_exchange_1 ?_
  exact L 9 0 μ (by omega) (fun i i0 i1 => by omega) (fun i i0 i1 => by omega) (fun _ _ => rfl) (by omega)
set_option maxRecDepth 100000 in
set_option maxHeartbeats 4000000 in
theorem k_X8_keepIfBetter {l : Launch} {E : zE} {μ : zM} (h8 : μ 214 8 = ((192 + 5 : Nat) : Int)) (hc : 0 ≤ μ 197 6 ∧ μ 197 6 ≤ 5) (hs : ∀ s, 0 ≤ s → s < μ 197 6 → 0 ≤ μ 215 s ∧ μ 215 s ≤ 40) : Ct l E yX8_keepIfBetter cX8_keepIfBetter 1 none ({ frames := 3, cells := 0, slots := 0, locals := 66 }) [zR 189] μ (fun r ν => r = none ∧ (((μ 189 3 = 0 ∨ μ 189 1 < (zWo (μ 197 6) (μ 215)) ∨ ((zWo (μ 197 6) (μ 215)) = μ 189 1 ∧ μ 189 2 < (zGo (μ 197 6) (μ 215)))) ∧ ν 189 3 = 1 ∧ ν 189 1 = (zWo (μ 197 6) (μ 215)) ∧ ν 189 2 = (zGo (μ 197 6) (μ 215)) ∧ (∀ i, 0 ≤ i → i < 5 → ν 190 i = μ 191 i) ∧ ∀ a, a ≠ 189 → a ≠ 190 → ν a = μ a) ∨ (¬ (μ 189 3 = 0 ∨ μ 189 1 < (zWo (μ 197 6) (μ 215)) ∨ ((zWo (μ 197 6) (μ 215)) = μ 189 1 ∧ μ 189 2 < (zGo (μ 197 6) (μ 215)))) ∧ ν = μ))) := by
  refine Ct.of RX8 [zR 189] (by decide +kernel) rfl ⟨rfl, rfl⟩ rfl (Nat.le_of_ble_eq_true rfl) (fun X hX hc0 ha0 => ?_)
  subst hX
  have J25 : (μ 189 3 = 0 ∨ μ 189 1 < (zWo (μ 197 6) (μ 215)) ∨ ((zWo (μ 197 6) (μ 215)) = μ 189 1 ∧ μ 189 2 < (zGo (μ 197 6) (μ 215)))) → MW X E cX8_keepIfBetter RX8 ({ frames := 3, cells := 0, slots := 0, locals := 66 }) none (fun r ν => r = none ∧ (((μ 189 3 = 0 ∨ μ 189 1 < (zWo (μ 197 6) (μ 215)) ∨ ((zWo (μ 197 6) (μ 215)) = μ 189 1 ∧ μ 189 2 < (zGo (μ 197 6) (μ 215)))) ∧ ν 189 3 = 1 ∧ ν 189 1 = (zWo (μ 197 6) (μ 215)) ∧ ν 189 2 = (zGo (μ 197 6) (μ 215)) ∧ (∀ i, 0 ≤ i → i < 5 → ν 190 i = μ 191 i) ∧ ∀ a, a ≠ 189 → a ≠ 190 → ν a = μ a) ∨ (¬ (μ 189 3 = 0 ∨ μ 189 1 < (zWo (μ 197 6) (μ 215)) ∨ ((zWo (μ 197 6) (μ 215)) = μ 189 1 ∧ μ 189 2 < (zGo (μ 197 6) (μ 215)))) ∧ ν = μ))) 25 [zR 189] [] μ := by
    intro hco
    refine z_aload_0 dX8_keepIfBetter_25 ?_
    refine z_iconst dX8_keepIfBetter_26 (by decide) ?_
    refine z_putZ 3 rfl (by decide) f_X8_92 p_8_3 zl_189 rfl rfl dX8_keepIfBetter_27 ?_
    refine z_aload_0 dX8_keepIfBetter_30 ?_
    refine z_aload_0 dX8_keepIfBetter_31 ?_
    refine z_getF 214 25 rfl f_X8_28 zl_189 rfl rfl dX8_keepIfBetter_32 ?_
    refine z_callV0 (k_X4_worst (h := 192) zq4_214 zq2_192 (by (repeat (first | rw [zup_eq] | rw [zup_row (by omega)] | rw [zup_ne (Or.inr (by omega))])); exact h8) (by (repeat (first | rw [zup_eq] | rw [zup_row (by omega)] | rw [zup_ne (Or.inr (by omega))])); exact hc) (by (repeat (first | rw [zup_eq] | rw [zup_row (by omega)] | rw [zup_ne (Or.inr (by omega))])); exact hs)) m_X4_worst zl_214 l_X8_129 (Nat.le_of_ble_eq_true rfl) ⟨Nat.le_of_ble_eq_true rfl, Nat.le_of_ble_eq_true rfl⟩ ⟨rfl, rfl⟩ dX8_keepIfBetter_35 (fun r μ1 hp => ?_)
    obtain ⟨rfl, hv⟩ := hp
    replace hv := hv.symm
    subst hv
    rw [show zWo (zup μ 189 3 1 (192 + 5) 6) (zup μ 189 3 1 (214 + 1)) = zWo (μ 197 6) (μ 215) by rw [zup_row (by decide), zup_row (by decide)]]
    refine z_putI 1 rfl f_X8_100 p_8_1 zl_189 rfl rfl dX8_keepIfBetter_38 ?_
    refine z_aload_0 dX8_keepIfBetter_41 ?_
    refine z_aload_0 dX8_keepIfBetter_42 ?_
    refine z_getF 214 25 rfl f_X8_28 zl_189 rfl rfl dX8_keepIfBetter_43 ?_
    refine z_callV0 (k_X4_good (h := 192) zq4_214 zq2_192 (by (repeat (first | rw [zup_eq] | rw [zup_row (by omega)] | rw [zup_ne (Or.inr (by omega))])); exact h8) (by (repeat (first | rw [zup_eq] | rw [zup_row (by omega)] | rw [zup_ne (Or.inr (by omega))])); exact hc) (by (repeat (first | rw [zup_eq] | rw [zup_row (by omega)] | rw [zup_ne (Or.inr (by omega))])); exact hs)) m_X4_good zl_214 l_X8_132 (Nat.le_of_ble_eq_true rfl) ⟨Nat.le_of_ble_eq_true rfl, Nat.le_of_ble_eq_true rfl⟩ ⟨rfl, rfl⟩ dX8_keepIfBetter_46 (fun r μ1 hp => ?_)
    obtain ⟨rfl, hv⟩ := hp
    replace hv := hv.symm
    subst hv
    rw [show zGo (zup (zup μ 189 3 1) 189 1 (zWo (μ 197 6) (μ 215)) (192 + 5) 6) (zup (zup μ 189 3 1) 189 1 (zWo (μ 197 6) (μ 215)) (214 + 1)) = zGo (μ 197 6) (μ 215) by rw [zup_row (by decide), zup_row (by decide), zup_row (by decide), zup_row (by decide)]]
    refine z_putI 2 rfl f_X8_103 p_8_2 zl_189 rfl rfl dX8_keepIfBetter_49 ?_
    refine z_aload_0 dX8_keepIfBetter_52 ?_
    refine z_getF 191 2 rfl f_X8_15 zl_189 rfl rfl dX8_keepIfBetter_53 ?_
    refine z_iconst dX8_keepIfBetter_56 (by decide) ?_
    refine z_aload_0 dX8_keepIfBetter_57 ?_
    refine z_getF 190 1 rfl f_X8_9 zl_189 rfl rfl dX8_keepIfBetter_58 ?_
    refine z_iconst dX8_keepIfBetter_61 (by decide) ?_
    refine z_iconst dX8_keepIfBetter_62 (by decide) ?_
    refine z_copy (Or.inl ⟨zl_191, zl_190⟩) (by decide) (by decide) (by decide) l_X8_80 ⟨Nat.le_of_ble_eq_true rfl, Nat.le_of_ble_eq_true rfl⟩ dX8_keepIfBetter_63 ?_
    exact z_vret dX8_keepIfBetter_66 (⟨rfl, Or.inl ⟨hco, by rw [zcp_row (by decide)]; (repeat (first | rw [zup_eq] | rw [zup_row (by omega)] | rw [zup_ne (Or.inr (by omega))])), by rw [zcp_row (by decide)]; (repeat (first | rw [zup_eq] | rw [zup_row (by omega)] | rw [zup_ne (Or.inr (by omega))])), by rw [zcp_row (by decide)]; (repeat (first | rw [zup_eq] | rw [zup_row (by omega)] | rw [zup_ne (Or.inr (by omega))])), fun i i0 i1 => by rw [zcp_self]; show (if 0 ≤ i ∧ i < 5 then _ else _) = _; rw [if_pos ⟨i0, i1⟩]; (repeat (first | rw [zup_eq] | rw [zup_row (by omega)] | rw [zup_ne (Or.inr (by omega))])), fun a a1 a2 => by rw [zcp_row a2]; (repeat (first | rw [zup_eq] | rw [zup_row (by omega)] | rw [zup_ne (Or.inr (by omega))]))⟩⟩)
  refine z_aload_0 dX8_keepIfBetter_0 ?_
  refine z_getI 3 rfl f_X8_92 zl_189 rfl dX8_keepIfBetter_1 ?_
  refine z_ifeq (tgt := 25) dX8_keepIfBetter_4 (by decide) (fun h_4 => ?_) (fun h_4 => ?_)
  · exact J25 (by first | exact Or.inl h_4 | exact Or.inr h_22)
  · refine z_aload_0 dX8_keepIfBetter_7 ?_
    refine z_getF 214 25 rfl f_X8_28 zl_189 rfl rfl dX8_keepIfBetter_8 ?_
    refine z_aload_0 dX8_keepIfBetter_11 ?_
    refine z_getI 1 rfl f_X8_100 zl_189 rfl dX8_keepIfBetter_12 ?_
    refine z_aload_0 dX8_keepIfBetter_15 ?_
    refine z_getI 2 rfl f_X8_103 zl_189 rfl dX8_keepIfBetter_16 ?_
    refine z_callV2 (k_X4_isBetter (h := 192) zq4_214 zq2_192 h8 hc hs) m_X4_isBetter zl_214 l_X8_125 (Nat.le_of_ble_eq_true rfl) ⟨Nat.le_of_ble_eq_true rfl, Nat.le_of_ble_eq_true rfl⟩ ⟨rfl, rfl⟩ dX8_keepIfBetter_19 (fun r μ1 hp => ?_)
    obtain ⟨rfl, hv⟩ := hp
    replace hv := hv.symm
    subst hv
    refine z_ifeq (tgt := 66) dX8_keepIfBetter_22 (by decide) (fun h_22 => ?_) (fun h_22 => ?_)
    · replace h_22 := zb_0.mp h_22
      exact z_vret dX8_keepIfBetter_66 (⟨rfl, Or.inr ⟨fun q => q.elim (fun z => h_4 z) (fun z => h_22 z), rfl⟩⟩)
    · replace h_22 := zb_n.mp h_22
      exact J25 (by first | exact Or.inl h_4 | exact Or.inr h_22)
set_option maxRecDepth 100000 in
set_option maxHeartbeats 4000000 in
theorem k_X8_start {l : Launch} {E : zE} {μ : zM} (ok : zOK (zHV μ 1)) : Ct l E yX8_start cX8_start 2 none ({ frames := 5, cells := 0, slots := 0, locals := 115 }) [zR 189, zR 1] μ (fun r ν => r = none ∧ ν 189 3 = 0 ∧ ν 189 1 = 0 ∧ ν 189 2 = 0 ∧ zHV ν 192 = zHV μ 1 ∧ zEr (zHV μ 1) 0 ν 229 ∧ ∀ a : Nat, (a < 189 ∨ 292 ≤ a) → ν a = μ a) := by
  refine Ct.of RX8 [zR 189, zR 1] (by decide +kernel) rfl ⟨rfl, rfl⟩ rfl (Nat.le_of_ble_eq_true rfl) (fun X hX hc0 ha0 => ?_)
  subst hX
  refine z_aload_0 dX8_start_0 ?_
  refine z_iconst dX8_start_1 (by decide) ?_
  refine z_putZ 3 rfl (by decide) f_X8_92 p_8_3 zl_189 rfl rfl dX8_start_2 ?_
  refine z_aload_0 dX8_start_5 ?_
  refine z_iconst dX8_start_6 (by decide) ?_
  refine z_putI 1 rfl f_X8_100 p_8_1 zl_189 rfl rfl dX8_start_7 ?_
  refine z_aload_0 dX8_start_10 ?_
  refine z_iconst dX8_start_11 (by decide) ?_
  refine z_putI 2 rfl f_X8_103 p_8_2 zl_189 rfl rfl dX8_start_12 ?_
  refine z_aload_0 dX8_start_15 ?_
  refine z_getF 192 3 rfl f_X8_21 zl_189 rfl rfl dX8_start_16 ?_
  refine z_aload_1 dX8_start_19 ?_
  refine z_callV1 (k_X2_copy zq2_192 zq2_1 (by omega) (by rw [show zHV (zup (zup (zup μ 189 3 0) 189 1 0) 189 2 0) 1 = zHV μ 1 from zHV_fr (a := 189) (n := 1) (fun a ha => by (repeat (first | rw [zup_eq] | rw [zup_row (by omega)] | rw [zup_ne (Or.inr (by omega))]))) (by decide)]; exact ok)) m_X2_copy zl_192 l_X8_106 (Nat.le_of_ble_eq_true rfl) ⟨Nat.le_of_ble_eq_true rfl, Nat.le_of_ble_eq_true rfl⟩ ⟨rfl, rfl⟩ dX8_start_20 (fun r μ1 hp => ?_)
  obtain ⟨rfl, hV, hF⟩ := hp
  obtain ⟨ζ, hζ9⟩ : ∃ z, z = μ1 := ⟨_, rfl⟩
  subst hζ9
  rw [show zHV (zup (zup (zup μ 189 3 0) 189 1 0) 189 2 0) 1 = zHV μ 1 from zHV_fr (a := 189) (n := 1) (fun a ha => by (repeat (first | rw [zup_eq] | rw [zup_row (by omega)] | rw [zup_ne (Or.inr (by omega))]))) (by decide)] at hV
  have hok : zOK (zHV ζ 192) := by rw [hV]; exact ok
  refine z_aload_0 dX8_start_23 ?_
  refine z_getF 214 25 rfl f_X8_28 zl_189 rfl rfl dX8_start_24 ?_
  refine z_getF 229 15 rfl f_X8_109 zl_214 rfl rfl dX8_start_27 ?_
  refine z_aload_0 dX8_start_30 ?_
  refine z_getF 192 3 rfl f_X8_21 zl_189 rfl rfl dX8_start_31 ?_
  refine z_iconst dX8_start_34 (by decide) ?_
  refine z_callV2 (k_X0_listenIn zq0_229 zq2_192 (by omega) hok (by decide)) m_X0_listenIn zl_229 l_X8_113 (Nat.le_of_ble_eq_true rfl) ⟨Nat.le_of_ble_eq_true rfl, Nat.le_of_ble_eq_true rfl⟩ ⟨rfl, rfl⟩ dX8_start_35 (fun r μ1 hp => ?_)
  obtain ⟨rfl, hE, h9, hr⟩ := hp
  rw [hV] at hE
  exact z_vret dX8_start_38 (⟨rfl, by rw [hr 189 (by decide), hF 189 (by decide)]; (repeat (first | rw [zup_eq] | rw [zup_row (by omega)] | rw [zup_ne (Or.inr (by omega))])), by rw [hr 189 (by decide), hF 189 (by decide)]; (repeat (first | rw [zup_eq] | rw [zup_row (by omega)] | rw [zup_ne (Or.inr (by omega))])), by rw [hr 189 (by decide), hF 189 (by decide)]; (repeat (first | rw [zup_eq] | rw [zup_row (by omega)] | rw [zup_ne (Or.inr (by omega))])), (zHV_fr (a := 229) (n := 43) (fun a ha => hr a (by omega)) (by decide)).trans hV, hE, fun a ha => by rw [hr a (by omega), hF a (by omega)]; (repeat (first | rw [zup_eq] | rw [zup_row (by omega)] | rw [zup_ne (Or.inr (by omega))]))⟩)
