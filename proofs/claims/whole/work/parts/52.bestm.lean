/-! THE REFERENCE'S SEARCH -/
theorem zBV_k9 {b b2 g : Int → Int} (hb : (0 ≤ b 1 ∧ b 1 ≤ 6) ∧ (0 ≤ b 5 ∧ b 5 ≤ 9) ∧ (0 ≤ b 6 ∧ b 6 < 36) ∧ (0 ≤ b 2 ∧ b 2 ≤ 5) ∧ (0 ≤ b 3 ∧ b 3 ≤ 8) ∧ (0 ≤ b 4 ∧ b 4 ≤ 4)) (hf : ∀ y, (∀ j, 0 ≤ j → j < b 2 → y ≠ 90 + 6 * j + 5) → b2 y = b y) (hg : ∀ i, 0 ≤ i → i < b 2 → b2 (90 + 6 * i + 5) = g i) : zBV b2 = zVk 9 (zBV b) g := by
  have q1 : b2 1 = b 1 := hf _ (fun j j0 j1 => by omega)
  have q2 : b2 2 = b 2 := hf _ (fun j j0 j1 => by omega)
  have q3 : b2 3 = b 3 := hf _ (fun j j0 j1 => by omega)
  have q4 : b2 4 = b 4 := hf _ (fun j j0 j1 => by omega)
  have q5 : b2 5 = b 5 := hf _ (fun j j0 j1 => by omega)
  have q6 : b2 6 = b 6 := hf _ (fun j j0 j1 => by omega)
  funext k i
  unfold zVk
  match k with
  | 0 => rw [if_neg (fun q => absurd q.1 (by decide))]; show (if 0 ≤ i ∧ i < 36 then b2 (10 + i) else 0) = (if 0 ≤ i ∧ i < 36 then b (10 + i) else 0); by_cases q : 0 ≤ i ∧ i < 36; rw [if_pos q, if_pos q]; exact hf _ (fun j j0 j1 => by omega); rw [if_neg q, if_neg q]
  | 1 => rw [if_neg (fun q => absurd q.1 (by decide))]; show (if 0 ≤ i ∧ i < 36 then b2 (46 + i) else 0) = (if 0 ≤ i ∧ i < 36 then b (46 + i) else 0); by_cases q : 0 ≤ i ∧ i < 36; rw [if_pos q, if_pos q]; exact hf _ (fun j j0 j1 => by omega); rw [if_neg q, if_neg q]
  | 2 => rw [if_neg (fun q => absurd q.1 (by decide))]; show (if 0 ≤ i ∧ i < b2 1 then b2 (82 + i) else 0) = (if 0 ≤ i ∧ i < b 1 then b (82 + i) else 0); rw [q1]; by_cases q : 0 ≤ i ∧ i < b 1; rw [if_pos q, if_pos q]; exact hf _ (fun j j0 j1 => by omega); rw [if_neg q, if_neg q]
  | 3 => rw [if_neg (fun q => absurd q.1 (by decide))]; show (if i = 0 then b2 1 else if i = 1 then b2 5 else if i = 2 then b2 6 else if i = 3 then b2 2 else if i = 4 then b2 3 else if i = 5 then b2 4 else 0) = (if i = 0 then b 1 else if i = 1 then b 5 else if i = 2 then b 6 else if i = 3 then b 2 else if i = 4 then b 3 else if i = 5 then b 4 else 0); rw [q1, q2, q3, q4, q5, q6]
  | 4 => rw [if_neg (fun q => absurd q.1 (by decide))]; show (if 0 ≤ i ∧ i < b2 2 then b2 (90 + 6 * i) else 0) = (if 0 ≤ i ∧ i < b 2 then b (90 + 6 * i) else 0); rw [q2]; by_cases q : 0 ≤ i ∧ i < b 2; rw [if_pos q, if_pos q]; exact hf _ (fun j j0 j1 => by omega); rw [if_neg q, if_neg q]
  | 5 => rw [if_neg (fun q => absurd q.1 (by decide))]; show (if 0 ≤ i ∧ i < b2 2 then b2 (90 + 6 * i + 1) else 0) = (if 0 ≤ i ∧ i < b 2 then b (90 + 6 * i + 1) else 0); rw [q2]; by_cases q : 0 ≤ i ∧ i < b 2; rw [if_pos q, if_pos q]; exact hf _ (fun j j0 j1 => by omega); rw [if_neg q, if_neg q]
  | 6 => rw [if_neg (fun q => absurd q.1 (by decide))]; show (if 0 ≤ i ∧ i < b2 2 then b2 (90 + 6 * i + 2) else 0) = (if 0 ≤ i ∧ i < b 2 then b (90 + 6 * i + 2) else 0); rw [q2]; by_cases q : 0 ≤ i ∧ i < b 2; rw [if_pos q, if_pos q]; exact hf _ (fun j j0 j1 => by omega); rw [if_neg q, if_neg q]
  | 7 => rw [if_neg (fun q => absurd q.1 (by decide))]; show (if 0 ≤ i ∧ i < b2 2 then b2 (90 + 6 * i + 3) else 0) = (if 0 ≤ i ∧ i < b 2 then b (90 + 6 * i + 3) else 0); rw [q2]; by_cases q : 0 ≤ i ∧ i < b 2; rw [if_pos q, if_pos q]; exact hf _ (fun j j0 j1 => by omega); rw [if_neg q, if_neg q]
  | 8 => rw [if_neg (fun q => absurd q.1 (by decide))]; show (if 0 ≤ i ∧ i < b2 2 then b2 (90 + 6 * i + 4) else 0) = (if 0 ≤ i ∧ i < b 2 then b (90 + 6 * i + 4) else 0); rw [q2]; by_cases q : 0 ≤ i ∧ i < b 2; rw [if_pos q, if_pos q]; exact hf _ (fun j j0 j1 => by omega); rw [if_neg q, if_neg q]
  | 9 => exact (Classical.em (0 ≤ i ∧ i < b 2)).elim (fun q => by (rw [if_pos (show 9 = 9 ∧ 0 ≤ i ∧ i < zBV b 3 3 from ⟨rfl, q⟩)]; show (if 0 ≤ i ∧ i < b2 2 then b2 (90 + 6 * i + 5) else 0) = g i; rw [q2, if_pos q]; exact hg i q.1 q.2)) (fun q => by (rw [if_neg (show ¬ (9 = 9 ∧ 0 ≤ i ∧ i < zBV b 3 3) from fun c => q c.2)]; show (if 0 ≤ i ∧ i < b2 2 then b2 (90 + 6 * i + 5) else 0) = (if 0 ≤ i ∧ i < b 2 then b (90 + 6 * i + 5) else 0); rw [q2, if_neg q, if_neg q]))
  | 10 => rw [if_neg (fun q => absurd q.1 (by decide))]; show (if 0 ≤ i ∧ i < b2 3 then b2 (120 + 5 * i) else 0) = (if 0 ≤ i ∧ i < b 3 then b (120 + 5 * i) else 0); rw [q3]; by_cases q : 0 ≤ i ∧ i < b 3; rw [if_pos q, if_pos q]; exact hf _ (fun j j0 j1 => by omega); rw [if_neg q, if_neg q]
  | 11 => rw [if_neg (fun q => absurd q.1 (by decide))]; show (if 0 ≤ i ∧ i < b2 3 then b2 (120 + 5 * i + 1) else 0) = (if 0 ≤ i ∧ i < b 3 then b (120 + 5 * i + 1) else 0); rw [q3]; by_cases q : 0 ≤ i ∧ i < b 3; rw [if_pos q, if_pos q]; exact hf _ (fun j j0 j1 => by omega); rw [if_neg q, if_neg q]
  | 12 => rw [if_neg (fun q => absurd q.1 (by decide))]; show (if 0 ≤ i ∧ i < b2 3 then b2 (120 + 5 * i + 2) else 0) = (if 0 ≤ i ∧ i < b 3 then b (120 + 5 * i + 2) else 0); rw [q3]; by_cases q : 0 ≤ i ∧ i < b 3; rw [if_pos q, if_pos q]; exact hf _ (fun j j0 j1 => by omega); rw [if_neg q, if_neg q]
  | 13 => rw [if_neg (fun q => absurd q.1 (by decide))]; show (if 0 ≤ i ∧ i < b2 3 then b2 (120 + 5 * i + 3) else 0) = (if 0 ≤ i ∧ i < b 3 then b (120 + 5 * i + 3) else 0); rw [q3]; by_cases q : 0 ≤ i ∧ i < b 3; rw [if_pos q, if_pos q]; exact hf _ (fun j j0 j1 => by omega); rw [if_neg q, if_neg q]
  | 14 => rw [if_neg (fun q => absurd q.1 (by decide))]; show (if 0 ≤ i ∧ i < b2 3 then b2 (120 + 5 * i + 4) else 0) = (if 0 ≤ i ∧ i < b 3 then b (120 + 5 * i + 4) else 0); rw [q3]; by_cases q : 0 ≤ i ∧ i < b 3; rw [if_pos q, if_pos q]; exact hf _ (fun j j0 j1 => by omega); rw [if_neg q, if_neg q]
  | 15 => rw [if_neg (fun q => absurd q.1 (by decide))]; show (if 0 ≤ i ∧ i < b2 4 then b2 (160 + 3 * i) else 0) = (if 0 ≤ i ∧ i < b 4 then b (160 + 3 * i) else 0); rw [q4]; by_cases q : 0 ≤ i ∧ i < b 4; rw [if_pos q, if_pos q]; exact hf _ (fun j j0 j1 => by omega); rw [if_neg q, if_neg q]
  | 16 => rw [if_neg (fun q => absurd q.1 (by decide))]; show (if 0 ≤ i ∧ i < b2 4 then b2 (160 + 3 * i + 1) else 0) = (if 0 ≤ i ∧ i < b 4 then b (160 + 3 * i + 1) else 0); rw [q4]; by_cases q : 0 ≤ i ∧ i < b 4; rw [if_pos q, if_pos q]; exact hf _ (fun j j0 j1 => by omega); rw [if_neg q, if_neg q]
  | 17 => rw [if_neg (fun q => absurd q.1 (by decide))]; show (if 0 ≤ i ∧ i < b2 4 then b2 (160 + 3 * i + 2) else 0) = (if 0 ≤ i ∧ i < b 4 then b (160 + 3 * i + 2) else 0); rw [q4]; by_cases q : 0 ≤ i ∧ i < b 4; rw [if_pos q, if_pos q]; exact hf _ (fun j j0 j1 => by omega); rw [if_neg q, if_neg q]
  | n + 18 => exact (if_neg (fun q => absurd q.1 (by omega))).symm
theorem zBV_k6 {b b2 g : Int → Int} (hb : (0 ≤ b 1 ∧ b 1 ≤ 6) ∧ (0 ≤ b 5 ∧ b 5 ≤ 9) ∧ (0 ≤ b 6 ∧ b 6 < 36) ∧ (0 ≤ b 2 ∧ b 2 ≤ 5) ∧ (0 ≤ b 3 ∧ b 3 ≤ 8) ∧ (0 ≤ b 4 ∧ b 4 ≤ 4)) (hf : ∀ y, (∀ j, 0 ≤ j → j < b 2 → y ≠ 90 + 6 * j + 2) → b2 y = b y) (hg : ∀ i, 0 ≤ i → i < b 2 → b2 (90 + 6 * i + 2) = g i) : zBV b2 = zVk 6 (zBV b) g := by
  have q1 : b2 1 = b 1 := hf _ (fun j j0 j1 => by omega)
  have q2 : b2 2 = b 2 := hf _ (fun j j0 j1 => by omega)
  have q3 : b2 3 = b 3 := hf _ (fun j j0 j1 => by omega)
  have q4 : b2 4 = b 4 := hf _ (fun j j0 j1 => by omega)
  have q5 : b2 5 = b 5 := hf _ (fun j j0 j1 => by omega)
  have q6 : b2 6 = b 6 := hf _ (fun j j0 j1 => by omega)
  funext k i
  unfold zVk
  match k with
  | 0 => rw [if_neg (fun q => absurd q.1 (by decide))]; show (if 0 ≤ i ∧ i < 36 then b2 (10 + i) else 0) = (if 0 ≤ i ∧ i < 36 then b (10 + i) else 0); by_cases q : 0 ≤ i ∧ i < 36; rw [if_pos q, if_pos q]; exact hf _ (fun j j0 j1 => by omega); rw [if_neg q, if_neg q]
  | 1 => rw [if_neg (fun q => absurd q.1 (by decide))]; show (if 0 ≤ i ∧ i < 36 then b2 (46 + i) else 0) = (if 0 ≤ i ∧ i < 36 then b (46 + i) else 0); by_cases q : 0 ≤ i ∧ i < 36; rw [if_pos q, if_pos q]; exact hf _ (fun j j0 j1 => by omega); rw [if_neg q, if_neg q]
  | 2 => rw [if_neg (fun q => absurd q.1 (by decide))]; show (if 0 ≤ i ∧ i < b2 1 then b2 (82 + i) else 0) = (if 0 ≤ i ∧ i < b 1 then b (82 + i) else 0); rw [q1]; by_cases q : 0 ≤ i ∧ i < b 1; rw [if_pos q, if_pos q]; exact hf _ (fun j j0 j1 => by omega); rw [if_neg q, if_neg q]
  | 3 => rw [if_neg (fun q => absurd q.1 (by decide))]; show (if i = 0 then b2 1 else if i = 1 then b2 5 else if i = 2 then b2 6 else if i = 3 then b2 2 else if i = 4 then b2 3 else if i = 5 then b2 4 else 0) = (if i = 0 then b 1 else if i = 1 then b 5 else if i = 2 then b 6 else if i = 3 then b 2 else if i = 4 then b 3 else if i = 5 then b 4 else 0); rw [q1, q2, q3, q4, q5, q6]
  | 4 => rw [if_neg (fun q => absurd q.1 (by decide))]; show (if 0 ≤ i ∧ i < b2 2 then b2 (90 + 6 * i) else 0) = (if 0 ≤ i ∧ i < b 2 then b (90 + 6 * i) else 0); rw [q2]; by_cases q : 0 ≤ i ∧ i < b 2; rw [if_pos q, if_pos q]; exact hf _ (fun j j0 j1 => by omega); rw [if_neg q, if_neg q]
  | 5 => rw [if_neg (fun q => absurd q.1 (by decide))]; show (if 0 ≤ i ∧ i < b2 2 then b2 (90 + 6 * i + 1) else 0) = (if 0 ≤ i ∧ i < b 2 then b (90 + 6 * i + 1) else 0); rw [q2]; by_cases q : 0 ≤ i ∧ i < b 2; rw [if_pos q, if_pos q]; exact hf _ (fun j j0 j1 => by omega); rw [if_neg q, if_neg q]
  | 6 => exact (Classical.em (0 ≤ i ∧ i < b 2)).elim (fun q => by (rw [if_pos (show 6 = 6 ∧ 0 ≤ i ∧ i < zBV b 3 3 from ⟨rfl, q⟩)]; show (if 0 ≤ i ∧ i < b2 2 then b2 (90 + 6 * i + 2) else 0) = g i; rw [q2, if_pos q]; exact hg i q.1 q.2)) (fun q => by (rw [if_neg (show ¬ (6 = 6 ∧ 0 ≤ i ∧ i < zBV b 3 3) from fun c => q c.2)]; show (if 0 ≤ i ∧ i < b2 2 then b2 (90 + 6 * i + 2) else 0) = (if 0 ≤ i ∧ i < b 2 then b (90 + 6 * i + 2) else 0); rw [q2, if_neg q, if_neg q]))
  | 7 => rw [if_neg (fun q => absurd q.1 (by decide))]; show (if 0 ≤ i ∧ i < b2 2 then b2 (90 + 6 * i + 3) else 0) = (if 0 ≤ i ∧ i < b 2 then b (90 + 6 * i + 3) else 0); rw [q2]; by_cases q : 0 ≤ i ∧ i < b 2; rw [if_pos q, if_pos q]; exact hf _ (fun j j0 j1 => by omega); rw [if_neg q, if_neg q]
  | 8 => rw [if_neg (fun q => absurd q.1 (by decide))]; show (if 0 ≤ i ∧ i < b2 2 then b2 (90 + 6 * i + 4) else 0) = (if 0 ≤ i ∧ i < b 2 then b (90 + 6 * i + 4) else 0); rw [q2]; by_cases q : 0 ≤ i ∧ i < b 2; rw [if_pos q, if_pos q]; exact hf _ (fun j j0 j1 => by omega); rw [if_neg q, if_neg q]
  | 9 => rw [if_neg (fun q => absurd q.1 (by decide))]; show (if 0 ≤ i ∧ i < b2 2 then b2 (90 + 6 * i + 5) else 0) = (if 0 ≤ i ∧ i < b 2 then b (90 + 6 * i + 5) else 0); rw [q2]; by_cases q : 0 ≤ i ∧ i < b 2; rw [if_pos q, if_pos q]; exact hf _ (fun j j0 j1 => by omega); rw [if_neg q, if_neg q]
  | 10 => rw [if_neg (fun q => absurd q.1 (by decide))]; show (if 0 ≤ i ∧ i < b2 3 then b2 (120 + 5 * i) else 0) = (if 0 ≤ i ∧ i < b 3 then b (120 + 5 * i) else 0); rw [q3]; by_cases q : 0 ≤ i ∧ i < b 3; rw [if_pos q, if_pos q]; exact hf _ (fun j j0 j1 => by omega); rw [if_neg q, if_neg q]
  | 11 => rw [if_neg (fun q => absurd q.1 (by decide))]; show (if 0 ≤ i ∧ i < b2 3 then b2 (120 + 5 * i + 1) else 0) = (if 0 ≤ i ∧ i < b 3 then b (120 + 5 * i + 1) else 0); rw [q3]; by_cases q : 0 ≤ i ∧ i < b 3; rw [if_pos q, if_pos q]; exact hf _ (fun j j0 j1 => by omega); rw [if_neg q, if_neg q]
  | 12 => rw [if_neg (fun q => absurd q.1 (by decide))]; show (if 0 ≤ i ∧ i < b2 3 then b2 (120 + 5 * i + 2) else 0) = (if 0 ≤ i ∧ i < b 3 then b (120 + 5 * i + 2) else 0); rw [q3]; by_cases q : 0 ≤ i ∧ i < b 3; rw [if_pos q, if_pos q]; exact hf _ (fun j j0 j1 => by omega); rw [if_neg q, if_neg q]
  | 13 => rw [if_neg (fun q => absurd q.1 (by decide))]; show (if 0 ≤ i ∧ i < b2 3 then b2 (120 + 5 * i + 3) else 0) = (if 0 ≤ i ∧ i < b 3 then b (120 + 5 * i + 3) else 0); rw [q3]; by_cases q : 0 ≤ i ∧ i < b 3; rw [if_pos q, if_pos q]; exact hf _ (fun j j0 j1 => by omega); rw [if_neg q, if_neg q]
  | 14 => rw [if_neg (fun q => absurd q.1 (by decide))]; show (if 0 ≤ i ∧ i < b2 3 then b2 (120 + 5 * i + 4) else 0) = (if 0 ≤ i ∧ i < b 3 then b (120 + 5 * i + 4) else 0); rw [q3]; by_cases q : 0 ≤ i ∧ i < b 3; rw [if_pos q, if_pos q]; exact hf _ (fun j j0 j1 => by omega); rw [if_neg q, if_neg q]
  | 15 => rw [if_neg (fun q => absurd q.1 (by decide))]; show (if 0 ≤ i ∧ i < b2 4 then b2 (160 + 3 * i) else 0) = (if 0 ≤ i ∧ i < b 4 then b (160 + 3 * i) else 0); rw [q4]; by_cases q : 0 ≤ i ∧ i < b 4; rw [if_pos q, if_pos q]; exact hf _ (fun j j0 j1 => by omega); rw [if_neg q, if_neg q]
  | 16 => rw [if_neg (fun q => absurd q.1 (by decide))]; show (if 0 ≤ i ∧ i < b2 4 then b2 (160 + 3 * i + 1) else 0) = (if 0 ≤ i ∧ i < b 4 then b (160 + 3 * i + 1) else 0); rw [q4]; by_cases q : 0 ≤ i ∧ i < b 4; rw [if_pos q, if_pos q]; exact hf _ (fun j j0 j1 => by omega); rw [if_neg q, if_neg q]
  | 17 => rw [if_neg (fun q => absurd q.1 (by decide))]; show (if 0 ≤ i ∧ i < b2 4 then b2 (160 + 3 * i + 2) else 0) = (if 0 ≤ i ∧ i < b 4 then b (160 + 3 * i + 2) else 0); rw [q4]; by_cases q : 0 ≤ i ∧ i < b 4; rw [if_pos q, if_pos q]; exact hf _ (fun j j0 j1 => by omega); rw [if_neg q, if_neg q]
  | n + 18 => exact (if_neg (fun q => absurd q.1 (by omega))).symm
theorem zTl_a {V X : zM} {k0 : Nat} {f : Int → Int} (h : zTl k0 V X) (hk : k0 < 10) (h3 : k0 ≠ 3) : zAl X f ↔ zAl V f := by
  unfold zAl
  rw [h.1 3 (fun q => h3 q.symm), h.1 15 (by omega), h.1 16 (by omega), h.1 17 (by omega)]
theorem zVk_op {k0 : Nat} {V : zM} {g : Int → Int} (h : k0 ≠ 0) : zOp (zVk k0 V g) = zOp V := by unfold zOp; rw [zVk_ne (fun q => h q.symm)]
set_option maxRecDepth 100000 in
set_option maxHeartbeats 4000000 in
theorem k_X12_digit {l : Launch} {E : zE} {μ : zM} {c b n : Int} (c0 : 0 ≤ c) (b0 : 0 < b) (n0 : 0 ≤ n) (n1 : n ≤ 5) : Ct l E yX12_digit cX12_digit 5 (some .int) ({ frames := 0, cells := 0, slots := 0, locals := 0 }) [zI c, zI b, zI n] μ (fun r ν => r = some (zI (zdv c b n.toNat % b)) ∧ ν = μ) := by
  refine Ct.of RX12 [zI c, zI b, zI n, zU, zU] (by decide +kernel) rfl ⟨rfl, rfl⟩ rfl (Nat.le_of_ble_eq_true rfl) (fun X hX hc0 ha0 => ?_)
  subst hX
  have L : ∀ (m : Nat) (k : Nat), (k : Int) ≤ n → n - k < m → MW X E cX12_digit RX12 ({ frames := 0, cells := 0, slots := 0, locals := 0 }) (some .int) (fun r ν => r = some (zI (zdv c b n.toNat % b)) ∧ ν = μ) 5 [zI c, zI b, zI n, zI (zdv c b k), zI (k : Int)] [] μ := by
    intro m
    induction m with
    | zero => intro k hk h3; omega
    | succ m ih =>
      intro k hk h3
      refine z_iload_4 dX12_digit_5 ?_
      refine z_iload_2 dX12_digit_7 ?_
      refine z_icmpge (tgt := 21) dX12_digit_8 (by decide) (fun h_8 => ?_) (fun h_8 => ?_)
      · have dv := zdv_b c0 b0 (j := k)
        refine z_iload_3 dX12_digit_21 ?_
        refine z_iload_1 dX12_digit_22 ?_
        refine z_irem dX12_digit_23 (by omega) (by omega) ?_
        exact z_iret dX12_digit_24 (⟨congrArg (fun z => (some (zI z) : Option zAV)) (by rw [show n.toNat = k by omega]), rfl⟩)
      · have dv := zdv_b c0 b0 (j := k)
        refine z_iload_3 dX12_digit_11 ?_
        refine z_iload_1 dX12_digit_12 ?_
        refine z_idiv dX12_digit_13 (by omega) (by omega) ?_
        refine z_istore_3 rfl dX12_digit_14 ?_
        refine z_iinc_4 rfl dX12_digit_15 (by omega) ?_
        refine z_goto (tgt := 5) dX12_digit_18 (by decide) ?_
        exact ih (k + 1) (by omega) (by omega)
  refine z_iload_0 dX12_digit_0 ?_
  refine z_istore_3 rfl dX12_digit_1 ?_
  refine z_iconst dX12_digit_2 (by decide) ?_
  refine z_istore_4 rfl dX12_digit_3 ?_
  exact L 9 0 (by omega) (by omega)
set_option maxRecDepth 100000 in
set_option maxHeartbeats 4000000 in
theorem k_X12_opens {l : Launch} {E : zE} {μ : zM} {c b n : Int} (c0 : 0 ≤ c) (n0 : 0 ≤ n) (n1 : n ≤ 5) (hb : 0 < n → 0 < b) : Ct l E yX12_opens cX12_opens 7 (some .boolean) ({ frames := 1, cells := 0, slots := 0, locals := 24 }) [zR 393, zI c, zI b, zI n] μ (fun r ν => r = some (zI (zb (zUn (zrw c b n) n))) ∧ (∀ k, 0 ≤ k → k < n → ν 417 k = (zrw c b n) k) ∧ ∀ x, x ≠ 417 → ν x = μ x) := by
  refine Ct.of RX12 [zR 393, zI c, zI b, zI n, zU, zU, zU] (by decide +kernel) rfl ⟨rfl, rfl⟩ rfl (Nat.le_of_ble_eq_true rfl) (fun X hX hc0 ha0 => ?_)
  subst hX
  have LI : ∀ (k : Nat) (i : Nat) (x : Int) (ξ : zM), (i : Int) ≤ n → x = zb (zUn (zrw c b n) i) → (∀ y, 0 ≤ y → y < (i : Int) → ξ 417 y = (zrw c b n) y) → (∀ a, a ≠ 417 → ξ a = μ a) → n - (i : Int) < k → MW X E cX12_opens RX12 ({ frames := 1, cells := 0, slots := 0, locals := 24 }) (some .boolean) (fun r ν => r = some (zI (zb (zUn (zrw c b n) n))) ∧ (∀ k, 0 ≤ k → k < n → ν 417 k = (zrw c b n) k) ∧ ∀ x, x ≠ 417 → ν x = μ x) 6 [zR 393, zI c, zI b, zI n, zI x, zI (i : Int), zU] [] ξ := by
    intro k
    induction k with
    | zero => intro i x ξ hi hx hro hfr h3; omega
    | succ k ih =>
      intro i x ξ hi hx hro hfr h3
      refine z_iload_5 dX12_opens_6 ?_
      refine z_iload_3 dX12_opens_8 ?_
      refine z_icmpge (tgt := 81) dX12_opens_9 (by decide) (fun h_9 => ?_) (fun h_9 => ?_)
      · refine z_iload_4 dX12_opens_81 ?_
        exact z_zret (by rw [hx]; exact zb_01) dX12_opens_83 (⟨by rw [hx, show n = (i : Int) by omega], fun k k0 k1 => hro k k0 (by omega), hfr⟩)
      · refine z_aload_0 dX12_opens_12 ?_
        refine z_getF 417 24 rfl f_X12_80 zl_393 rfl rfl dX12_opens_13 ?_
        refine z_iload_5 dX12_opens_16 ?_
        refine z_iload_1 dX12_opens_18 ?_
        refine z_iload_2 dX12_opens_19 ?_
        refine z_iload_3 dX12_opens_20 ?_
        refine z_iconst dX12_opens_21 (by decide) ?_
        refine z_isub dX12_opens_22 (by omega) ?_
        refine z_iload_5 dX12_opens_23 ?_
        refine z_isub dX12_opens_25 (by omega) ?_
        refine z_callS3 (k_X12_digit c0 (hb (by omega)) (by omega) (by omega)) m_X12_digit l_X12_313 (Nat.le_of_ble_eq_true rfl) ⟨Nat.le_of_ble_eq_true rfl, Nat.le_of_ble_eq_true rfl⟩ ⟨rfl, rfl⟩ dX12_opens_26 (fun r μ1 hp => ?_)
        obtain ⟨rfl, hv⟩ := hp
        replace hv := hv.symm
        subst hv
        rw [show zdv c b (n - 1 - (i : Int)).toNat % b = zrw c b n i from rfl]
        refine z_iast zl_417 (by omega) (by omega) dX12_opens_29 ?_
        generalize hζ9 : zup ξ 417 (i : Int) (zrw c b n i) = ζ
        replace hζ9 := hζ9.symm
        have hro2 : ∀ y, 0 ≤ y → y < (i : Int) + 1 → ζ 417 y = zrw c b n y := fun y y0 y1 => by by_cases e : y = i; rw [hζ9, e, zup_eq]; rw [hζ9, zup_ne (Or.inr e)]; exact hro y y0 (by omega)
        have hfz : ∀ a, a ≠ 417 → ζ a = μ a := fun a ha => by rw [hζ9, zup_row ha]; exact hfr a ha
        have LJ : ∀ (k : Nat) (j : Nat) (x : Int), (j : Int) ≤ i → x = zb (zUn (zrw c b n) i ∧ ∀ y : Int, 0 ≤ y → y < (j : Int) → (zrw c b n) y ≠ (zrw c b n) i) → (i : Int) - j < k → MW X E cX12_opens RX12 ({ frames := 1, cells := 0, slots := 0, locals := 24 }) (some .boolean) (fun r ν => r = some (zI (zb (zUn (zrw c b n) n))) ∧ (∀ k, 0 ≤ k → k < n → ν 417 k = (zrw c b n) k) ∧ ∀ x, x ≠ 417 → ν x = μ x) 33 [zR 393, zI c, zI b, zI n, zI x, zI (i : Int), zI (j : Int)] [] ζ := by
          intro k
          induction k with
          | zero => intro j x hj hx h4; omega
          | succ k ih2 =>
            intro j x hj hx h4
            refine z_iload_6 dX12_opens_33 ?_
            refine z_iload_5 dX12_opens_35 ?_
            refine z_icmpge (tgt := 75) dX12_opens_37 (by decide) (fun h_37 => ?_) (fun h_37 => ?_)
            · refine z_iinc_5 rfl dX12_opens_75 (by omega) ?_
              refine z_goto (tgt := 6) dX12_opens_78 (by decide) ?_
              refine z_weak (ls' := [zR 393, zI c, zI b, zI n, zI x, zI ((i + 1 : Nat) : Int), zU]) ⟨Or.inl rfl, Or.inl rfl, Or.inl rfl, Or.inl rfl, Or.inl rfl, Or.inl rfl, Or.inr rfl, trivial⟩ (ih (i + 1) x ζ (by omega) (by rw [hx]; exact zb_c ⟨fun q u v v0 vu u1 => by by_cases e : u = i; rw [e]; exact q.2 v v0 (by omega); exact q.1 u v v0 vu (by omega), fun q => ⟨fun u v v0 vu u1 => q u v v0 vu (by omega), fun y y0 y1 => q i y y0 (by omega) (by omega)⟩⟩) (fun y y0 y1 => hro2 y y0 (by omega)) hfz (by omega))
            · refine z_iload_4 dX12_opens_40 ?_
              refine z_ifeq (tgt := 66) dX12_opens_42 (by decide) (fun h_42 => ?_) (fun h_42 => ?_)
              · refine z_iconst dX12_opens_66 (by decide) ?_
                refine z_istore_4 rfl dX12_opens_67 ?_
                refine z_iinc_6 rfl dX12_opens_69 (by omega) ?_
                refine z_goto (tgt := 33) dX12_opens_72 (by decide) ?_
                exact ih2 (j + 1) 0 (by omega) (by rw [zb_f]; intro q; have : x = 1 := (by rw [hx]; exact zb_t ⟨q.1, fun y y0 y1 => q.2 y y0 (by omega)⟩); omega) (by omega)
              · refine z_aload_0 dX12_opens_45 ?_
                refine z_getF 417 24 rfl f_X12_80 zl_393 rfl rfl dX12_opens_46 ?_
                refine z_iload_6 dX12_opens_49 ?_
                refine z_iald zl_417 (by omega) (by omega) dX12_opens_51 ?_
                rw [hro2 (j : Int) (by omega) (by omega)]
                refine z_aload_0 dX12_opens_52 ?_
                refine z_getF 417 24 rfl f_X12_80 zl_393 rfl rfl dX12_opens_53 ?_
                refine z_iload_5 dX12_opens_56 ?_
                refine z_iald zl_417 (by omega) (by omega) dX12_opens_58 ?_
                rw [hro2 (i : Int) (by omega) (by omega)]
                refine z_icmpeq (tgt := 66) dX12_opens_59 (by decide) (fun h_59 => ?_) (fun h_59 => ?_)
                · refine z_iconst dX12_opens_66 (by decide) ?_
                  refine z_istore_4 rfl dX12_opens_67 ?_
                  refine z_iinc_6 rfl dX12_opens_69 (by omega) ?_
                  refine z_goto (tgt := 33) dX12_opens_72 (by decide) ?_
                  exact ih2 (j + 1) 0 (by omega) (by rw [zb_f]; exact fun q => q.2 j (by omega) (by omega) h_59) (by omega)
                · refine z_iconst dX12_opens_62 (by decide) ?_
                  refine z_goto (tgt := 67) dX12_opens_63 (by decide) ?_
                  refine z_istore_4 rfl dX12_opens_67 ?_
                  refine z_iinc_6 rfl dX12_opens_69 (by omega) ?_
                  refine z_goto (tgt := 33) dX12_opens_72 (by decide) ?_
                  exact ih2 (j + 1) 1 (by omega) (by rw [zb_t]; have q := zb_n.mp (show zb _ ≠ 0 by rw [← hx]; exact h_42); exact ⟨q.1, fun y y0 y1 => by by_cases e : y = j; rw [e]; exact h_59; exact q.2 y y0 (by omega)⟩) (by omega)
        refine z_iconst dX12_opens_30 (by decide) ?_
        refine z_istore_6 rfl dX12_opens_31 ?_
        exact LJ 9 0 x (by omega) (by rw [hx]; exact zb_c ⟨fun q => ⟨q, fun y y0 y1 => by omega⟩, fun q => q.1⟩) (by omega)
  refine z_iconst dX12_opens_0 (by decide) ?_
  refine z_istore_4 rfl dX12_opens_1 ?_
  refine z_iconst dX12_opens_3 (by decide) ?_
  refine z_istore_5 rfl dX12_opens_4 ?_
  exact LI 9 0 1 μ (by omega) (by rw [zb_t]; exact fun i j j0 ji i1 => by omega) (fun y y0 y1 => by omega) (fun _ _ => rfl) (by omega)
set_option maxRecDepth 100000 in
set_option maxHeartbeats 4000000 in
theorem k_X12_isRuled {l : Launch} {E : zE} {μ : zM} (np : 0 ≤ zBV (μ 394) 3 3 ∧ zBV (μ 394) 3 3 ≤ 5) (nb : 0 ≤ zBV (μ 394) 3 0 ∧ zBV (μ 394) 3 0 ≤ 6) (okr : zOKr (zBV (μ 394))) : Ct l E yX12_isRuled cX12_isRuled 4 (some .boolean) ({ frames := 0, cells := 0, slots := 0, locals := 0 }) [zR 393] μ (fun r ν => r = some (zI (zb (zAl (zBV (μ 394)) (μ 417)))) ∧ ν = μ) := by
  refine Ct.of RX12 [zR 393, zU, zU, zU] (by decide +kernel) rfl ⟨rfl, rfl⟩ rfl (Nat.le_of_ble_eq_true rfl) (fun X hX hc0 ha0 => ?_)
  subst hX
  have nr : 0 ≤ μ 394 4 ∧ μ 394 4 ≤ 4 := okr.1
  have L : ∀ (m : Nat) (k : Nat) (x : Int), (k : Int) ≤ μ 394 4 → x = zb (∀ y : Int, 0 ≤ y → y < (k : Int) → (μ 417 (zBV (μ 394) 15 y) = zBV (μ 394) 16 y ↔ zBV (μ 394) 17 y = 1)) → μ 394 4 - k < m → MW X E cX12_isRuled RX12 ({ frames := 0, cells := 0, slots := 0, locals := 0 }) (some .boolean) (fun r ν => r = some (zI (zb (zAl (zBV (μ 394)) (μ 417)))) ∧ ν = μ) 4 [zR 393, zI x, zI (k : Int), zU] [] μ := by
    intro m
    induction m with
    | zero => intro k x hk9 hx h3; omega
    | succ m ih =>
      intro k x hk9 hx h3
      refine z_iload_2 dX12_isRuled_4 ?_
      refine z_aload_0 dX12_isRuled_5 ?_
      refine z_getF 394 1 rfl f_X12_7 zl_393 rfl rfl dX12_isRuled_6 ?_
      refine z_iconst dX12_isRuled_9 (by decide) ?_
      refine z_iald zl_394 (by omega) (by omega) dX12_isRuled_10 ?_
      refine z_icmpge (tgt := 85) dX12_isRuled_11 (by decide) (fun h_11 => ?_) (fun h_11 => ?_)
      · refine z_iload_1 dX12_isRuled_85 ?_
        exact z_zret (by rw [hx]; exact zb_01) dX12_isRuled_86 (⟨by rw [hx]; exact congrArg (fun z => (some (zI z) : Option zAV)) (zb_c ⟨fun q y y0 y1 => q y y0 (by have : zBV (μ 394) 3 5 = μ 394 4 := rfl; omega), fun q y y0 y1 => q y y0 (by have : zBV (μ 394) 3 5 = μ 394 4 := rfl; omega)⟩), rfl⟩)
      · have s1 : (k : Int) < μ 394 4 := by omega
        have e15 : μ 394 (160 + 3 * (k : Int)) = zBV (μ 394) 15 k := (zBV_15 (by omega) s1).symm
        have e16 : μ 394 (160 + 3 * (k : Int) + 1) = zBV (μ 394) 16 k := (zBV_16 (by omega) s1).symm
        have e17 : μ 394 (160 + 3 * (k : Int) + 2) = zBV (μ 394) 17 k := (zBV_17 (by omega) s1).symm
        have rr := okr.2 (k : Int) (by omega) s1
        refine z_sipush dX12_isRuled_14 (by decide) ?_
        refine z_iconst dX12_isRuled_17 (by decide) ?_
        refine z_iload_2 dX12_isRuled_18 ?_
        refine z_imul dX12_isRuled_19 (by omega) ?_
        refine z_iadd dX12_isRuled_20 (by omega) ?_
        refine z_istore_3 rfl dX12_isRuled_21 ?_
        refine z_iload_1 dX12_isRuled_22 ?_
        refine z_ifeq (tgt := 77) dX12_isRuled_23 (by decide) (fun h_23 => ?_) (fun h_23 => ?_)
        · refine z_iconst dX12_isRuled_77 (by decide) ?_
          refine z_istore_1 rfl dX12_isRuled_78 ?_
          refine z_iinc_2 rfl dX12_isRuled_79 (by omega) ?_
          refine z_goto (tgt := 4) dX12_isRuled_82 (by decide) ?_
          refine z_weak (ls' := [zR 393, zI 0, zI ((k + 1 : Nat) : Int), zU]) ⟨Or.inl rfl, Or.inl rfl, Or.inl rfl, Or.inr rfl, trivial⟩ (ih (k + 1) 0 (by omega) (by rw [zb_f]; intro q; have : x = 1 := (by rw [hx]; exact zb_t (fun y y0 y1 => q y y0 (by omega))); omega) (by omega))
        · refine z_aload_0 dX12_isRuled_26 ?_
          refine z_getF 417 24 rfl f_X12_80 zl_393 rfl rfl dX12_isRuled_27 ?_
          refine z_aload_0 dX12_isRuled_30 ?_
          refine z_getF 394 1 rfl f_X12_7 zl_393 rfl rfl dX12_isRuled_31 ?_
          refine z_iload_3 dX12_isRuled_34 ?_
          refine z_iald zl_394 (by omega) (by omega) dX12_isRuled_35 ?_
          rw [e15]
          refine z_iald zl_417 (by omega) (by omega) dX12_isRuled_36 ?_
          refine z_aload_0 dX12_isRuled_37 ?_
          refine z_getF 394 1 rfl f_X12_7 zl_393 rfl rfl dX12_isRuled_38 ?_
          refine z_iload_3 dX12_isRuled_41 ?_
          refine z_iconst dX12_isRuled_42 (by decide) ?_
          refine z_iadd dX12_isRuled_43 (by omega) ?_
          refine z_iald zl_394 (by omega) (by omega) dX12_isRuled_44 ?_
          rw [e16]
          refine z_icmpne (tgt := 52) dX12_isRuled_45 (by decide) (fun h_45 => ?_) (fun h_45 => ?_)
          · refine z_iconst dX12_isRuled_52 (by decide) ?_
            refine z_aload_0 dX12_isRuled_53 ?_
            refine z_getF 394 1 rfl f_X12_7 zl_393 rfl rfl dX12_isRuled_54 ?_
            refine z_iload_3 dX12_isRuled_57 ?_
            refine z_iconst dX12_isRuled_58 (by decide) ?_
            refine z_iadd dX12_isRuled_59 (by omega) ?_
            refine z_iald zl_394 (by omega) (by omega) dX12_isRuled_60 ?_
            rw [e17]
            refine z_iconst dX12_isRuled_61 (by decide) ?_
            refine z_icmpne (tgt := 69) dX12_isRuled_62 (by decide) (fun h_62 => ?_) (fun h_62 => ?_)
            · refine z_iconst dX12_isRuled_69 (by decide) ?_
              refine z_icmpne (tgt := 77) dX12_isRuled_70 (by decide) (fun h_70 => ?_) (fun h_70 => ?_)
              · refine z_iconst dX12_isRuled_77 (by decide) ?_
                refine z_istore_1 rfl dX12_isRuled_78 ?_
                refine z_iinc_2 rfl dX12_isRuled_79 (by omega) ?_
                refine z_goto (tgt := 4) dX12_isRuled_82 (by decide) ?_
                first
                  | (exfalso; omega)
                  | (have hq : (∀ y : Int, 0 ≤ y → y < (k : Int) → (μ 417 (zBV (μ 394) 15 y) = zBV (μ 394) 16 y ↔ zBV (μ 394) 17 y = 1)) := zb_n.mp (by rw [← hx]; exact h_23)
                     have hk : (μ 417 (zBV (μ 394) 15 (k : Int)) = zBV (μ 394) 16 (k : Int) ↔ zBV (μ 394) 17 (k : Int) = 1) := ⟨fun q => by omega, fun q => by omega⟩
                     refine z_weak (ls' := [zR 393, zI 1, zI ((k + 1 : Nat) : Int), zU]) ⟨Or.inl rfl, Or.inl rfl, Or.inl rfl, Or.inr rfl, trivial⟩ (ih (k + 1) 1 (by omega) (by rw [zb_t]; exact fun y y0 y1 => by by_cases e : y = k; rw [e]; exact hk; exact hq y y0 (by omega)) (by omega)))
                  | (have hk : ¬ (μ 417 (zBV (μ 394) 15 (k : Int)) = zBV (μ 394) 16 (k : Int) ↔ zBV (μ 394) 17 (k : Int) = 1) := fun q => by have q1 := q.1; have q2 := q.2; omega
                     refine z_weak (ls' := [zR 393, zI 0, zI ((k + 1 : Nat) : Int), zU]) ⟨Or.inl rfl, Or.inl rfl, Or.inl rfl, Or.inr rfl, trivial⟩ (ih (k + 1) 0 (by omega) (by rw [zb_f]; exact fun q => hk (q k (by omega) (by omega))) (by omega)))
              · refine z_iconst dX12_isRuled_73 (by decide) ?_
                refine z_goto (tgt := 78) dX12_isRuled_74 (by decide) ?_
                refine z_istore_1 rfl dX12_isRuled_78 ?_
                refine z_iinc_2 rfl dX12_isRuled_79 (by omega) ?_
                refine z_goto (tgt := 4) dX12_isRuled_82 (by decide) ?_
                first
                  | (exfalso; omega)
                  | (have hq : (∀ y : Int, 0 ≤ y → y < (k : Int) → (μ 417 (zBV (μ 394) 15 y) = zBV (μ 394) 16 y ↔ zBV (μ 394) 17 y = 1)) := zb_n.mp (by rw [← hx]; exact h_23)
                     have hk : (μ 417 (zBV (μ 394) 15 (k : Int)) = zBV (μ 394) 16 (k : Int) ↔ zBV (μ 394) 17 (k : Int) = 1) := ⟨fun q => by omega, fun q => by omega⟩
                     refine z_weak (ls' := [zR 393, zI 1, zI ((k + 1 : Nat) : Int), zU]) ⟨Or.inl rfl, Or.inl rfl, Or.inl rfl, Or.inr rfl, trivial⟩ (ih (k + 1) 1 (by omega) (by rw [zb_t]; exact fun y y0 y1 => by by_cases e : y = k; rw [e]; exact hk; exact hq y y0 (by omega)) (by omega)))
                  | (have hk : ¬ (μ 417 (zBV (μ 394) 15 (k : Int)) = zBV (μ 394) 16 (k : Int) ↔ zBV (μ 394) 17 (k : Int) = 1) := fun q => by have q1 := q.1; have q2 := q.2; omega
                     refine z_weak (ls' := [zR 393, zI 0, zI ((k + 1 : Nat) : Int), zU]) ⟨Or.inl rfl, Or.inl rfl, Or.inl rfl, Or.inr rfl, trivial⟩ (ih (k + 1) 0 (by omega) (by rw [zb_f]; exact fun q => hk (q k (by omega) (by omega))) (by omega)))
            · refine z_iconst dX12_isRuled_65 (by decide) ?_
              refine z_goto (tgt := 70) dX12_isRuled_66 (by decide) ?_
              refine z_icmpne (tgt := 77) dX12_isRuled_70 (by decide) (fun h_70 => ?_) (fun h_70 => ?_)
              · refine z_iconst dX12_isRuled_77 (by decide) ?_
                refine z_istore_1 rfl dX12_isRuled_78 ?_
                refine z_iinc_2 rfl dX12_isRuled_79 (by omega) ?_
                refine z_goto (tgt := 4) dX12_isRuled_82 (by decide) ?_
                first
                  | (exfalso; omega)
                  | (have hq : (∀ y : Int, 0 ≤ y → y < (k : Int) → (μ 417 (zBV (μ 394) 15 y) = zBV (μ 394) 16 y ↔ zBV (μ 394) 17 y = 1)) := zb_n.mp (by rw [← hx]; exact h_23)
                     have hk : (μ 417 (zBV (μ 394) 15 (k : Int)) = zBV (μ 394) 16 (k : Int) ↔ zBV (μ 394) 17 (k : Int) = 1) := ⟨fun q => by omega, fun q => by omega⟩
                     refine z_weak (ls' := [zR 393, zI 1, zI ((k + 1 : Nat) : Int), zU]) ⟨Or.inl rfl, Or.inl rfl, Or.inl rfl, Or.inr rfl, trivial⟩ (ih (k + 1) 1 (by omega) (by rw [zb_t]; exact fun y y0 y1 => by by_cases e : y = k; rw [e]; exact hk; exact hq y y0 (by omega)) (by omega)))
                  | (have hk : ¬ (μ 417 (zBV (μ 394) 15 (k : Int)) = zBV (μ 394) 16 (k : Int) ↔ zBV (μ 394) 17 (k : Int) = 1) := fun q => by have q1 := q.1; have q2 := q.2; omega
                     refine z_weak (ls' := [zR 393, zI 0, zI ((k + 1 : Nat) : Int), zU]) ⟨Or.inl rfl, Or.inl rfl, Or.inl rfl, Or.inr rfl, trivial⟩ (ih (k + 1) 0 (by omega) (by rw [zb_f]; exact fun q => hk (q k (by omega) (by omega))) (by omega)))
              · refine z_iconst dX12_isRuled_73 (by decide) ?_
                refine z_goto (tgt := 78) dX12_isRuled_74 (by decide) ?_
                refine z_istore_1 rfl dX12_isRuled_78 ?_
                refine z_iinc_2 rfl dX12_isRuled_79 (by omega) ?_
                refine z_goto (tgt := 4) dX12_isRuled_82 (by decide) ?_
                first
                  | (exfalso; omega)
                  | (have hq : (∀ y : Int, 0 ≤ y → y < (k : Int) → (μ 417 (zBV (μ 394) 15 y) = zBV (μ 394) 16 y ↔ zBV (μ 394) 17 y = 1)) := zb_n.mp (by rw [← hx]; exact h_23)
                     have hk : (μ 417 (zBV (μ 394) 15 (k : Int)) = zBV (μ 394) 16 (k : Int) ↔ zBV (μ 394) 17 (k : Int) = 1) := ⟨fun q => by omega, fun q => by omega⟩
                     refine z_weak (ls' := [zR 393, zI 1, zI ((k + 1 : Nat) : Int), zU]) ⟨Or.inl rfl, Or.inl rfl, Or.inl rfl, Or.inr rfl, trivial⟩ (ih (k + 1) 1 (by omega) (by rw [zb_t]; exact fun y y0 y1 => by by_cases e : y = k; rw [e]; exact hk; exact hq y y0 (by omega)) (by omega)))
                  | (have hk : ¬ (μ 417 (zBV (μ 394) 15 (k : Int)) = zBV (μ 394) 16 (k : Int) ↔ zBV (μ 394) 17 (k : Int) = 1) := fun q => by have q1 := q.1; have q2 := q.2; omega
                     refine z_weak (ls' := [zR 393, zI 0, zI ((k + 1 : Nat) : Int), zU]) ⟨Or.inl rfl, Or.inl rfl, Or.inl rfl, Or.inr rfl, trivial⟩ (ih (k + 1) 0 (by omega) (by rw [zb_f]; exact fun q => hk (q k (by omega) (by omega))) (by omega)))
          · refine z_iconst dX12_isRuled_48 (by decide) ?_
            refine z_goto (tgt := 53) dX12_isRuled_49 (by decide) ?_
            refine z_aload_0 dX12_isRuled_53 ?_
            refine z_getF 394 1 rfl f_X12_7 zl_393 rfl rfl dX12_isRuled_54 ?_
            refine z_iload_3 dX12_isRuled_57 ?_
            refine z_iconst dX12_isRuled_58 (by decide) ?_
            refine z_iadd dX12_isRuled_59 (by omega) ?_
            refine z_iald zl_394 (by omega) (by omega) dX12_isRuled_60 ?_
            rw [e17]
            refine z_iconst dX12_isRuled_61 (by decide) ?_
            refine z_icmpne (tgt := 69) dX12_isRuled_62 (by decide) (fun h_62 => ?_) (fun h_62 => ?_)
            · refine z_iconst dX12_isRuled_69 (by decide) ?_
              refine z_icmpne (tgt := 77) dX12_isRuled_70 (by decide) (fun h_70 => ?_) (fun h_70 => ?_)
              · refine z_iconst dX12_isRuled_77 (by decide) ?_
                refine z_istore_1 rfl dX12_isRuled_78 ?_
                refine z_iinc_2 rfl dX12_isRuled_79 (by omega) ?_
                refine z_goto (tgt := 4) dX12_isRuled_82 (by decide) ?_
                first
                  | (exfalso; omega)
                  | (have hq : (∀ y : Int, 0 ≤ y → y < (k : Int) → (μ 417 (zBV (μ 394) 15 y) = zBV (μ 394) 16 y ↔ zBV (μ 394) 17 y = 1)) := zb_n.mp (by rw [← hx]; exact h_23)
                     have hk : (μ 417 (zBV (μ 394) 15 (k : Int)) = zBV (μ 394) 16 (k : Int) ↔ zBV (μ 394) 17 (k : Int) = 1) := ⟨fun q => by omega, fun q => by omega⟩
                     refine z_weak (ls' := [zR 393, zI 1, zI ((k + 1 : Nat) : Int), zU]) ⟨Or.inl rfl, Or.inl rfl, Or.inl rfl, Or.inr rfl, trivial⟩ (ih (k + 1) 1 (by omega) (by rw [zb_t]; exact fun y y0 y1 => by by_cases e : y = k; rw [e]; exact hk; exact hq y y0 (by omega)) (by omega)))
                  | (have hk : ¬ (μ 417 (zBV (μ 394) 15 (k : Int)) = zBV (μ 394) 16 (k : Int) ↔ zBV (μ 394) 17 (k : Int) = 1) := fun q => by have q1 := q.1; have q2 := q.2; omega
                     refine z_weak (ls' := [zR 393, zI 0, zI ((k + 1 : Nat) : Int), zU]) ⟨Or.inl rfl, Or.inl rfl, Or.inl rfl, Or.inr rfl, trivial⟩ (ih (k + 1) 0 (by omega) (by rw [zb_f]; exact fun q => hk (q k (by omega) (by omega))) (by omega)))
              · refine z_iconst dX12_isRuled_73 (by decide) ?_
                refine z_goto (tgt := 78) dX12_isRuled_74 (by decide) ?_
                refine z_istore_1 rfl dX12_isRuled_78 ?_
                refine z_iinc_2 rfl dX12_isRuled_79 (by omega) ?_
                refine z_goto (tgt := 4) dX12_isRuled_82 (by decide) ?_
                first
                  | (exfalso; omega)
                  | (have hq : (∀ y : Int, 0 ≤ y → y < (k : Int) → (μ 417 (zBV (μ 394) 15 y) = zBV (μ 394) 16 y ↔ zBV (μ 394) 17 y = 1)) := zb_n.mp (by rw [← hx]; exact h_23)
                     have hk : (μ 417 (zBV (μ 394) 15 (k : Int)) = zBV (μ 394) 16 (k : Int) ↔ zBV (μ 394) 17 (k : Int) = 1) := ⟨fun q => by omega, fun q => by omega⟩
                     refine z_weak (ls' := [zR 393, zI 1, zI ((k + 1 : Nat) : Int), zU]) ⟨Or.inl rfl, Or.inl rfl, Or.inl rfl, Or.inr rfl, trivial⟩ (ih (k + 1) 1 (by omega) (by rw [zb_t]; exact fun y y0 y1 => by by_cases e : y = k; rw [e]; exact hk; exact hq y y0 (by omega)) (by omega)))
                  | (have hk : ¬ (μ 417 (zBV (μ 394) 15 (k : Int)) = zBV (μ 394) 16 (k : Int) ↔ zBV (μ 394) 17 (k : Int) = 1) := fun q => by have q1 := q.1; have q2 := q.2; omega
                     refine z_weak (ls' := [zR 393, zI 0, zI ((k + 1 : Nat) : Int), zU]) ⟨Or.inl rfl, Or.inl rfl, Or.inl rfl, Or.inr rfl, trivial⟩ (ih (k + 1) 0 (by omega) (by rw [zb_f]; exact fun q => hk (q k (by omega) (by omega))) (by omega)))
            · refine z_iconst dX12_isRuled_65 (by decide) ?_
              refine z_goto (tgt := 70) dX12_isRuled_66 (by decide) ?_
              refine z_icmpne (tgt := 77) dX12_isRuled_70 (by decide) (fun h_70 => ?_) (fun h_70 => ?_)
              · refine z_iconst dX12_isRuled_77 (by decide) ?_
                refine z_istore_1 rfl dX12_isRuled_78 ?_
                refine z_iinc_2 rfl dX12_isRuled_79 (by omega) ?_
                refine z_goto (tgt := 4) dX12_isRuled_82 (by decide) ?_
                first
                  | (exfalso; omega)
                  | (have hq : (∀ y : Int, 0 ≤ y → y < (k : Int) → (μ 417 (zBV (μ 394) 15 y) = zBV (μ 394) 16 y ↔ zBV (μ 394) 17 y = 1)) := zb_n.mp (by rw [← hx]; exact h_23)
                     have hk : (μ 417 (zBV (μ 394) 15 (k : Int)) = zBV (μ 394) 16 (k : Int) ↔ zBV (μ 394) 17 (k : Int) = 1) := ⟨fun q => by omega, fun q => by omega⟩
                     refine z_weak (ls' := [zR 393, zI 1, zI ((k + 1 : Nat) : Int), zU]) ⟨Or.inl rfl, Or.inl rfl, Or.inl rfl, Or.inr rfl, trivial⟩ (ih (k + 1) 1 (by omega) (by rw [zb_t]; exact fun y y0 y1 => by by_cases e : y = k; rw [e]; exact hk; exact hq y y0 (by omega)) (by omega)))
                  | (have hk : ¬ (μ 417 (zBV (μ 394) 15 (k : Int)) = zBV (μ 394) 16 (k : Int) ↔ zBV (μ 394) 17 (k : Int) = 1) := fun q => by have q1 := q.1; have q2 := q.2; omega
                     refine z_weak (ls' := [zR 393, zI 0, zI ((k + 1 : Nat) : Int), zU]) ⟨Or.inl rfl, Or.inl rfl, Or.inl rfl, Or.inr rfl, trivial⟩ (ih (k + 1) 0 (by omega) (by rw [zb_f]; exact fun q => hk (q k (by omega) (by omega))) (by omega)))
              · refine z_iconst dX12_isRuled_73 (by decide) ?_
                refine z_goto (tgt := 78) dX12_isRuled_74 (by decide) ?_
                refine z_istore_1 rfl dX12_isRuled_78 ?_
                refine z_iinc_2 rfl dX12_isRuled_79 (by omega) ?_
                refine z_goto (tgt := 4) dX12_isRuled_82 (by decide) ?_
                first
                  | (exfalso; omega)
                  | (have hq : (∀ y : Int, 0 ≤ y → y < (k : Int) → (μ 417 (zBV (μ 394) 15 y) = zBV (μ 394) 16 y ↔ zBV (μ 394) 17 y = 1)) := zb_n.mp (by rw [← hx]; exact h_23)
                     have hk : (μ 417 (zBV (μ 394) 15 (k : Int)) = zBV (μ 394) 16 (k : Int) ↔ zBV (μ 394) 17 (k : Int) = 1) := ⟨fun q => by omega, fun q => by omega⟩
                     refine z_weak (ls' := [zR 393, zI 1, zI ((k + 1 : Nat) : Int), zU]) ⟨Or.inl rfl, Or.inl rfl, Or.inl rfl, Or.inr rfl, trivial⟩ (ih (k + 1) 1 (by omega) (by rw [zb_t]; exact fun y y0 y1 => by by_cases e : y = k; rw [e]; exact hk; exact hq y y0 (by omega)) (by omega)))
                  | (have hk : ¬ (μ 417 (zBV (μ 394) 15 (k : Int)) = zBV (μ 394) 16 (k : Int) ↔ zBV (μ 394) 17 (k : Int) = 1) := fun q => by have q1 := q.1; have q2 := q.2; omega
                     refine z_weak (ls' := [zR 393, zI 0, zI ((k + 1 : Nat) : Int), zU]) ⟨Or.inl rfl, Or.inl rfl, Or.inl rfl, Or.inr rfl, trivial⟩ (ih (k + 1) 0 (by omega) (by rw [zb_f]; exact fun q => hk (q k (by omega) (by omega))) (by omega)))
  refine z_iconst dX12_isRuled_0 (by decide) ?_
  refine z_istore_1 rfl dX12_isRuled_1 ?_
  refine z_iconst dX12_isRuled_2 (by decide) ?_
  refine z_istore_2 rfl dX12_isRuled_3 ?_
  exact L 9 0 1 (by omega) (by rw [zb_t]; exact fun y y0 y1 => by omega) (by omega)
set_option maxRecDepth 100000 in
set_option maxHeartbeats 4000000 in
theorem k_X12_keepsBetter {l : Launch} {E : zE} {μ : zM} (ok : zOK (zBV (μ 394))) (far : zFar (zBV (μ 394)) (μ 402)) (hq : μ 393 18 = 0) : Ct l E yX12_keepsBetter cX12_keepsBetter 2 none ({ frames := 5, cells := 0, slots := 0, locals := 121 }) [zR 393] μ (fun r ν => r = none ∧ ((∀ k, k ≠ 31 → k ≠ 32 → k ≠ 33 → k ≠ 39 → k ≠ 40 → k ≠ 41 → ν 393 k = μ 393 k) ∧ (∀ x : Nat, x ≠ 393 → x ≠ 418 → (x < 403 ∨ 414 < x) → ν x = μ x)) ∧ (((μ 393 41 = 0 ∨ μ 393 39 < (zWR (zBV (μ 394)) 0) ∨ ((zWR (zBV (μ 394)) 0) = μ 393 39 ∧ μ 393 40 < (zGR (zBV (μ 394)) 0))) ∧ ν 393 41 = 1 ∧ ν 393 39 = (zWR (zBV (μ 394)) 0) ∧ ν 393 40 = (zGR (zBV (μ 394)) 0) ∧ ∀ i, 0 ≤ i → i < μ 394 2 → ν 418 i = μ 417 i) ∨ (¬ (μ 393 41 = 0 ∨ μ 393 39 < (zWR (zBV (μ 394)) 0) ∨ ((zWR (zBV (μ 394)) 0) = μ 393 39 ∧ μ 393 40 < (zGR (zBV (μ 394)) 0))) ∧ ν 393 41 = μ 393 41 ∧ ν 393 39 = μ 393 39 ∧ ν 393 40 = μ 393 40 ∧ ν 418 = μ 418))) := by
  refine Ct.of RX12 [zR 393, zU] (by decide +kernel) rfl ⟨rfl, rfl⟩ rfl (Nat.le_of_ble_eq_true rfl) (fun X hX hc0 ha0 => ?_)
  subst hX
  have np : 0 ≤ μ 394 2 ∧ μ 394 2 ≤ 5 := ok.2.1.1
  have J67 : ∀ ζ5 : zM, ζ5 394 2 = μ 394 2 → (∀ ξ : zM, (∀ y : Int, 0 ≤ y → y < μ 394 2 → ξ 418 y = ζ5 417 y) → (∀ a, a ≠ 418 → ξ a = ζ5 a) → (fun (r : Option zAV) (ν : zM) => r = none ∧ ((∀ k, k ≠ 31 → k ≠ 32 → k ≠ 33 → k ≠ 39 → k ≠ 40 → k ≠ 41 → ν 393 k = μ 393 k) ∧ (∀ x : Nat, x ≠ 393 → x ≠ 418 → (x < 403 ∨ 414 < x) → ν x = μ x)) ∧ (((μ 393 41 = 0 ∨ μ 393 39 < (zWR (zBV (μ 394)) 0) ∨ ((zWR (zBV (μ 394)) 0) = μ 393 39 ∧ μ 393 40 < (zGR (zBV (μ 394)) 0))) ∧ ν 393 41 = 1 ∧ ν 393 39 = (zWR (zBV (μ 394)) 0) ∧ ν 393 40 = (zGR (zBV (μ 394)) 0) ∧ ∀ i, 0 ≤ i → i < μ 394 2 → ν 418 i = μ 417 i) ∨ (¬ (μ 393 41 = 0 ∨ μ 393 39 < (zWR (zBV (μ 394)) 0) ∨ ((zWR (zBV (μ 394)) 0) = μ 393 39 ∧ μ 393 40 < (zGR (zBV (μ 394)) 0))) ∧ ν 393 41 = μ 393 41 ∧ ν 393 39 = μ 393 39 ∧ ν 393 40 = μ 393 40 ∧ ν 418 = μ 418))) none ξ) → MW X E cX12_keepsBetter RX12 ({ frames := 5, cells := 0, slots := 0, locals := 121 }) none (fun r ν => r = none ∧ ((∀ k, k ≠ 31 → k ≠ 32 → k ≠ 33 → k ≠ 39 → k ≠ 40 → k ≠ 41 → ν 393 k = μ 393 k) ∧ (∀ x : Nat, x ≠ 393 → x ≠ 418 → (x < 403 ∨ 414 < x) → ν x = μ x)) ∧ (((μ 393 41 = 0 ∨ μ 393 39 < (zWR (zBV (μ 394)) 0) ∨ ((zWR (zBV (μ 394)) 0) = μ 393 39 ∧ μ 393 40 < (zGR (zBV (μ 394)) 0))) ∧ ν 393 41 = 1 ∧ ν 393 39 = (zWR (zBV (μ 394)) 0) ∧ ν 393 40 = (zGR (zBV (μ 394)) 0) ∧ ∀ i, 0 ≤ i → i < μ 394 2 → ν 418 i = μ 417 i) ∨ (¬ (μ 393 41 = 0 ∨ μ 393 39 < (zWR (zBV (μ 394)) 0) ∨ ((zWR (zBV (μ 394)) 0) = μ 393 39 ∧ μ 393 40 < (zGR (zBV (μ 394)) 0))) ∧ ν 393 41 = μ 393 41 ∧ ν 393 39 = μ 393 39 ∧ ν 393 40 = μ 393 40 ∧ ν 418 = μ 418))) 67 [zR 393, zI 0] [] ζ5 := by
    intro ζ5 h5c hend
    have L67 : ∀ (k : Nat) (i : Nat) (ξ : zM), (i : Int) ≤ μ 394 2 → (∀ y : Int, 0 ≤ y → y < i → ξ 418 y = ζ5 417 y) → (∀ a, a ≠ 418 → ξ a = ζ5 a) → μ 394 2 - (i : Int) < k → MW X E cX12_keepsBetter RX12 ({ frames := 5, cells := 0, slots := 0, locals := 121 }) none (fun r ν => r = none ∧ ((∀ k, k ≠ 31 → k ≠ 32 → k ≠ 33 → k ≠ 39 → k ≠ 40 → k ≠ 41 → ν 393 k = μ 393 k) ∧ (∀ x : Nat, x ≠ 393 → x ≠ 418 → (x < 403 ∨ 414 < x) → ν x = μ x)) ∧ (((μ 393 41 = 0 ∨ μ 393 39 < (zWR (zBV (μ 394)) 0) ∨ ((zWR (zBV (μ 394)) 0) = μ 393 39 ∧ μ 393 40 < (zGR (zBV (μ 394)) 0))) ∧ ν 393 41 = 1 ∧ ν 393 39 = (zWR (zBV (μ 394)) 0) ∧ ν 393 40 = (zGR (zBV (μ 394)) 0) ∧ ∀ i, 0 ≤ i → i < μ 394 2 → ν 418 i = μ 417 i) ∨ (¬ (μ 393 41 = 0 ∨ μ 393 39 < (zWR (zBV (μ 394)) 0) ∨ ((zWR (zBV (μ 394)) 0) = μ 393 39 ∧ μ 393 40 < (zGR (zBV (μ 394)) 0))) ∧ ν 393 41 = μ 393 41 ∧ ν 393 39 = μ 393 39 ∧ ν 393 40 = μ 393 40 ∧ ν 418 = μ 418))) 67 [zR 393, zI (i : Int)] [] ξ := by
      intro k
      induction k with
      | zero => intro i ξ hi hd hx h3; omega
      | succ k ih =>
        intro i ξ hi hd hx h3
        have hc2 : ξ 394 2 = μ 394 2 := by rw [hx 394 (by decide), h5c]
        refine z_iload_1 dX12_keepsBetter_67 ?_
        refine z_aload_0 dX12_keepsBetter_68 ?_
        refine z_getF 394 1 rfl f_X12_7 zl_393 rfl rfl dX12_keepsBetter_69 ?_
        refine z_iconst dX12_keepsBetter_72 (by decide) ?_
        refine z_iald zl_394 (by omega) (by omega) dX12_keepsBetter_73 ?_
        refine z_icmpge (tgt := 95) dX12_keepsBetter_74 (by decide) (fun h_74 => ?_) (fun h_74 => ?_)
        · exact z_vret dX12_keepsBetter_95 (hend ξ (fun y y0 y1 => hd y y0 (by omega)) hx)
        · refine z_aload_0 dX12_keepsBetter_77 ?_
          refine z_getF 418 25 rfl f_X12_83 zl_393 rfl rfl dX12_keepsBetter_78 ?_
          refine z_iload_1 dX12_keepsBetter_81 ?_
          refine z_aload_0 dX12_keepsBetter_82 ?_
          refine z_getF 417 24 rfl f_X12_80 zl_393 rfl rfl dX12_keepsBetter_83 ?_
          refine z_iload_1 dX12_keepsBetter_86 ?_
          refine z_iald zl_417 (by omega) (by omega) dX12_keepsBetter_87 ?_
          refine z_iast zl_418 (by omega) (by omega) dX12_keepsBetter_88 ?_
          refine z_iinc_1 rfl dX12_keepsBetter_89 (by omega) ?_
          refine z_goto (tgt := 67) dX12_keepsBetter_92 (by decide) ?_
          exact ih (i + 1) _ (by omega) (fun y y0 y1 => by by_cases e : y = i; rw [e, zup_eq, hx 417 (by decide)]; rw [zup_ne (Or.inr e)]; exact hd y y0 (by omega)) (fun a ha => by rw [zup_row ha]; exact hx a ha) (by omega)
    exact L67 9 0 ζ5 (by omega) (fun y y0 y1 => by omega) (fun _ _ => rfl) (by omega)
  refine z_aload_0 dX12_keepsBetter_0 ?_
  refine z_callV0 (k_X12_nights (V := zBV (μ 394)) rfl ok far (by rw [hq]; decide)) m_X12_nights zl_393 l_X12_302 (Nat.le_of_ble_eq_true rfl) ⟨Nat.le_of_ble_eq_true rfl, Nat.le_of_ble_eq_true rfl⟩ ⟨rfl, rfl⟩ dX12_keepsBetter_1 (fun r μ1 hp => ?_)
  obtain ⟨rfl, -, hw32, hw33, hrf⟩ := hp
  obtain ⟨ζ, hζ9⟩ : ∃ z, z = μ1 := ⟨_, rfl⟩
  subst hζ9
  rw [hq] at hw32 hw33
  have r32 : ζ 393 32 = (zWR (zBV (μ 394)) 0) := hw32
  have r33 : ζ 393 33 = (zGR (zBV (μ 394)) 0) := hw33
  have o39 : ζ 393 39 = μ 393 39 := hrf.1 39 (by decide) (by decide) (by decide)
  have o40 : ζ 393 40 = μ 393 40 := hrf.1 40 (by decide) (by decide) (by decide)
  have o41 : ζ 393 41 = μ 393 41 := hrf.1 41 (by decide) (by decide) (by decide)
  have J44 : (μ 393 41 = 0 ∨ μ 393 39 < (zWR (zBV (μ 394)) 0) ∨ ((zWR (zBV (μ 394)) 0) = μ 393 39 ∧ μ 393 40 < (zGR (zBV (μ 394)) 0))) → MW X E cX12_keepsBetter RX12 ({ frames := 5, cells := 0, slots := 0, locals := 121 }) none (fun r ν => r = none ∧ ((∀ k, k ≠ 31 → k ≠ 32 → k ≠ 33 → k ≠ 39 → k ≠ 40 → k ≠ 41 → ν 393 k = μ 393 k) ∧ (∀ x : Nat, x ≠ 393 → x ≠ 418 → (x < 403 ∨ 414 < x) → ν x = μ x)) ∧ (((μ 393 41 = 0 ∨ μ 393 39 < (zWR (zBV (μ 394)) 0) ∨ ((zWR (zBV (μ 394)) 0) = μ 393 39 ∧ μ 393 40 < (zGR (zBV (μ 394)) 0))) ∧ ν 393 41 = 1 ∧ ν 393 39 = (zWR (zBV (μ 394)) 0) ∧ ν 393 40 = (zGR (zBV (μ 394)) 0) ∧ ∀ i, 0 ≤ i → i < μ 394 2 → ν 418 i = μ 417 i) ∨ (¬ (μ 393 41 = 0 ∨ μ 393 39 < (zWR (zBV (μ 394)) 0) ∨ ((zWR (zBV (μ 394)) 0) = μ 393 39 ∧ μ 393 40 < (zGR (zBV (μ 394)) 0))) ∧ ν 393 41 = μ 393 41 ∧ ν 393 39 = μ 393 39 ∧ ν 393 40 = μ 393 40 ∧ ν 418 = μ 418))) 44 [zR 393, zU] [] ζ := by
    intro hco
    refine z_aload_0 dX12_keepsBetter_44 ?_
    refine z_iconst dX12_keepsBetter_45 (by decide) ?_
    refine z_putZ 41 rfl (by decide) f_X12_317 p_12_41 zl_393 rfl rfl dX12_keepsBetter_46 ?_
    refine z_aload_0 dX12_keepsBetter_49 ?_
    refine z_aload_0 dX12_keepsBetter_50 ?_
    refine z_getI 32 rfl f_X12_296 zl_393 rfl dX12_keepsBetter_51 ?_
    rw [show zup ζ 393 41 1 393 32 = (zWR (zBV (μ 394)) 0) by (repeat (first | rw [zup_eq] | rw [zup_row (by omega)] | rw [zup_ne (Or.inr (by omega))])); exact r32]
    refine z_putI 39 rfl f_X12_320 p_12_39 zl_393 rfl rfl dX12_keepsBetter_54 ?_
    refine z_aload_0 dX12_keepsBetter_57 ?_
    refine z_aload_0 dX12_keepsBetter_58 ?_
    refine z_getI 33 rfl f_X12_299 zl_393 rfl dX12_keepsBetter_59 ?_
    rw [show zup (zup ζ 393 41 1) 393 39 (zWR (zBV (μ 394)) 0) 393 33 = (zGR (zBV (μ 394)) 0) by (repeat (first | rw [zup_eq] | rw [zup_row (by omega)] | rw [zup_ne (Or.inr (by omega))])); exact r33]
    refine z_putI 40 rfl f_X12_323 p_12_40 zl_393 rfl rfl dX12_keepsBetter_62 ?_
    refine z_iconst dX12_keepsBetter_65 (by decide) ?_
    refine z_istore_1 rfl dX12_keepsBetter_66 ?_
    refine J67 _ (by (repeat (first | rw [zup_eq] | rw [zup_row (by omega)] | rw [zup_ne (Or.inr (by omega))])); rw [hrf.2 394 (by decide) (by decide)]) (fun ξ hd hx => ?_)
    have e93 : ξ 393 = _ := hx 393 (by decide)
    refine ⟨rfl, ⟨fun k k1 k2 k3 k4 k5 k6 => by rw [e93]; (repeat (first | rw [zup_eq] | rw [zup_row (by omega)] | rw [zup_ne (Or.inr (by omega))])); exact hrf.1 k k1 k2 k3, fun x x1 x2 x3 => by rw [hx x x2]; (repeat (first | rw [zup_eq] | rw [zup_row (by omega)] | rw [zup_ne (Or.inr (by omega))])); exact hrf.2 x x1 x3⟩, Or.inl ⟨hco, by rw [e93]; (repeat (first | rw [zup_eq] | rw [zup_row (by omega)] | rw [zup_ne (Or.inr (by omega))])), by rw [e93]; (repeat (first | rw [zup_eq] | rw [zup_row (by omega)] | rw [zup_ne (Or.inr (by omega))])), by rw [e93]; (repeat (first | rw [zup_eq] | rw [zup_row (by omega)] | rw [zup_ne (Or.inr (by omega))])), fun y y0 y1 => by rw [hd y y0 y1]; (repeat (first | rw [zup_eq] | rw [zup_row (by omega)] | rw [zup_ne (Or.inr (by omega))])); rw [hrf.2 417 (by decide) (by decide)]⟩⟩
  refine z_aload_0 dX12_keepsBetter_4 ?_
  refine z_getI 41 rfl f_X12_317 zl_393 rfl dX12_keepsBetter_5 ?_
  rw [o41]
  refine z_ifeq (tgt := 44) dX12_keepsBetter_8 (by decide) (fun h_8 => ?_) (fun h_8 => ?_)
  · exact J44 (by first | exact Or.inl (by omega) | exact Or.inr (Or.inl (by omega)) | exact Or.inr (Or.inr ⟨by omega, by omega⟩))
  · refine z_aload_0 dX12_keepsBetter_11 ?_
    refine z_getI 32 rfl f_X12_296 zl_393 rfl dX12_keepsBetter_12 ?_
    rw [r32]
    refine z_aload_0 dX12_keepsBetter_15 ?_
    refine z_getI 39 rfl f_X12_320 zl_393 rfl dX12_keepsBetter_16 ?_
    rw [o39]
    refine z_icmpgt (tgt := 44) dX12_keepsBetter_19 (by decide) (fun h_19 => ?_) (fun h_19 => ?_)
    · exact J44 (by first | exact Or.inl (by omega) | exact Or.inr (Or.inl (by omega)) | exact Or.inr (Or.inr ⟨by omega, by omega⟩))
    · refine z_aload_0 dX12_keepsBetter_22 ?_
      refine z_getI 32 rfl f_X12_296 zl_393 rfl dX12_keepsBetter_23 ?_
      rw [r32]
      refine z_aload_0 dX12_keepsBetter_26 ?_
      refine z_getI 39 rfl f_X12_320 zl_393 rfl dX12_keepsBetter_27 ?_
      rw [o39]
      refine z_icmpne (tgt := 95) dX12_keepsBetter_30 (by decide) (fun h_30 => ?_) (fun h_30 => ?_)
      · exact z_vret dX12_keepsBetter_95 (⟨rfl, ⟨fun k k1 k2 k3 _ _ _ => hrf.1 k k1 k2 k3, fun x x1 _ x3 => hrf.2 x x1 x3⟩, Or.inr ⟨fun q => q.elim (fun z => h_8 (by omega)) (fun z => z.elim (fun z => by omega) (fun z => by omega)), o41, o39, o40, hrf.2 418 (by decide) (by decide)⟩⟩)
      · refine z_aload_0 dX12_keepsBetter_33 ?_
        refine z_getI 33 rfl f_X12_299 zl_393 rfl dX12_keepsBetter_34 ?_
        rw [r33]
        refine z_aload_0 dX12_keepsBetter_37 ?_
        refine z_getI 40 rfl f_X12_323 zl_393 rfl dX12_keepsBetter_38 ?_
        rw [o40]
        refine z_icmple (tgt := 95) dX12_keepsBetter_41 (by decide) (fun h_41 => ?_) (fun h_41 => ?_)
        · exact z_vret dX12_keepsBetter_95 (⟨rfl, ⟨fun k k1 k2 k3 _ _ _ => hrf.1 k k1 k2 k3, fun x x1 _ x3 => hrf.2 x x1 x3⟩, Or.inr ⟨fun q => q.elim (fun z => h_8 (by omega)) (fun z => z.elim (fun z => by omega) (fun z => by omega)), o41, o39, o40, hrf.2 418 (by decide) (by decide)⟩⟩)
        · exact J44 (by first | exact Or.inl (by omega) | exact Or.inr (Or.inl (by omega)) | exact Or.inr (Or.inr ⟨by omega, by omega⟩))
