theorem zHV_4x {μ : zM} {h : Nat} {s b : Int} (h0 : 0 ≤ s) (h1 : s < μ (h + 5) 6) : zHV (zup μ (h + 6) s b) h = zup (zHV μ h) 4 s b := by
  funext k i
  unfold zHV zup
  match k with
  | 0 => (simp only [Nat.reduceEqDiff, Nat.add_left_cancel_iff, Nat.reduceAdd, false_and, true_and, if_false, if_true, reduceCtorEq]; repeat' split) <;> first | rfl | omega | (simp_all; done) | (simp_all; omega)
  | 1 => (simp only [Nat.reduceEqDiff, Nat.add_left_cancel_iff, Nat.reduceAdd, false_and, true_and, if_false, if_true, reduceCtorEq]; repeat' split) <;> first | rfl | omega | (simp_all; done) | (simp_all; omega)
  | 2 => (simp only [Nat.reduceEqDiff, Nat.add_left_cancel_iff, Nat.reduceAdd, false_and, true_and, if_false, if_true, reduceCtorEq]; repeat' split) <;> first | rfl | omega | (simp_all; done) | (simp_all; omega)
  | 3 => (simp only [Nat.reduceEqDiff, Nat.add_left_cancel_iff, Nat.reduceAdd, false_and, true_and, if_false, if_true, reduceCtorEq]; repeat' split) <;> first | rfl | omega | (simp_all; done) | (simp_all; omega)
  | 4 => (simp only [Nat.reduceEqDiff, Nat.add_left_cancel_iff, Nat.reduceAdd, false_and, true_and, if_false, if_true, reduceCtorEq]; repeat' split) <;> first | rfl | omega | (simp_all; done) | (simp_all; omega)
  | 5 => (simp only [Nat.reduceEqDiff, Nat.add_left_cancel_iff, Nat.reduceAdd, false_and, true_and, if_false, if_true, reduceCtorEq]; repeat' split) <;> first | rfl | omega | (simp_all; done) | (simp_all; omega)
  | 6 => (simp only [Nat.reduceEqDiff, Nat.add_left_cancel_iff, Nat.reduceAdd, false_and, true_and, if_false, if_true, reduceCtorEq]; repeat' split) <;> first | rfl | omega | (simp_all; done) | (simp_all; omega)
  | 7 => (simp only [Nat.reduceEqDiff, Nat.add_left_cancel_iff, Nat.reduceAdd, false_and, true_and, if_false, if_true, reduceCtorEq]; repeat' split) <;> first | rfl | omega | (simp_all; done) | (simp_all; omega)
  | 8 => (simp only [Nat.reduceEqDiff, Nat.add_left_cancel_iff, Nat.reduceAdd, false_and, true_and, if_false, if_true, reduceCtorEq]; repeat' split) <;> first | rfl | omega | (simp_all; done) | (simp_all; omega)
  | 9 => (simp only [Nat.reduceEqDiff, Nat.add_left_cancel_iff, Nat.reduceAdd, false_and, true_and, if_false, if_true, reduceCtorEq]; repeat' split) <;> first | rfl | omega | (simp_all; done) | (simp_all; omega)
  | 10 => (simp only [Nat.reduceEqDiff, Nat.add_left_cancel_iff, Nat.reduceAdd, false_and, true_and, if_false, if_true, reduceCtorEq]; repeat' split) <;> first | rfl | omega | (simp_all; done) | (simp_all; omega)
  | 11 => (simp only [Nat.reduceEqDiff, Nat.add_left_cancel_iff, Nat.reduceAdd, false_and, true_and, if_false, if_true, reduceCtorEq]; repeat' split) <;> first | rfl | omega | (simp_all; done) | (simp_all; omega)
  | 12 => (simp only [Nat.reduceEqDiff, Nat.add_left_cancel_iff, Nat.reduceAdd, false_and, true_and, if_false, if_true, reduceCtorEq]; repeat' split) <;> first | rfl | omega | (simp_all; done) | (simp_all; omega)
  | 13 => (simp only [Nat.reduceEqDiff, Nat.add_left_cancel_iff, Nat.reduceAdd, false_and, true_and, if_false, if_true, reduceCtorEq]; repeat' split) <;> first | rfl | omega | (simp_all; done) | (simp_all; omega)
  | 14 => (simp only [Nat.reduceEqDiff, Nat.add_left_cancel_iff, Nat.reduceAdd, false_and, true_and, if_false, if_true, reduceCtorEq]; repeat' split) <;> first | rfl | omega | (simp_all; done) | (simp_all; omega)
  | 15 => (simp only [Nat.reduceEqDiff, Nat.add_left_cancel_iff, Nat.reduceAdd, false_and, true_and, if_false, if_true, reduceCtorEq]; repeat' split) <;> first | rfl | omega | (simp_all; done) | (simp_all; omega)
  | 16 => (simp only [Nat.reduceEqDiff, Nat.add_left_cancel_iff, Nat.reduceAdd, false_and, true_and, if_false, if_true, reduceCtorEq]; repeat' split) <;> first | rfl | omega | (simp_all; done) | (simp_all; omega)
  | 17 => (simp only [Nat.reduceEqDiff, Nat.add_left_cancel_iff, Nat.reduceAdd, false_and, true_and, if_false, if_true, reduceCtorEq]; repeat' split) <;> first | rfl | omega | (simp_all; done) | (simp_all; omega)
  | n + 18 => (simp only [Nat.reduceEqDiff, Nat.add_left_cancel_iff, Nat.reduceAdd, false_and, true_and, if_false, if_true, reduceCtorEq]; repeat' split) <;> first | rfl | omega | (simp_all; done) | (simp_all; omega)
theorem zHV_6x {μ : zM} {h : Nat} {s b : Int} (h0 : 0 ≤ s) (h1 : s < μ (h + 5) 6) : zHV (zup μ (h + 8) s b) h = zup (zHV μ h) 6 s b := by
  funext k i
  unfold zHV zup
  match k with
  | 0 => (simp only [Nat.reduceEqDiff, Nat.add_left_cancel_iff, Nat.reduceAdd, false_and, true_and, if_false, if_true, reduceCtorEq]; repeat' split) <;> first | rfl | omega | (simp_all; done) | (simp_all; omega)
  | 1 => (simp only [Nat.reduceEqDiff, Nat.add_left_cancel_iff, Nat.reduceAdd, false_and, true_and, if_false, if_true, reduceCtorEq]; repeat' split) <;> first | rfl | omega | (simp_all; done) | (simp_all; omega)
  | 2 => (simp only [Nat.reduceEqDiff, Nat.add_left_cancel_iff, Nat.reduceAdd, false_and, true_and, if_false, if_true, reduceCtorEq]; repeat' split) <;> first | rfl | omega | (simp_all; done) | (simp_all; omega)
  | 3 => (simp only [Nat.reduceEqDiff, Nat.add_left_cancel_iff, Nat.reduceAdd, false_and, true_and, if_false, if_true, reduceCtorEq]; repeat' split) <;> first | rfl | omega | (simp_all; done) | (simp_all; omega)
  | 4 => (simp only [Nat.reduceEqDiff, Nat.add_left_cancel_iff, Nat.reduceAdd, false_and, true_and, if_false, if_true, reduceCtorEq]; repeat' split) <;> first | rfl | omega | (simp_all; done) | (simp_all; omega)
  | 5 => (simp only [Nat.reduceEqDiff, Nat.add_left_cancel_iff, Nat.reduceAdd, false_and, true_and, if_false, if_true, reduceCtorEq]; repeat' split) <;> first | rfl | omega | (simp_all; done) | (simp_all; omega)
  | 6 => (simp only [Nat.reduceEqDiff, Nat.add_left_cancel_iff, Nat.reduceAdd, false_and, true_and, if_false, if_true, reduceCtorEq]; repeat' split) <;> first | rfl | omega | (simp_all; done) | (simp_all; omega)
  | 7 => (simp only [Nat.reduceEqDiff, Nat.add_left_cancel_iff, Nat.reduceAdd, false_and, true_and, if_false, if_true, reduceCtorEq]; repeat' split) <;> first | rfl | omega | (simp_all; done) | (simp_all; omega)
  | 8 => (simp only [Nat.reduceEqDiff, Nat.add_left_cancel_iff, Nat.reduceAdd, false_and, true_and, if_false, if_true, reduceCtorEq]; repeat' split) <;> first | rfl | omega | (simp_all; done) | (simp_all; omega)
  | 9 => (simp only [Nat.reduceEqDiff, Nat.add_left_cancel_iff, Nat.reduceAdd, false_and, true_and, if_false, if_true, reduceCtorEq]; repeat' split) <;> first | rfl | omega | (simp_all; done) | (simp_all; omega)
  | 10 => (simp only [Nat.reduceEqDiff, Nat.add_left_cancel_iff, Nat.reduceAdd, false_and, true_and, if_false, if_true, reduceCtorEq]; repeat' split) <;> first | rfl | omega | (simp_all; done) | (simp_all; omega)
  | 11 => (simp only [Nat.reduceEqDiff, Nat.add_left_cancel_iff, Nat.reduceAdd, false_and, true_and, if_false, if_true, reduceCtorEq]; repeat' split) <;> first | rfl | omega | (simp_all; done) | (simp_all; omega)
  | 12 => (simp only [Nat.reduceEqDiff, Nat.add_left_cancel_iff, Nat.reduceAdd, false_and, true_and, if_false, if_true, reduceCtorEq]; repeat' split) <;> first | rfl | omega | (simp_all; done) | (simp_all; omega)
  | 13 => (simp only [Nat.reduceEqDiff, Nat.add_left_cancel_iff, Nat.reduceAdd, false_and, true_and, if_false, if_true, reduceCtorEq]; repeat' split) <;> first | rfl | omega | (simp_all; done) | (simp_all; omega)
  | 14 => (simp only [Nat.reduceEqDiff, Nat.add_left_cancel_iff, Nat.reduceAdd, false_and, true_and, if_false, if_true, reduceCtorEq]; repeat' split) <;> first | rfl | omega | (simp_all; done) | (simp_all; omega)
  | 15 => (simp only [Nat.reduceEqDiff, Nat.add_left_cancel_iff, Nat.reduceAdd, false_and, true_and, if_false, if_true, reduceCtorEq]; repeat' split) <;> first | rfl | omega | (simp_all; done) | (simp_all; omega)
  | 16 => (simp only [Nat.reduceEqDiff, Nat.add_left_cancel_iff, Nat.reduceAdd, false_and, true_and, if_false, if_true, reduceCtorEq]; repeat' split) <;> first | rfl | omega | (simp_all; done) | (simp_all; omega)
  | 17 => (simp only [Nat.reduceEqDiff, Nat.add_left_cancel_iff, Nat.reduceAdd, false_and, true_and, if_false, if_true, reduceCtorEq]; repeat' split) <;> first | rfl | omega | (simp_all; done) | (simp_all; omega)
  | n + 18 => (simp only [Nat.reduceEqDiff, Nat.add_left_cancel_iff, Nat.reduceAdd, false_and, true_and, if_false, if_true, reduceCtorEq]; repeat' split) <;> first | rfl | omega | (simp_all; done) | (simp_all; omega)
theorem zHV_8x {μ : zM} {h : Nat} {s b : Int} (h0 : 0 ≤ s) (h1 : s < μ (h + 5) 6) : zHV (zup μ (h + 10) s b) h = zup (zHV μ h) 8 s b := by
  funext k i
  unfold zHV zup
  match k with
  | 0 => (simp only [Nat.reduceEqDiff, Nat.add_left_cancel_iff, Nat.reduceAdd, false_and, true_and, if_false, if_true, reduceCtorEq]; repeat' split) <;> first | rfl | omega | (simp_all; done) | (simp_all; omega)
  | 1 => (simp only [Nat.reduceEqDiff, Nat.add_left_cancel_iff, Nat.reduceAdd, false_and, true_and, if_false, if_true, reduceCtorEq]; repeat' split) <;> first | rfl | omega | (simp_all; done) | (simp_all; omega)
  | 2 => (simp only [Nat.reduceEqDiff, Nat.add_left_cancel_iff, Nat.reduceAdd, false_and, true_and, if_false, if_true, reduceCtorEq]; repeat' split) <;> first | rfl | omega | (simp_all; done) | (simp_all; omega)
  | 3 => (simp only [Nat.reduceEqDiff, Nat.add_left_cancel_iff, Nat.reduceAdd, false_and, true_and, if_false, if_true, reduceCtorEq]; repeat' split) <;> first | rfl | omega | (simp_all; done) | (simp_all; omega)
  | 4 => (simp only [Nat.reduceEqDiff, Nat.add_left_cancel_iff, Nat.reduceAdd, false_and, true_and, if_false, if_true, reduceCtorEq]; repeat' split) <;> first | rfl | omega | (simp_all; done) | (simp_all; omega)
  | 5 => (simp only [Nat.reduceEqDiff, Nat.add_left_cancel_iff, Nat.reduceAdd, false_and, true_and, if_false, if_true, reduceCtorEq]; repeat' split) <;> first | rfl | omega | (simp_all; done) | (simp_all; omega)
  | 6 => (simp only [Nat.reduceEqDiff, Nat.add_left_cancel_iff, Nat.reduceAdd, false_and, true_and, if_false, if_true, reduceCtorEq]; repeat' split) <;> first | rfl | omega | (simp_all; done) | (simp_all; omega)
  | 7 => (simp only [Nat.reduceEqDiff, Nat.add_left_cancel_iff, Nat.reduceAdd, false_and, true_and, if_false, if_true, reduceCtorEq]; repeat' split) <;> first | rfl | omega | (simp_all; done) | (simp_all; omega)
  | 8 => (simp only [Nat.reduceEqDiff, Nat.add_left_cancel_iff, Nat.reduceAdd, false_and, true_and, if_false, if_true, reduceCtorEq]; repeat' split) <;> first | rfl | omega | (simp_all; done) | (simp_all; omega)
  | 9 => (simp only [Nat.reduceEqDiff, Nat.add_left_cancel_iff, Nat.reduceAdd, false_and, true_and, if_false, if_true, reduceCtorEq]; repeat' split) <;> first | rfl | omega | (simp_all; done) | (simp_all; omega)
  | 10 => (simp only [Nat.reduceEqDiff, Nat.add_left_cancel_iff, Nat.reduceAdd, false_and, true_and, if_false, if_true, reduceCtorEq]; repeat' split) <;> first | rfl | omega | (simp_all; done) | (simp_all; omega)
  | 11 => (simp only [Nat.reduceEqDiff, Nat.add_left_cancel_iff, Nat.reduceAdd, false_and, true_and, if_false, if_true, reduceCtorEq]; repeat' split) <;> first | rfl | omega | (simp_all; done) | (simp_all; omega)
  | 12 => (simp only [Nat.reduceEqDiff, Nat.add_left_cancel_iff, Nat.reduceAdd, false_and, true_and, if_false, if_true, reduceCtorEq]; repeat' split) <;> first | rfl | omega | (simp_all; done) | (simp_all; omega)
  | 13 => (simp only [Nat.reduceEqDiff, Nat.add_left_cancel_iff, Nat.reduceAdd, false_and, true_and, if_false, if_true, reduceCtorEq]; repeat' split) <;> first | rfl | omega | (simp_all; done) | (simp_all; omega)
  | 14 => (simp only [Nat.reduceEqDiff, Nat.add_left_cancel_iff, Nat.reduceAdd, false_and, true_and, if_false, if_true, reduceCtorEq]; repeat' split) <;> first | rfl | omega | (simp_all; done) | (simp_all; omega)
  | 15 => (simp only [Nat.reduceEqDiff, Nat.add_left_cancel_iff, Nat.reduceAdd, false_and, true_and, if_false, if_true, reduceCtorEq]; repeat' split) <;> first | rfl | omega | (simp_all; done) | (simp_all; omega)
  | 16 => (simp only [Nat.reduceEqDiff, Nat.add_left_cancel_iff, Nat.reduceAdd, false_and, true_and, if_false, if_true, reduceCtorEq]; repeat' split) <;> first | rfl | omega | (simp_all; done) | (simp_all; omega)
  | 17 => (simp only [Nat.reduceEqDiff, Nat.add_left_cancel_iff, Nat.reduceAdd, false_and, true_and, if_false, if_true, reduceCtorEq]; repeat' split) <;> first | rfl | omega | (simp_all; done) | (simp_all; omega)
  | n + 18 => (simp only [Nat.reduceEqDiff, Nat.add_left_cancel_iff, Nat.reduceAdd, false_and, true_and, if_false, if_true, reduceCtorEq]; repeat' split) <;> first | rfl | omega | (simp_all; done) | (simp_all; omega)
theorem zBV_4x {b : Int → Int} (hb : (0 ≤ b 1 ∧ b 1 ≤ 6) ∧ (0 ≤ b 5 ∧ b 5 ≤ 9) ∧ (0 ≤ b 6 ∧ b 6 < 36) ∧ (0 ≤ b 2 ∧ b 2 ≤ 5) ∧ (0 ≤ b 3 ∧ b 3 ≤ 8) ∧ (0 ≤ b 4 ∧ b 4 ≤ 4)) {s t : Int} (h0 : 0 ≤ s) (h1 : s < b 2) : zBV (zfu b (90 + 6 * s) t) = zup (zBV b) 4 s t := by
  generalize hx : (zfu b (90 + 6 * s) t) = x
  have q1 : x 1 = b 1 := by (rw [← hx]; repeat (first | rw [zfu_p (by omega)] | rw [zfu_n (by omega)]))
  have q2 : x 2 = b 2 := by (rw [← hx]; repeat (first | rw [zfu_p (by omega)] | rw [zfu_n (by omega)]))
  have q3 : x 3 = b 3 := by (rw [← hx]; repeat (first | rw [zfu_p (by omega)] | rw [zfu_n (by omega)]))
  have q4 : x 4 = b 4 := by (rw [← hx]; repeat (first | rw [zfu_p (by omega)] | rw [zfu_n (by omega)]))
  have q5 : x 5 = b 5 := by (rw [← hx]; repeat (first | rw [zfu_p (by omega)] | rw [zfu_n (by omega)]))
  have q6 : x 6 = b 6 := by (rw [← hx]; repeat (first | rw [zfu_p (by omega)] | rw [zfu_n (by omega)]))
  funext k i
  match k with
  | 0 => (show (if 0 ≤ i ∧ i < 36 then x (10 + i) else 0) = (if 0 ≤ i ∧ i < 36 then b (10 + i) else 0); repeat' split) <;> first | rfl | omega | (rw [← hx]; repeat (first | rw [zfu_p (by omega)] | rw [zfu_n (by omega)]))
  | 1 => (show (if 0 ≤ i ∧ i < 36 then x (46 + i) else 0) = (if 0 ≤ i ∧ i < 36 then b (46 + i) else 0); repeat' split) <;> first | rfl | omega | (rw [← hx]; repeat (first | rw [zfu_p (by omega)] | rw [zfu_n (by omega)]))
  | 2 => (show (if 0 ≤ i ∧ i < x 1 then x (82 + i) else 0) = (if 0 ≤ i ∧ i < b 1 then b (82 + i) else 0); rw [q1]; repeat' split) <;> first | rfl | omega | (rw [← hx]; repeat (first | rw [zfu_p (by omega)] | rw [zfu_n (by omega)]))
  | 3 => (show (if i = 0 then x 1 else if i = 1 then x 5 else if i = 2 then x 6 else if i = 3 then x 2 else if i = 4 then x 3 else if i = 5 then x 4 else 0) = (if i = 0 then b 1 else if i = 1 then b 5 else if i = 2 then b 6 else if i = 3 then b 2 else if i = 4 then b 3 else if i = 5 then b 4 else 0); rw [q1, q2, q3, q4, q5, q6]; repeat' split) <;> first | rfl | omega | (rw [← hx]; repeat (first | rw [zfu_p (by omega)] | rw [zfu_n (by omega)]))
  | 4 => (show (if 0 ≤ i ∧ i < x 2 then x (90 + 6 * i) else 0) = (if 4 = 4 ∧ i = s then t else (if 0 ≤ i ∧ i < b 2 then b (90 + 6 * i) else 0)); rw [q2]; repeat' split) <;> first | rfl | omega | (rw [← hx]; repeat (first | rw [zfu_p (by omega)] | rw [zfu_n (by omega)]))
  | 5 => (show (if 0 ≤ i ∧ i < x 2 then x (90 + 6 * i + 1) else 0) = (if 0 ≤ i ∧ i < b 2 then b (90 + 6 * i + 1) else 0); rw [q2]; repeat' split) <;> first | rfl | omega | (rw [← hx]; repeat (first | rw [zfu_p (by omega)] | rw [zfu_n (by omega)]))
  | 6 => (show (if 0 ≤ i ∧ i < x 2 then x (90 + 6 * i + 2) else 0) = (if 0 ≤ i ∧ i < b 2 then b (90 + 6 * i + 2) else 0); rw [q2]; repeat' split) <;> first | rfl | omega | (rw [← hx]; repeat (first | rw [zfu_p (by omega)] | rw [zfu_n (by omega)]))
  | 7 => (show (if 0 ≤ i ∧ i < x 2 then x (90 + 6 * i + 3) else 0) = (if 0 ≤ i ∧ i < b 2 then b (90 + 6 * i + 3) else 0); rw [q2]; repeat' split) <;> first | rfl | omega | (rw [← hx]; repeat (first | rw [zfu_p (by omega)] | rw [zfu_n (by omega)]))
  | 8 => (show (if 0 ≤ i ∧ i < x 2 then x (90 + 6 * i + 4) else 0) = (if 0 ≤ i ∧ i < b 2 then b (90 + 6 * i + 4) else 0); rw [q2]; repeat' split) <;> first | rfl | omega | (rw [← hx]; repeat (first | rw [zfu_p (by omega)] | rw [zfu_n (by omega)]))
  | 9 => (show (if 0 ≤ i ∧ i < x 2 then x (90 + 6 * i + 5) else 0) = (if 0 ≤ i ∧ i < b 2 then b (90 + 6 * i + 5) else 0); rw [q2]; repeat' split) <;> first | rfl | omega | (rw [← hx]; repeat (first | rw [zfu_p (by omega)] | rw [zfu_n (by omega)]))
  | 10 => (show (if 0 ≤ i ∧ i < x 3 then x (120 + 5 * i) else 0) = (if 0 ≤ i ∧ i < b 3 then b (120 + 5 * i) else 0); rw [q3]; repeat' split) <;> first | rfl | omega | (rw [← hx]; repeat (first | rw [zfu_p (by omega)] | rw [zfu_n (by omega)]))
  | 11 => (show (if 0 ≤ i ∧ i < x 3 then x (120 + 5 * i + 1) else 0) = (if 0 ≤ i ∧ i < b 3 then b (120 + 5 * i + 1) else 0); rw [q3]; repeat' split) <;> first | rfl | omega | (rw [← hx]; repeat (first | rw [zfu_p (by omega)] | rw [zfu_n (by omega)]))
  | 12 => (show (if 0 ≤ i ∧ i < x 3 then x (120 + 5 * i + 2) else 0) = (if 0 ≤ i ∧ i < b 3 then b (120 + 5 * i + 2) else 0); rw [q3]; repeat' split) <;> first | rfl | omega | (rw [← hx]; repeat (first | rw [zfu_p (by omega)] | rw [zfu_n (by omega)]))
  | 13 => (show (if 0 ≤ i ∧ i < x 3 then x (120 + 5 * i + 3) else 0) = (if 0 ≤ i ∧ i < b 3 then b (120 + 5 * i + 3) else 0); rw [q3]; repeat' split) <;> first | rfl | omega | (rw [← hx]; repeat (first | rw [zfu_p (by omega)] | rw [zfu_n (by omega)]))
  | 14 => (show (if 0 ≤ i ∧ i < x 3 then x (120 + 5 * i + 4) else 0) = (if 0 ≤ i ∧ i < b 3 then b (120 + 5 * i + 4) else 0); rw [q3]; repeat' split) <;> first | rfl | omega | (rw [← hx]; repeat (first | rw [zfu_p (by omega)] | rw [zfu_n (by omega)]))
  | 15 => (show (if 0 ≤ i ∧ i < x 4 then x (160 + 3 * i) else 0) = (if 0 ≤ i ∧ i < b 4 then b (160 + 3 * i) else 0); rw [q4]; repeat' split) <;> first | rfl | omega | (rw [← hx]; repeat (first | rw [zfu_p (by omega)] | rw [zfu_n (by omega)]))
  | 16 => (show (if 0 ≤ i ∧ i < x 4 then x (160 + 3 * i + 1) else 0) = (if 0 ≤ i ∧ i < b 4 then b (160 + 3 * i + 1) else 0); rw [q4]; repeat' split) <;> first | rfl | omega | (rw [← hx]; repeat (first | rw [zfu_p (by omega)] | rw [zfu_n (by omega)]))
  | 17 => (show (if 0 ≤ i ∧ i < x 4 then x (160 + 3 * i + 2) else 0) = (if 0 ≤ i ∧ i < b 4 then b (160 + 3 * i + 2) else 0); rw [q4]; repeat' split) <;> first | rfl | omega | (rw [← hx]; repeat (first | rw [zfu_p (by omega)] | rw [zfu_n (by omega)]))
  | n + 18 => (show (0 : Int) = _); simp [zup_ap, zBV]
theorem zBV_6x {b : Int → Int} (hb : (0 ≤ b 1 ∧ b 1 ≤ 6) ∧ (0 ≤ b 5 ∧ b 5 ≤ 9) ∧ (0 ≤ b 6 ∧ b 6 < 36) ∧ (0 ≤ b 2 ∧ b 2 ≤ 5) ∧ (0 ≤ b 3 ∧ b 3 ≤ 8) ∧ (0 ≤ b 4 ∧ b 4 ≤ 4)) {s t : Int} (h0 : 0 ≤ s) (h1 : s < b 2) : zBV (zfu b (90 + 6 * s + 2) t) = zup (zBV b) 6 s t := by
  generalize hx : (zfu b (90 + 6 * s + 2) t) = x
  have q1 : x 1 = b 1 := by (rw [← hx]; repeat (first | rw [zfu_p (by omega)] | rw [zfu_n (by omega)]))
  have q2 : x 2 = b 2 := by (rw [← hx]; repeat (first | rw [zfu_p (by omega)] | rw [zfu_n (by omega)]))
  have q3 : x 3 = b 3 := by (rw [← hx]; repeat (first | rw [zfu_p (by omega)] | rw [zfu_n (by omega)]))
  have q4 : x 4 = b 4 := by (rw [← hx]; repeat (first | rw [zfu_p (by omega)] | rw [zfu_n (by omega)]))
  have q5 : x 5 = b 5 := by (rw [← hx]; repeat (first | rw [zfu_p (by omega)] | rw [zfu_n (by omega)]))
  have q6 : x 6 = b 6 := by (rw [← hx]; repeat (first | rw [zfu_p (by omega)] | rw [zfu_n (by omega)]))
  funext k i
  match k with
  | 0 => (show (if 0 ≤ i ∧ i < 36 then x (10 + i) else 0) = (if 0 ≤ i ∧ i < 36 then b (10 + i) else 0); repeat' split) <;> first | rfl | omega | (rw [← hx]; repeat (first | rw [zfu_p (by omega)] | rw [zfu_n (by omega)]))
  | 1 => (show (if 0 ≤ i ∧ i < 36 then x (46 + i) else 0) = (if 0 ≤ i ∧ i < 36 then b (46 + i) else 0); repeat' split) <;> first | rfl | omega | (rw [← hx]; repeat (first | rw [zfu_p (by omega)] | rw [zfu_n (by omega)]))
  | 2 => (show (if 0 ≤ i ∧ i < x 1 then x (82 + i) else 0) = (if 0 ≤ i ∧ i < b 1 then b (82 + i) else 0); rw [q1]; repeat' split) <;> first | rfl | omega | (rw [← hx]; repeat (first | rw [zfu_p (by omega)] | rw [zfu_n (by omega)]))
  | 3 => (show (if i = 0 then x 1 else if i = 1 then x 5 else if i = 2 then x 6 else if i = 3 then x 2 else if i = 4 then x 3 else if i = 5 then x 4 else 0) = (if i = 0 then b 1 else if i = 1 then b 5 else if i = 2 then b 6 else if i = 3 then b 2 else if i = 4 then b 3 else if i = 5 then b 4 else 0); rw [q1, q2, q3, q4, q5, q6]; repeat' split) <;> first | rfl | omega | (rw [← hx]; repeat (first | rw [zfu_p (by omega)] | rw [zfu_n (by omega)]))
  | 4 => (show (if 0 ≤ i ∧ i < x 2 then x (90 + 6 * i) else 0) = (if 0 ≤ i ∧ i < b 2 then b (90 + 6 * i) else 0); rw [q2]; repeat' split) <;> first | rfl | omega | (rw [← hx]; repeat (first | rw [zfu_p (by omega)] | rw [zfu_n (by omega)]))
  | 5 => (show (if 0 ≤ i ∧ i < x 2 then x (90 + 6 * i + 1) else 0) = (if 0 ≤ i ∧ i < b 2 then b (90 + 6 * i + 1) else 0); rw [q2]; repeat' split) <;> first | rfl | omega | (rw [← hx]; repeat (first | rw [zfu_p (by omega)] | rw [zfu_n (by omega)]))
  | 6 => (show (if 0 ≤ i ∧ i < x 2 then x (90 + 6 * i + 2) else 0) = (if 6 = 6 ∧ i = s then t else (if 0 ≤ i ∧ i < b 2 then b (90 + 6 * i + 2) else 0)); rw [q2]; repeat' split) <;> first | rfl | omega | (rw [← hx]; repeat (first | rw [zfu_p (by omega)] | rw [zfu_n (by omega)]))
  | 7 => (show (if 0 ≤ i ∧ i < x 2 then x (90 + 6 * i + 3) else 0) = (if 0 ≤ i ∧ i < b 2 then b (90 + 6 * i + 3) else 0); rw [q2]; repeat' split) <;> first | rfl | omega | (rw [← hx]; repeat (first | rw [zfu_p (by omega)] | rw [zfu_n (by omega)]))
  | 8 => (show (if 0 ≤ i ∧ i < x 2 then x (90 + 6 * i + 4) else 0) = (if 0 ≤ i ∧ i < b 2 then b (90 + 6 * i + 4) else 0); rw [q2]; repeat' split) <;> first | rfl | omega | (rw [← hx]; repeat (first | rw [zfu_p (by omega)] | rw [zfu_n (by omega)]))
  | 9 => (show (if 0 ≤ i ∧ i < x 2 then x (90 + 6 * i + 5) else 0) = (if 0 ≤ i ∧ i < b 2 then b (90 + 6 * i + 5) else 0); rw [q2]; repeat' split) <;> first | rfl | omega | (rw [← hx]; repeat (first | rw [zfu_p (by omega)] | rw [zfu_n (by omega)]))
  | 10 => (show (if 0 ≤ i ∧ i < x 3 then x (120 + 5 * i) else 0) = (if 0 ≤ i ∧ i < b 3 then b (120 + 5 * i) else 0); rw [q3]; repeat' split) <;> first | rfl | omega | (rw [← hx]; repeat (first | rw [zfu_p (by omega)] | rw [zfu_n (by omega)]))
  | 11 => (show (if 0 ≤ i ∧ i < x 3 then x (120 + 5 * i + 1) else 0) = (if 0 ≤ i ∧ i < b 3 then b (120 + 5 * i + 1) else 0); rw [q3]; repeat' split) <;> first | rfl | omega | (rw [← hx]; repeat (first | rw [zfu_p (by omega)] | rw [zfu_n (by omega)]))
  | 12 => (show (if 0 ≤ i ∧ i < x 3 then x (120 + 5 * i + 2) else 0) = (if 0 ≤ i ∧ i < b 3 then b (120 + 5 * i + 2) else 0); rw [q3]; repeat' split) <;> first | rfl | omega | (rw [← hx]; repeat (first | rw [zfu_p (by omega)] | rw [zfu_n (by omega)]))
  | 13 => (show (if 0 ≤ i ∧ i < x 3 then x (120 + 5 * i + 3) else 0) = (if 0 ≤ i ∧ i < b 3 then b (120 + 5 * i + 3) else 0); rw [q3]; repeat' split) <;> first | rfl | omega | (rw [← hx]; repeat (first | rw [zfu_p (by omega)] | rw [zfu_n (by omega)]))
  | 14 => (show (if 0 ≤ i ∧ i < x 3 then x (120 + 5 * i + 4) else 0) = (if 0 ≤ i ∧ i < b 3 then b (120 + 5 * i + 4) else 0); rw [q3]; repeat' split) <;> first | rfl | omega | (rw [← hx]; repeat (first | rw [zfu_p (by omega)] | rw [zfu_n (by omega)]))
  | 15 => (show (if 0 ≤ i ∧ i < x 4 then x (160 + 3 * i) else 0) = (if 0 ≤ i ∧ i < b 4 then b (160 + 3 * i) else 0); rw [q4]; repeat' split) <;> first | rfl | omega | (rw [← hx]; repeat (first | rw [zfu_p (by omega)] | rw [zfu_n (by omega)]))
  | 16 => (show (if 0 ≤ i ∧ i < x 4 then x (160 + 3 * i + 1) else 0) = (if 0 ≤ i ∧ i < b 4 then b (160 + 3 * i + 1) else 0); rw [q4]; repeat' split) <;> first | rfl | omega | (rw [← hx]; repeat (first | rw [zfu_p (by omega)] | rw [zfu_n (by omega)]))
  | 17 => (show (if 0 ≤ i ∧ i < x 4 then x (160 + 3 * i + 2) else 0) = (if 0 ≤ i ∧ i < b 4 then b (160 + 3 * i + 2) else 0); rw [q4]; repeat' split) <;> first | rfl | omega | (rw [← hx]; repeat (first | rw [zfu_p (by omega)] | rw [zfu_n (by omega)]))
  | n + 18 => (show (0 : Int) = _); simp [zup_ap, zBV]
theorem zBV_8x {b : Int → Int} (hb : (0 ≤ b 1 ∧ b 1 ≤ 6) ∧ (0 ≤ b 5 ∧ b 5 ≤ 9) ∧ (0 ≤ b 6 ∧ b 6 < 36) ∧ (0 ≤ b 2 ∧ b 2 ≤ 5) ∧ (0 ≤ b 3 ∧ b 3 ≤ 8) ∧ (0 ≤ b 4 ∧ b 4 ≤ 4)) {s t : Int} (h0 : 0 ≤ s) (h1 : s < b 2) : zBV (zfu b (90 + 6 * s + 4) t) = zup (zBV b) 8 s t := by
  generalize hx : (zfu b (90 + 6 * s + 4) t) = x
  have q1 : x 1 = b 1 := by (rw [← hx]; repeat (first | rw [zfu_p (by omega)] | rw [zfu_n (by omega)]))
  have q2 : x 2 = b 2 := by (rw [← hx]; repeat (first | rw [zfu_p (by omega)] | rw [zfu_n (by omega)]))
  have q3 : x 3 = b 3 := by (rw [← hx]; repeat (first | rw [zfu_p (by omega)] | rw [zfu_n (by omega)]))
  have q4 : x 4 = b 4 := by (rw [← hx]; repeat (first | rw [zfu_p (by omega)] | rw [zfu_n (by omega)]))
  have q5 : x 5 = b 5 := by (rw [← hx]; repeat (first | rw [zfu_p (by omega)] | rw [zfu_n (by omega)]))
  have q6 : x 6 = b 6 := by (rw [← hx]; repeat (first | rw [zfu_p (by omega)] | rw [zfu_n (by omega)]))
  funext k i
  match k with
  | 0 => (show (if 0 ≤ i ∧ i < 36 then x (10 + i) else 0) = (if 0 ≤ i ∧ i < 36 then b (10 + i) else 0); repeat' split) <;> first | rfl | omega | (rw [← hx]; repeat (first | rw [zfu_p (by omega)] | rw [zfu_n (by omega)]))
  | 1 => (show (if 0 ≤ i ∧ i < 36 then x (46 + i) else 0) = (if 0 ≤ i ∧ i < 36 then b (46 + i) else 0); repeat' split) <;> first | rfl | omega | (rw [← hx]; repeat (first | rw [zfu_p (by omega)] | rw [zfu_n (by omega)]))
  | 2 => (show (if 0 ≤ i ∧ i < x 1 then x (82 + i) else 0) = (if 0 ≤ i ∧ i < b 1 then b (82 + i) else 0); rw [q1]; repeat' split) <;> first | rfl | omega | (rw [← hx]; repeat (first | rw [zfu_p (by omega)] | rw [zfu_n (by omega)]))
  | 3 => (show (if i = 0 then x 1 else if i = 1 then x 5 else if i = 2 then x 6 else if i = 3 then x 2 else if i = 4 then x 3 else if i = 5 then x 4 else 0) = (if i = 0 then b 1 else if i = 1 then b 5 else if i = 2 then b 6 else if i = 3 then b 2 else if i = 4 then b 3 else if i = 5 then b 4 else 0); rw [q1, q2, q3, q4, q5, q6]; repeat' split) <;> first | rfl | omega | (rw [← hx]; repeat (first | rw [zfu_p (by omega)] | rw [zfu_n (by omega)]))
  | 4 => (show (if 0 ≤ i ∧ i < x 2 then x (90 + 6 * i) else 0) = (if 0 ≤ i ∧ i < b 2 then b (90 + 6 * i) else 0); rw [q2]; repeat' split) <;> first | rfl | omega | (rw [← hx]; repeat (first | rw [zfu_p (by omega)] | rw [zfu_n (by omega)]))
  | 5 => (show (if 0 ≤ i ∧ i < x 2 then x (90 + 6 * i + 1) else 0) = (if 0 ≤ i ∧ i < b 2 then b (90 + 6 * i + 1) else 0); rw [q2]; repeat' split) <;> first | rfl | omega | (rw [← hx]; repeat (first | rw [zfu_p (by omega)] | rw [zfu_n (by omega)]))
  | 6 => (show (if 0 ≤ i ∧ i < x 2 then x (90 + 6 * i + 2) else 0) = (if 0 ≤ i ∧ i < b 2 then b (90 + 6 * i + 2) else 0); rw [q2]; repeat' split) <;> first | rfl | omega | (rw [← hx]; repeat (first | rw [zfu_p (by omega)] | rw [zfu_n (by omega)]))
  | 7 => (show (if 0 ≤ i ∧ i < x 2 then x (90 + 6 * i + 3) else 0) = (if 0 ≤ i ∧ i < b 2 then b (90 + 6 * i + 3) else 0); rw [q2]; repeat' split) <;> first | rfl | omega | (rw [← hx]; repeat (first | rw [zfu_p (by omega)] | rw [zfu_n (by omega)]))
  | 8 => (show (if 0 ≤ i ∧ i < x 2 then x (90 + 6 * i + 4) else 0) = (if 8 = 8 ∧ i = s then t else (if 0 ≤ i ∧ i < b 2 then b (90 + 6 * i + 4) else 0)); rw [q2]; repeat' split) <;> first | rfl | omega | (rw [← hx]; repeat (first | rw [zfu_p (by omega)] | rw [zfu_n (by omega)]))
  | 9 => (show (if 0 ≤ i ∧ i < x 2 then x (90 + 6 * i + 5) else 0) = (if 0 ≤ i ∧ i < b 2 then b (90 + 6 * i + 5) else 0); rw [q2]; repeat' split) <;> first | rfl | omega | (rw [← hx]; repeat (first | rw [zfu_p (by omega)] | rw [zfu_n (by omega)]))
  | 10 => (show (if 0 ≤ i ∧ i < x 3 then x (120 + 5 * i) else 0) = (if 0 ≤ i ∧ i < b 3 then b (120 + 5 * i) else 0); rw [q3]; repeat' split) <;> first | rfl | omega | (rw [← hx]; repeat (first | rw [zfu_p (by omega)] | rw [zfu_n (by omega)]))
  | 11 => (show (if 0 ≤ i ∧ i < x 3 then x (120 + 5 * i + 1) else 0) = (if 0 ≤ i ∧ i < b 3 then b (120 + 5 * i + 1) else 0); rw [q3]; repeat' split) <;> first | rfl | omega | (rw [← hx]; repeat (first | rw [zfu_p (by omega)] | rw [zfu_n (by omega)]))
  | 12 => (show (if 0 ≤ i ∧ i < x 3 then x (120 + 5 * i + 2) else 0) = (if 0 ≤ i ∧ i < b 3 then b (120 + 5 * i + 2) else 0); rw [q3]; repeat' split) <;> first | rfl | omega | (rw [← hx]; repeat (first | rw [zfu_p (by omega)] | rw [zfu_n (by omega)]))
  | 13 => (show (if 0 ≤ i ∧ i < x 3 then x (120 + 5 * i + 3) else 0) = (if 0 ≤ i ∧ i < b 3 then b (120 + 5 * i + 3) else 0); rw [q3]; repeat' split) <;> first | rfl | omega | (rw [← hx]; repeat (first | rw [zfu_p (by omega)] | rw [zfu_n (by omega)]))
  | 14 => (show (if 0 ≤ i ∧ i < x 3 then x (120 + 5 * i + 4) else 0) = (if 0 ≤ i ∧ i < b 3 then b (120 + 5 * i + 4) else 0); rw [q3]; repeat' split) <;> first | rfl | omega | (rw [← hx]; repeat (first | rw [zfu_p (by omega)] | rw [zfu_n (by omega)]))
  | 15 => (show (if 0 ≤ i ∧ i < x 4 then x (160 + 3 * i) else 0) = (if 0 ≤ i ∧ i < b 4 then b (160 + 3 * i) else 0); rw [q4]; repeat' split) <;> first | rfl | omega | (rw [← hx]; repeat (first | rw [zfu_p (by omega)] | rw [zfu_n (by omega)]))
  | 16 => (show (if 0 ≤ i ∧ i < x 4 then x (160 + 3 * i + 1) else 0) = (if 0 ≤ i ∧ i < b 4 then b (160 + 3 * i + 1) else 0); rw [q4]; repeat' split) <;> first | rfl | omega | (rw [← hx]; repeat (first | rw [zfu_p (by omega)] | rw [zfu_n (by omega)]))
  | 17 => (show (if 0 ≤ i ∧ i < x 4 then x (160 + 3 * i + 2) else 0) = (if 0 ≤ i ∧ i < b 4 then b (160 + 3 * i + 2) else 0); rw [q4]; repeat' split) <;> first | rfl | omega | (rw [← hx]; repeat (first | rw [zfu_p (by omega)] | rw [zfu_n (by omega)]))
  | n + 18 => (show (0 : Int) = _); simp [zup_ap, zBV]
/-! WHAT IS ASKED OF A NIGHT -/
def zXf (μ ν : zM) : Prop := ∀ a : Nat, (a < 23 ∨ (45 ≤ a ∧ a < 111) ∨ 348 ≤ a) → ν a = μ a
def zMf (μ ν : zM) : Prop := (∀ k, k ≠ 31 → k ≠ 32 → k ≠ 33 → k ≠ 39 → k ≠ 40 → k ≠ 41 → ν 393 k = μ 393 k) ∧ ∀ x : Nat, x ≠ 393 → (x < 402 ∨ 419 < x) → ν x = μ x
theorem zCt_2 {μ : zM} : zCt μ (-2) = zup μ 348 0 (μ 348 0 + 1) := zif_t (Or.inl rfl)
theorem zCt_3 {μ : zM} : zCt μ (-3) = zup μ 348 1 (μ 348 1 + 1) := zif_t (Or.inr (Or.inl rfl))
/-- as V, but with a thing -/
def zTw (V : zM) (t x : Int) : zM := if t = 0 then zup V 4 x (V 4 x + 10) else if t = 2 then zup V 1 x 0 else if t = 3 then zup V 8 x 0 else V
def zTf (t : Int) : Int := if t = 1 then 5 else 0
def zHe (V : zM) : Prop := ∀ i, 0 ≤ i → i < V 3 3 → V 4 i ≤ 60
theorem zTw_ok {V : zM} {t x : Int} (ok : zOK V) (he : zHe V) (ht : zTh V t x) : zOK (zTw V t x) := by
  unfold zTh at ht
  unfold zTw
  by_cases h0 : t = 0
  · rw [if_pos h0]
    refine ⟨ok.1, ⟨ok.2.1.1, fun i i0 i1 => ?_⟩, ok.2.2.1, ok.2.2.2⟩
    have p := ok.2.1.2 i i0 i1
    refine ⟨?_, p.2⟩
    by_cases q : i = x
    · subst q
      rw [zup_eq]
      have := he i i0 i1
      have := p.1
      omega
    · rw [zup_ne (Or.inr q)]; exact p.1
  · rw [if_neg h0]
    by_cases h2 : t = 2
    · rw [if_pos h2]
      refine ⟨⟨fun c c0 c1 => ?_, ok.1.2⟩, ok.2.1, ok.2.2.1, ok.2.2.2⟩
      have p := ok.1.1 c c0 c1
      refine ⟨p.1, ?_⟩
      by_cases q : c = x
      · subst q; rw [zup_eq]; decide
      · rw [zup_ne (Or.inr q)]; exact p.2
    · rw [if_neg h2]
      by_cases h3 : t = 3
      · rw [if_pos h3]
        refine ⟨ok.1, ⟨ok.2.1.1, fun i i0 i1 => ?_⟩, ok.2.2.1, ok.2.2.2⟩
        have p := ok.2.1.2 i i0 i1
        refine ⟨p.1, p.2.1, p.2.2.1, ?_, p.2.2.2.2⟩
        by_cases q : i = x
        · subst q; rw [zup_eq]; decide
        · rw [zup_ne (Or.inr q)]; exact p.2.2.2.1
      · rw [if_neg h3]; exact ok
theorem zTw_pc {V : zM} {t x : Int} : zTw V t x 3 3 = V 3 3 := by
  unfold zTw
  split
  · rfl
  · split
    · rfl
    · split <;> rfl
/-- what a night of V is, at its end -/
noncomputable def zNV (V : zM) (fan : Int) : zM := zZt V fan 40
theorem zNV_3 {V : zM} {fan s : Int} (ok : zOK V) (s0 : 0 ≤ s) (s1 : s < V 3 3) : 0 ≤ zNV V fan 3 s ∧ zNV V fan 3 s ≤ 40 := (zZt_i (fan := fan) (ok.2.1.2 s s0 s1).2.1.1 40).2.2.2.2.1
theorem zNV_4 {V : zM} {fan s : Int} (ok : zOK V) (s0 : 0 ≤ s) (s1 : s < V 3 3) : 0 ≤ zNV V fan 4 s ∧ zNV V fan 4 s ≤ 40 := (zZt_i (fan := fan) (ok.2.1.2 s s0 s1).2.1.1 40).2.2.2.2.2
noncomputable def zWR (V : zM) (fan : Int) : Int := zWo (V 3 3) (zNV V fan 3)
noncomputable def zGR (V : zM) (fan : Int) : Int := zGo (V 3 3) (zNV V fan 3)
theorem zWR_b {V : zM} {fan : Int} (ok : zOK V) : 0 ≤ zWR V fan ∧ zWR V fan ≤ 40 := zWo_b ok.2.1.1 (fun i i0 i1 => zNV_3 ok i0 i1)
theorem zGR_b {V : zM} {fan : Int} (ok : zOK V) : 0 ≤ zGR V fan ∧ zGR V fan ≤ 200 := zGo_b ok.2.1.1 (fun i i0 i1 => zNV_3 ok i0 i1)
set_option maxRecDepth 100000 in
set_option maxHeartbeats 4000000 in
theorem k_X11_pass {l : Launch} {E : zE} {h : Nat} {μ : zM} {fan : Int} (hh : zAt zp2 h) (hd : h + 22 ≤ 111 ∨ 189 ≤ h) (ok : zOK (zHV μ h)) (hfan : 0 ≤ fan ∧ fan ≤ 100) : Ct l E yX11_pass cX11_pass 3 none ({ frames := 5, cells := 0, slots := 0, locals := 115 }) [zR 0, zR h, zI fan] μ (fun r ν => r = none ∧ zNi (zHV μ h) ν 111 h (zNV (zHV μ h) fan) 40 ∧ ∀ a : Nat, (a < 111 ∨ 189 ≤ a) → ν a = μ a) := by
  refine Ct.of RX11 [zR 0, zR h, zI fan] (by decide +kernel) rfl ⟨rfl, rfl⟩ rfl (Nat.le_of_ble_eq_true rfl) (fun X hX hc0 ha0 => ?_)
  subst hX
  refine z_aload_0 dX11_pass_0 ?_
  refine z_getF 111 111 rfl f_X11_37 zl_0 rfl rfl dX11_pass_1 ?_
  refine z_getF 126 15 rfl f_X11_319 zl_111 rfl rfl dX11_pass_4 ?_
  refine z_aload_1 dX11_pass_7 ?_
  refine z_iload_2 dX11_pass_8 ?_
  refine z_callV2 (k_X0_listenIn zq0_126 hh (by omega) ok hfan) m_X0_listenIn zl_126 l_X11_323 (Nat.le_of_ble_eq_true rfl) ⟨Nat.le_of_ble_eq_true rfl, Nat.le_of_ble_eq_true rfl⟩ ⟨rfl, rfl⟩ dX11_pass_9 (fun r μ1 hp => ?_)
  obtain ⟨rfl, hE, -, hr⟩ := hp
  obtain ⟨ζ, hζ9⟩ : ∃ z, z = μ1 := ⟨_, rfl⟩
  subst hζ9
  have hV : zHV ζ h = zHV μ h := zHV_fr (a := 126) (n := 43) (fun a ha => hr a (by omega)) (by omega)
  refine z_aload_0 dX11_pass_12 ?_
  refine z_getF 111 111 rfl f_X11_37 zl_0 rfl rfl dX11_pass_13 ?_
  refine z_aload_1 dX11_pass_16 ?_
  refine z_callV1 (k_X4_pass (fan := fan) zq4_111 hh (by omega) (by rw [hV]; exact ok) hfan (by rw [hV]; exact hE)) m_X4_pass zl_111 l_X11_328 (Nat.le_of_ble_eq_true rfl) ⟨Nat.le_of_ble_eq_true rfl, Nat.le_of_ble_eq_true rfl⟩ ⟨rfl, rfl⟩ dX11_pass_17 (fun r μ1 hp => ?_)
  obtain ⟨rfl, hni, hf⟩ := hp
  rw [hV] at hni
  exact z_vret dX11_pass_20 (⟨rfl, hni, fun a ha => (hf a (by omega)).trans (hr a (by omega))⟩)
set_option maxRecDepth 100000 in
set_option maxHeartbeats 4000000 in
theorem k_X11_passWith {l : Launch} {E : zE} {μ : zM} (hm : zXpre μ) {t x : Int} (ht : zTh (zHV μ 1) t x) (he : zHe (zHV μ 1)) : Ct l E yX11_passWith cX11_passWith 3 none ({ frames := 6, cells := 0, slots := 0, locals := 137 }) [zR 0, zI t, zI x] μ (fun r ν => r = none ∧ zNi (zTw (zHV μ 1) t x) ν 111 23 (zNV (zTw (zHV μ 1) t x) (zTf t)) 40 ∧ zHV ν 23 = zTw (zHV μ 1) t x ∧ ∀ a : Nat, (a < 23 ∨ (45 ≤ a ∧ a < 111) ∨ 189 ≤ a) → ν a = μ a) := by
  refine Ct.of RX11 [zR 0, zI t, zI x] (by decide +kernel) rfl ⟨rfl, rfl⟩ rfl (Nat.le_of_ble_eq_true rfl) (fun X hX hc0 ha0 => ?_)
  subst hX
  refine z_aload_0 dX11_passWith_0 ?_
  refine z_getF 23 23 rfl f_X11_16 zl_0 rfl rfl dX11_passWith_1 ?_
  refine z_aload_0 dX11_passWith_4 ?_
  refine z_getF 1 1 rfl f_X11_10 zl_0 rfl rfl dX11_passWith_5 ?_
  refine z_callV1 (k_X2_copy zq2_23 zq2_1 (by omega) hm.1) m_X2_copy zl_23 l_X11_159 (Nat.le_of_ble_eq_true rfl) ⟨Nat.le_of_ble_eq_true rfl, Nat.le_of_ble_eq_true rfl⟩ ⟨rfl, rfl⟩ dX11_passWith_8 (fun r μ1 hp => ?_)
  obtain ⟨rfl, hV0, hF0⟩ := hp
  obtain ⟨ζ0, hζ9⟩ : ∃ z, z = μ1 := ⟨_, rfl⟩
  subst hζ9
  have p5 : ζ0 28 6 = μ 6 6 := by have := congrFun (congrFun hV0 3) 3; exact this
  refine z_iload_1 dX11_passWith_11 ?_
  refine z_ifne (tgt := 35) dX11_passWith_12 (by decide) (fun h_12 => ?_) (fun h_12 => ?_)
  · refine z_iload_1 dX11_passWith_35 ?_
    refine z_iconst dX11_passWith_36 (by decide) ?_
    refine z_icmpne (tgt := 56) dX11_passWith_37 (by decide) (fun h_37 => ?_) (fun h_37 => ?_)
    · refine z_iload_1 dX11_passWith_56 ?_
      refine z_iconst dX11_passWith_57 (by decide) ?_
      refine z_icmpne (tgt := 74) dX11_passWith_58 (by decide) (fun h_58 => ?_) (fun h_58 => ?_)
      · have ht1 : t = 1 := by unfold zTh at ht; omega
        have hV : zHV ζ0 23 = zTw (zHV μ 1) t x := by rw [hV0]; unfold zTw; rw [if_neg (by omega), if_neg (by omega), if_neg (by omega)]
        have hok : zOK (zHV ζ0 23) := by rw [hV]; exact zTw_ok hm.1 he ht
        have hfr : ∀ a : Nat, (a < 23 ∨ 45 ≤ a) → ζ0 a = μ a := fun a ha => hF0 a (by omega)
        refine z_aload_0 dX11_passWith_74 ?_
        refine z_aload_0 dX11_passWith_75 ?_
        refine z_getF 23 23 rfl f_X11_16 zl_0 rfl rfl dX11_passWith_76 ?_
        refine z_iload_1 dX11_passWith_79 ?_
        refine z_iconst dX11_passWith_80 (by decide) ?_
        refine z_icmpne (tgt := 88) dX11_passWith_81 (by decide) (fun h_81 => ?_) (fun h_81 => ?_)
        · exact absurd ht1 h_81
        · refine z_iconst dX11_passWith_84 (by decide) ?_
          refine z_goto (tgt := 89) dX11_passWith_85 (by decide) ?_
          refine z_callV2 (k_X11_pass zq2_23 (Or.inl (by decide)) hok (by decide)) m_X11_pass zl_0 l_X11_196 (Nat.le_of_ble_eq_true rfl) ⟨Nat.le_of_ble_eq_true rfl, Nat.le_of_ble_eq_true rfl⟩ ⟨rfl, rfl⟩ dX11_passWith_89 (fun r μ1 hp => ?_)
          obtain ⟨rfl, hni, hr⟩ := hp
          exact z_vret dX11_passWith_92 (⟨rfl, by rw [hV, show (5 : Int) = zTf t from (if_pos ht1).symm] at hni; exact hni, (zHV_fr (a := 111) (n := 78) (fun a ha => hr a (by omega)) (by decide)).trans hV, fun a ha => (hr a (by omega)).trans (hfr a (by omega))⟩)
      · have hx : 0 ≤ x ∧ x < μ 6 6 := by unfold zTh at ht; have pc3 : zHV μ 1 3 3 = μ 6 6 := rfl; omega
        have np := hm.1.2.1.1
        have pc3 : zHV μ 1 3 3 = μ 6 6 := rfl
        refine z_aload_0 dX11_passWith_61 ?_
        refine z_getF 23 23 rfl f_X11_16 zl_0 rfl rfl dX11_passWith_62 ?_
        refine z_getF 28 5 rfl f_X11_103 zl_23 rfl rfl dX11_passWith_65 ?_
        refine z_getF 33 5 rfl f_X11_333 zl_28 rfl rfl dX11_passWith_68 ?_
        refine z_iload_2 dX11_passWith_71 ?_
        refine z_iconst dX11_passWith_72 (by decide) ?_
        refine z_iast zl_33 (by omega) (by omega) dX11_passWith_73 ?_
        generalize hζ : zup ζ0 33 x 0 = ζ
        replace hζ := hζ.symm
        have hV : zHV ζ 23 = zTw (zHV μ 1) t x := by rw [hζ]; rw [zHV_8x (h := 23) hx.1 (by rw [p5]; exact hx.2), hV0]; unfold zTw; rw [if_neg (by omega), if_neg (by omega), if_pos (by omega)]
        have hok : zOK (zHV ζ 23) := by rw [hV]; exact zTw_ok hm.1 he ht
        have hfr : ∀ a : Nat, (a < 23 ∨ 45 ≤ a) → ζ a = μ a := fun a ha => by rw [hζ]; (repeat (first | rw [zup_eq] | rw [zup_row (by omega)] | rw [zup_ne (Or.inr (by omega))])); exact hF0 a (by omega)
        refine z_aload_0 dX11_passWith_74 ?_
        refine z_aload_0 dX11_passWith_75 ?_
        refine z_getF 23 23 rfl f_X11_16 zl_0 rfl rfl dX11_passWith_76 ?_
        refine z_iload_1 dX11_passWith_79 ?_
        refine z_iconst dX11_passWith_80 (by decide) ?_
        refine z_icmpne (tgt := 88) dX11_passWith_81 (by decide) (fun h_81 => ?_) (fun h_81 => ?_)
        · refine z_iconst dX11_passWith_88 (by decide) ?_
          refine z_callV2 (k_X11_pass zq2_23 (Or.inl (by decide)) hok (by decide)) m_X11_pass zl_0 l_X11_196 (Nat.le_of_ble_eq_true rfl) ⟨Nat.le_of_ble_eq_true rfl, Nat.le_of_ble_eq_true rfl⟩ ⟨rfl, rfl⟩ dX11_passWith_89 (fun r μ1 hp => ?_)
          obtain ⟨rfl, hni, hr⟩ := hp
          exact z_vret dX11_passWith_92 (⟨rfl, by rw [hV, show (0 : Int) = zTf t from (if_neg (by omega)).symm] at hni; exact hni, (zHV_fr (a := 111) (n := 78) (fun a ha => hr a (by omega)) (by decide)).trans hV, fun a ha => (hr a (by omega)).trans (hfr a (by omega))⟩)
        · exact absurd h_81 (by omega)
    · have hx : 0 ≤ x ∧ x < 36 := by unfold zTh at ht; omega
      refine z_aload_0 dX11_passWith_40 ?_
      refine z_getF 23 23 rfl f_X11_16 zl_0 rfl rfl dX11_passWith_41 ?_
      refine z_getF 24 1 rfl f_X11_76 zl_23 rfl rfl dX11_passWith_44 ?_
      refine z_getF 26 2 rfl f_X11_274 zl_24 rfl rfl dX11_passWith_47 ?_
      refine z_iload_2 dX11_passWith_50 ?_
      refine z_iconst dX11_passWith_51 (by decide) ?_
      refine z_iast zl_26 (by omega) (by omega) dX11_passWith_52 ?_
      refine z_goto (tgt := 74) dX11_passWith_53 (by decide) ?_
      generalize hζ : zup ζ0 26 x 0 = ζ
      replace hζ := hζ.symm
      have hV : zHV ζ 23 = zTw (zHV μ 1) t x := by rw [hζ]; rw [zHV_c (h := 23) hx.1 hx.2, hV0]; unfold zTw; rw [if_neg (by omega), if_pos (by omega)]
      have hok : zOK (zHV ζ 23) := by rw [hV]; exact zTw_ok hm.1 he ht
      have hfr : ∀ a : Nat, (a < 23 ∨ 45 ≤ a) → ζ a = μ a := fun a ha => by rw [hζ]; (repeat (first | rw [zup_eq] | rw [zup_row (by omega)] | rw [zup_ne (Or.inr (by omega))])); exact hF0 a (by omega)
      refine z_aload_0 dX11_passWith_74 ?_
      refine z_aload_0 dX11_passWith_75 ?_
      refine z_getF 23 23 rfl f_X11_16 zl_0 rfl rfl dX11_passWith_76 ?_
      refine z_iload_1 dX11_passWith_79 ?_
      refine z_iconst dX11_passWith_80 (by decide) ?_
      refine z_icmpne (tgt := 88) dX11_passWith_81 (by decide) (fun h_81 => ?_) (fun h_81 => ?_)
      · refine z_iconst dX11_passWith_88 (by decide) ?_
        refine z_callV2 (k_X11_pass zq2_23 (Or.inl (by decide)) hok (by decide)) m_X11_pass zl_0 l_X11_196 (Nat.le_of_ble_eq_true rfl) ⟨Nat.le_of_ble_eq_true rfl, Nat.le_of_ble_eq_true rfl⟩ ⟨rfl, rfl⟩ dX11_passWith_89 (fun r μ1 hp => ?_)
        obtain ⟨rfl, hni, hr⟩ := hp
        exact z_vret dX11_passWith_92 (⟨rfl, by rw [hV, show (0 : Int) = zTf t from (if_neg (by omega)).symm] at hni; exact hni, (zHV_fr (a := 111) (n := 78) (fun a ha => hr a (by omega)) (by decide)).trans hV, fun a ha => (hr a (by omega)).trans (hfr a (by omega))⟩)
      · exact absurd h_81 (by omega)
  · have hx : 0 ≤ x ∧ x < μ 6 6 := by unfold zTh at ht; have pc3 : zHV μ 1 3 3 = μ 6 6 := rfl; omega
    have e4 : ζ0 29 x = zHV μ 1 4 x := by rw [← hV0]; exact (zHV_4 (h := 23) hx.1 (by rw [p5]; exact hx.2)).symm
    have np := hm.1.2.1.1
    have pc3 : zHV μ 1 3 3 = μ 6 6 := rfl
    have h4 := (hm.1.2.1.2 x hx.1 hx.2).1
    refine z_aload_0 dX11_passWith_15 ?_
    refine z_getF 23 23 rfl f_X11_16 zl_0 rfl rfl dX11_passWith_16 ?_
    refine z_getF 28 5 rfl f_X11_103 zl_23 rfl rfl dX11_passWith_19 ?_
    refine z_getF 29 1 rfl f_X11_330 zl_28 rfl rfl dX11_passWith_22 ?_
    refine z_iload_2 dX11_passWith_25 ?_
    refine z_dup2 dX11_passWith_26 rfl rfl ?_
    refine z_iald zl_29 (by omega) (by omega) dX11_passWith_27 ?_
    refine z_bipush dX11_passWith_28 (by decide) ?_
    refine z_iadd dX11_passWith_30 (by omega) ?_
    refine z_iast zl_29 (by omega) (by omega) dX11_passWith_31 ?_
    refine z_goto (tgt := 74) dX11_passWith_32 (by decide) ?_
    generalize hζ : zup ζ0 29 x (ζ0 29 x + 10) = ζ
    replace hζ := hζ.symm
    have hV : zHV ζ 23 = zTw (zHV μ 1) t x := by rw [hζ]; rw [zHV_4x (h := 23) hx.1 (by rw [p5]; exact hx.2), hV0, show ζ0 29 x = zHV μ 1 4 x by rw [← hV0]; exact (zHV_4 (h := 23) hx.1 (by rw [p5]; exact hx.2)).symm]; exact (if_pos h_12).symm
    have hok : zOK (zHV ζ 23) := by rw [hV]; exact zTw_ok hm.1 he ht
    have hfr : ∀ a : Nat, (a < 23 ∨ 45 ≤ a) → ζ a = μ a := fun a ha => by rw [hζ]; (repeat (first | rw [zup_eq] | rw [zup_row (by omega)] | rw [zup_ne (Or.inr (by omega))])); exact hF0 a (by omega)
    refine z_aload_0 dX11_passWith_74 ?_
    refine z_aload_0 dX11_passWith_75 ?_
    refine z_getF 23 23 rfl f_X11_16 zl_0 rfl rfl dX11_passWith_76 ?_
    refine z_iload_1 dX11_passWith_79 ?_
    refine z_iconst dX11_passWith_80 (by decide) ?_
    refine z_icmpne (tgt := 88) dX11_passWith_81 (by decide) (fun h_81 => ?_) (fun h_81 => ?_)
    · refine z_iconst dX11_passWith_88 (by decide) ?_
      refine z_callV2 (k_X11_pass zq2_23 (Or.inl (by decide)) hok (by decide)) m_X11_pass zl_0 l_X11_196 (Nat.le_of_ble_eq_true rfl) ⟨Nat.le_of_ble_eq_true rfl, Nat.le_of_ble_eq_true rfl⟩ ⟨rfl, rfl⟩ dX11_passWith_89 (fun r μ1 hp => ?_)
      obtain ⟨rfl, hni, hr⟩ := hp
      exact z_vret dX11_passWith_92 (⟨rfl, by rw [hV, show (0 : Int) = zTf t from (if_neg (by omega)).symm] at hni; exact hni, (zHV_fr (a := 111) (n := 78) (fun a ha => hr a (by omega)) (by decide)).trans hV, fun a ha => (hr a (by omega)).trans (hfr a (by omega))⟩)
    · exact absurd h_81 (by omega)
set_option maxRecDepth 100000 in
set_option maxHeartbeats 4000000 in
theorem k_X11_slept {l : Launch} {E : zE} {μ : zM} (hm : zXpre μ) {s : Int} : Ct l E yX11_slept cX11_slept 2 (some .int) ({ frames := 6, cells := 0, slots := 0, locals := 137 }) [zR 0, zI s] μ (fun r ν => (¬ (0 ≤ s ∧ s < zHV μ 1 3 3) ∧ r = some (zI (-2)) ∧ ν = zCt μ (-2)) ∨ ((0 ≤ s ∧ s < zHV μ 1 3 3) ∧ r = some (zI ((zNV (zHV μ 1) 0) 3 s)) ∧ zXf μ ν)) := by
  refine Ct.of RX11 [zR 0, zI s] (by decide +kernel) rfl ⟨rfl, rfl⟩ rfl (Nat.le_of_ble_eq_true rfl) (fun X hX hc0 ha0 => ?_)
  subst hX
  refine z_aload_0 dX11_slept_0 ?_
  refine z_getF 1 1 rfl f_X11_10 zl_0 rfl rfl dX11_slept_1 ?_
  refine z_getF 6 5 rfl f_X11_103 zl_1 rfl rfl dX11_slept_4 ?_
  refine z_iload_1 dX11_slept_7 ?_
  refine z_callV1 (k_X5_has (h := 1) zq2_1 hm.1) m_X5_has zl_6 l_X11_193 (Nat.le_of_ble_eq_true rfl) ⟨Nat.le_of_ble_eq_true rfl, Nat.le_of_ble_eq_true rfl⟩ ⟨rfl, rfl⟩ dX11_slept_8 (fun r μ1 hp => ?_)
  obtain ⟨rfl, hv⟩ := hp
  replace hv := hv.symm
  subst hv
  rw [show μ (1 + 5) 6 = zHV μ 1 3 3 from rfl]
  refine z_ifne (tgt := 21) dX11_slept_11 (by decide) (fun h_11 => ?_) (fun h_11 => ?_)
  · replace h_11 := zb_n.mp h_11
    refine z_aload_0 dX11_slept_21 ?_
    refine z_aload_0 dX11_slept_22 ?_
    refine z_getF 1 1 rfl f_X11_10 zl_0 rfl rfl dX11_slept_23 ?_
    refine z_iconst dX11_slept_26 (by decide) ?_
    refine z_callV2 (k_X11_pass zq2_1 (Or.inl (by decide)) hm.1 (by decide)) m_X11_pass zl_0 l_X11_196 (Nat.le_of_ble_eq_true rfl) ⟨Nat.le_of_ble_eq_true rfl, Nat.le_of_ble_eq_true rfl⟩ ⟨rfl, rfl⟩ dX11_slept_27 (fun r μ1 hp => ?_)
    obtain ⟨rfl, hni, hr⟩ := hp
    have hxf : zXf μ μ1 := fun a ha => hr a (by omega)
    have np := hm.1.2.1.1
    have pc3 : zHV μ 1 3 3 = μ 6 6 := rfl
    have hc6 : μ1 6 6 = μ 6 6 := by rw [hr 6 (by decide)]
    refine z_aload_0 dX11_slept_30 ?_
    refine z_getF 111 111 rfl f_X11_37 zl_0 rfl rfl dX11_slept_31 ?_
    refine z_getF 112 1 rfl f_X11_200 zl_111 rfl rfl dX11_slept_34 ?_
    refine z_iload_1 dX11_slept_37 ?_
    refine z_iald zl_112 (by omega) (by omega) dX11_slept_38 ?_
    exact z_iret dX11_slept_39 (Or.inr ⟨h_11, congrArg (fun z => (some (zI z) : Option zAV)) (hni.1 s h_11.1 h_11.2).1.2.1, hxf⟩)
  · replace h_11 := zb_0.mp h_11
    refine z_aload_0 dX11_slept_14 ?_
    refine z_bipush dX11_slept_15 (by decide) ?_
    refine z_callV1 (k_X11_counted hm.2) m_X11_counted zl_0 l_X11_86 (Nat.le_of_ble_eq_true rfl) ⟨Nat.le_of_ble_eq_true rfl, Nat.le_of_ble_eq_true rfl⟩ ⟨rfl, rfl⟩ dX11_slept_17 (fun r μ1 hp => ?_)
    obtain ⟨rfl, hv⟩ := hp
    replace hv := hv.symm
    subst hv
    exact z_iret dX11_slept_20 (Or.inl ⟨by first | exact h_11, rfl, rfl⟩)
set_option maxRecDepth 100000 in
set_option maxHeartbeats 4000000 in
theorem k_X11_is {l : Launch} {E : zE} {μ : zM} (hm : zXpre μ) {s t : Int} : Ct l E yX11_is cX11_is 3 (some .int) ({ frames := 6, cells := 0, slots := 0, locals := 137 }) [zR 0, zI s, zI t] μ (fun r ν => (¬ ((0 ≤ s ∧ s < zHV μ 1 3 3) ∧ 0 ≤ t ∧ t ≤ 39) ∧ r = some (zI (-2)) ∧ ν = zCt μ (-2)) ∨ (((0 ≤ s ∧ s < zHV μ 1 3 3) ∧ 0 ≤ t ∧ t ≤ 39) ∧ r = some (zI ((zNV (zHV μ 1) 0) 11 (40 * s + t))) ∧ zXf μ ν)) := by
  refine Ct.of RX11 [zR 0, zI s, zI t] (by decide +kernel) rfl ⟨rfl, rfl⟩ rfl (Nat.le_of_ble_eq_true rfl) (fun X hX hc0 ha0 => ?_)
  subst hX
  refine z_aload_0 dX11_is_0 ?_
  refine z_getF 1 1 rfl f_X11_10 zl_0 rfl rfl dX11_is_1 ?_
  refine z_getF 6 5 rfl f_X11_103 zl_1 rfl rfl dX11_is_4 ?_
  refine z_iload_1 dX11_is_7 ?_
  refine z_callV1 (k_X5_has (h := 1) zq2_1 hm.1) m_X5_has zl_6 l_X11_193 (Nat.le_of_ble_eq_true rfl) ⟨Nat.le_of_ble_eq_true rfl, Nat.le_of_ble_eq_true rfl⟩ ⟨rfl, rfl⟩ dX11_is_8 (fun r μ1 hp => ?_)
  obtain ⟨rfl, hv⟩ := hp
  replace hv := hv.symm
  subst hv
  rw [show μ (1 + 5) 6 = zHV μ 1 3 3 from rfl]
  refine z_ifeq (tgt := 24) dX11_is_11 (by decide) (fun h_11 => ?_) (fun h_11 => ?_)
  · replace h_11 := zb_0.mp h_11
    refine z_aload_0 dX11_is_24 ?_
    refine z_bipush dX11_is_25 (by decide) ?_
    refine z_callV1 (k_X11_counted hm.2) m_X11_counted zl_0 l_X11_86 (Nat.le_of_ble_eq_true rfl) ⟨Nat.le_of_ble_eq_true rfl, Nat.le_of_ble_eq_true rfl⟩ ⟨rfl, rfl⟩ dX11_is_27 (fun r μ1 hp => ?_)
    obtain ⟨rfl, hv⟩ := hp
    replace hv := hv.symm
    subst hv
    exact z_iret dX11_is_30 (Or.inl ⟨by first | exact fun q => h_11 q.1 | exact fun q => h_21 q.2, rfl, rfl⟩)
  · replace h_11 := zb_n.mp h_11
    refine z_iload_2 dX11_is_14 ?_
    refine z_iconst dX11_is_15 (by decide) ?_
    refine z_bipush dX11_is_16 (by decide) ?_
    refine z_callS3 (k_X11_isIn) m_X11_isIn l_X11_174 (Nat.le_of_ble_eq_true rfl) ⟨Nat.le_of_ble_eq_true rfl, Nat.le_of_ble_eq_true rfl⟩ ⟨rfl, rfl⟩ dX11_is_18 (fun r μ1 hp => ?_)
    obtain ⟨rfl, hv⟩ := hp
    replace hv := hv.symm
    subst hv
    refine z_ifne (tgt := 31) dX11_is_21 (by decide) (fun h_21 => ?_) (fun h_21 => ?_)
    · replace h_21 := zb_n.mp h_21
      refine z_aload_0 dX11_is_31 ?_
      refine z_aload_0 dX11_is_32 ?_
      refine z_getF 1 1 rfl f_X11_10 zl_0 rfl rfl dX11_is_33 ?_
      refine z_iconst dX11_is_36 (by decide) ?_
      refine z_callV2 (k_X11_pass zq2_1 (Or.inl (by decide)) hm.1 (by decide)) m_X11_pass zl_0 l_X11_196 (Nat.le_of_ble_eq_true rfl) ⟨Nat.le_of_ble_eq_true rfl, Nat.le_of_ble_eq_true rfl⟩ ⟨rfl, rfl⟩ dX11_is_37 (fun r μ1 hp => ?_)
      obtain ⟨rfl, hni, hr⟩ := hp
      have hxf : zXf μ μ1 := fun a ha => hr a (by omega)
      have np := hm.1.2.1.1
      have pc3 : zHV μ 1 3 3 = μ 6 6 := rfl
      have hc6 : μ1 6 6 = μ 6 6 := by rw [hr 6 (by decide)]
      refine z_aload_0 dX11_is_40 ?_
      refine z_getF 111 111 rfl f_X11_37 zl_0 rfl rfl dX11_is_41 ?_
      refine z_getF 120 9 rfl f_X11_203 zl_111 rfl rfl dX11_is_44 ?_
      refine z_iload_1 dX11_is_47 ?_
      refine z_row (111 + 10 + s.toNat) (by omega) zl_120 (by omega) (by omega) dX11_is_48 ?_
      refine z_iload_2 dX11_is_49 ?_
      refine z_iald (zN_see zq4_111 h_11.1 (by omega)) (by omega) (by omega) dX11_is_50 ?_
      exact z_iret dX11_is_51 (Or.inr ⟨⟨h_11, h_21⟩, congrArg (fun z => (some (zI z) : Option zAV)) ((hni.1 s h_11.1 h_11.2).2 t h_21.1 (by omega)), hxf⟩)
    · replace h_21 := zb_0.mp h_21
      refine z_aload_0 dX11_is_24 ?_
      refine z_bipush dX11_is_25 (by decide) ?_
      refine z_callV1 (k_X11_counted hm.2) m_X11_counted zl_0 l_X11_86 (Nat.le_of_ble_eq_true rfl) ⟨Nat.le_of_ble_eq_true rfl, Nat.le_of_ble_eq_true rfl⟩ ⟨rfl, rfl⟩ dX11_is_27 (fun r μ1 hp => ?_)
      obtain ⟨rfl, hv⟩ := hp
      replace hv := hv.symm
      subst hv
      exact z_iret dX11_is_30 (Or.inl ⟨by first | exact fun q => h_11 q.1 | exact fun q => h_21 q.2, rfl, rfl⟩)
set_option maxRecDepth 100000 in
set_option maxHeartbeats 4000000 in
theorem k_X11_wakes {l : Launch} {E : zE} {μ : zM} (hm : zXpre μ) {s k : Int} : Ct l E yX11_wakes cX11_wakes 3 (some .int) ({ frames := 6, cells := 0, slots := 0, locals := 137 }) [zR 0, zI s, zI k] μ (fun r ν => (¬ ((0 ≤ s ∧ s < zHV μ 1 3 3) ∧ -1 ≤ k) ∧ r = some (zI (-10)) ∧ ν = zCt μ (-2)) ∨ (((0 ≤ s ∧ s < zHV μ 1 3 3) ∧ -1 ≤ k) ∧ r = some (zI (zif (k = -1) ((zNV (zHV μ 1) 0) 4 s) (zif (k < (zNV (zHV μ 1) 0) 4 s) ((zNV (zHV μ 1) 0) 10 (40 * s + k)) (-5)))) ∧ zXf μ ν)) := by
  refine Ct.of RX11 [zR 0, zI s, zI k] (by decide +kernel) rfl ⟨rfl, rfl⟩ rfl (Nat.le_of_ble_eq_true rfl) (fun X hX hc0 ha0 => ?_)
  subst hX
  refine z_aload_0 dX11_wakes_0 ?_
  refine z_getF 1 1 rfl f_X11_10 zl_0 rfl rfl dX11_wakes_1 ?_
  refine z_getF 6 5 rfl f_X11_103 zl_1 rfl rfl dX11_wakes_4 ?_
  refine z_iload_1 dX11_wakes_7 ?_
  refine z_callV1 (k_X5_has (h := 1) zq2_1 hm.1) m_X5_has zl_6 l_X11_193 (Nat.le_of_ble_eq_true rfl) ⟨Nat.le_of_ble_eq_true rfl, Nat.le_of_ble_eq_true rfl⟩ ⟨rfl, rfl⟩ dX11_wakes_8 (fun r μ1 hp => ?_)
  obtain ⟨rfl, hv⟩ := hp
  replace hv := hv.symm
  subst hv
  rw [show μ (1 + 5) 6 = zHV μ 1 3 3 from rfl]
  refine z_ifeq (tgt := 19) dX11_wakes_11 (by decide) (fun h_11 => ?_) (fun h_11 => ?_)
  · replace h_11 := zb_0.mp h_11
    refine z_aload_0 dX11_wakes_19 ?_
    refine z_bipush dX11_wakes_20 (by decide) ?_
    refine z_bipush dX11_wakes_22 (by decide) ?_
    refine z_callV2 (k_X11_refused (by decide) hm.2) m_X11_refused zl_0 l_X11_116 (Nat.le_of_ble_eq_true rfl) ⟨Nat.le_of_ble_eq_true rfl, Nat.le_of_ble_eq_true rfl⟩ ⟨rfl, rfl⟩ dX11_wakes_24 (fun r μ1 hp => ?_)
    obtain ⟨rfl, hv⟩ := hp
    replace hv := hv.symm
    subst hv
    exact z_iret dX11_wakes_27 (Or.inl ⟨by first | exact fun q => h_11 q.1 | exact fun q => by have := q.2; omega, rfl, zCt_2.symm⟩)
  · replace h_11 := zb_n.mp h_11
    refine z_iload_2 dX11_wakes_14 ?_
    refine z_iconst dX11_wakes_15 (by decide) ?_
    refine z_icmpge (tgt := 28) dX11_wakes_16 (by decide) (fun h_16 => ?_) (fun h_16 => ?_)
    · refine z_aload_0 dX11_wakes_28 ?_
      refine z_aload_0 dX11_wakes_29 ?_
      refine z_getF 1 1 rfl f_X11_10 zl_0 rfl rfl dX11_wakes_30 ?_
      refine z_iconst dX11_wakes_33 (by decide) ?_
      refine z_callV2 (k_X11_pass zq2_1 (Or.inl (by decide)) hm.1 (by decide)) m_X11_pass zl_0 l_X11_196 (Nat.le_of_ble_eq_true rfl) ⟨Nat.le_of_ble_eq_true rfl, Nat.le_of_ble_eq_true rfl⟩ ⟨rfl, rfl⟩ dX11_wakes_34 (fun r μ1 hp => ?_)
      obtain ⟨rfl, hni, hr⟩ := hp
      have hxf : zXf μ μ1 := fun a ha => hr a (by omega)
      have np := hm.1.2.1.1
      have pc3 : zHV μ 1 3 3 = μ 6 6 := rfl
      have hc6 : μ1 6 6 = μ 6 6 := by rw [hr 6 (by decide)]
      have z1 := (hni.1 s h_11.1 h_11.2).1
      have g2 := z1.2.2.1
      have g5 := z1.2.2.2.2.2
      have w4 := zNV_4 (fan := 0) hm.1 h_11.1 h_11.2
      refine z_iload_2 dX11_wakes_37 ?_
      refine z_iconst dX11_wakes_38 (by decide) ?_
      refine z_icmpne (tgt := 52) dX11_wakes_39 (by decide) (fun h_39 => ?_) (fun h_39 => ?_)
      · refine z_iload_2 dX11_wakes_52 ?_
        refine z_aload_0 dX11_wakes_53 ?_
        refine z_getF 111 111 rfl f_X11_37 zl_0 rfl rfl dX11_wakes_54 ?_
        refine z_getF 113 2 rfl f_X11_206 zl_111 rfl rfl dX11_wakes_57 ?_
        refine z_iload_1 dX11_wakes_60 ?_
        refine z_iald zl_113 (by omega) (by omega) dX11_wakes_61 ?_
        rw [g2]
        refine z_icmpge (tgt := 79) dX11_wakes_62 (by decide) (fun h_62 => ?_) (fun h_62 => ?_)
        · refine z_bipush dX11_wakes_79 (by decide) ?_
          exact z_iret dX11_wakes_81 (Or.inr ⟨⟨h_11, by omega⟩, congrArg (fun z => (some (zI z) : Option zAV)) (by rw [zif_f h_39, zif_f (by omega)]), hxf⟩)
        · refine z_aload_0 dX11_wakes_65 ?_
          refine z_getF 111 111 rfl f_X11_37 zl_0 rfl rfl dX11_wakes_66 ?_
          refine z_getF 114 3 rfl f_X11_209 zl_111 rfl rfl dX11_wakes_69 ?_
          refine z_iload_1 dX11_wakes_72 ?_
          refine z_row (111 + 4 + s.toNat) (by omega) zl_114 (by omega) (by omega) dX11_wakes_73 ?_
          refine z_iload_2 dX11_wakes_74 ?_
          refine z_iald (zN_wok zq4_111 h_11.1 (by omega)) (by omega) (by omega) dX11_wakes_75 ?_
          refine z_goto (tgt := 81) dX11_wakes_76 (by decide) ?_
          exact z_iret dX11_wakes_81 (Or.inr ⟨⟨h_11, by omega⟩, congrArg (fun z => (some (zI z) : Option zAV)) (by rw [zif_f h_39, zif_t (by omega)]; exact g5 k (by omega) (by omega)), hxf⟩)
      · refine z_aload_0 dX11_wakes_42 ?_
        refine z_getF 111 111 rfl f_X11_37 zl_0 rfl rfl dX11_wakes_43 ?_
        refine z_getF 113 2 rfl f_X11_206 zl_111 rfl rfl dX11_wakes_46 ?_
        refine z_iload_1 dX11_wakes_49 ?_
        refine z_iald zl_113 (by omega) (by omega) dX11_wakes_50 ?_
        exact z_iret dX11_wakes_51 (Or.inr ⟨⟨h_11, by omega⟩, congrArg (fun z => (some (zI z) : Option zAV)) (by rw [zif_t h_39]; exact g2), hxf⟩)
    · refine z_aload_0 dX11_wakes_19 ?_
      refine z_bipush dX11_wakes_20 (by decide) ?_
      refine z_bipush dX11_wakes_22 (by decide) ?_
      refine z_callV2 (k_X11_refused (by decide) hm.2) m_X11_refused zl_0 l_X11_116 (Nat.le_of_ble_eq_true rfl) ⟨Nat.le_of_ble_eq_true rfl, Nat.le_of_ble_eq_true rfl⟩ ⟨rfl, rfl⟩ dX11_wakes_24 (fun r μ1 hp => ?_)
      obtain ⟨rfl, hv⟩ := hp
      replace hv := hv.symm
      subst hv
      exact z_iret dX11_wakes_27 (Or.inl ⟨by first | exact fun q => h_11 q.1 | exact fun q => by have := q.2; omega, rfl, zCt_2.symm⟩)
set_option maxRecDepth 100000 in
set_option maxHeartbeats 4000000 in
theorem k_X11_woke {l : Launch} {E : zE} {μ : zM} (hm : zXpre μ) {s b : Int} : Ct l E yX11_woke cX11_woke 3 (some .int) ({ frames := 6, cells := 0, slots := 0, locals := 137 }) [zR 0, zI s, zI b] μ (fun r ν => (¬ ((0 ≤ s ∧ s < zHV μ 1 3 3) ∧ (0 ≤ b ∧ b < zHV μ 1 3 3) ∧ s ≠ b) ∧ r = some (zI (-2)) ∧ ν = zCt μ (-2)) ∨ (((0 ≤ s ∧ s < zHV μ 1 3 3) ∧ (0 ≤ b ∧ b < zHV μ 1 3 3) ∧ s ≠ b) ∧ r = some (zI (zWb (zNV (zHV μ 1) 0) s b)) ∧ zXf μ ν)) := by
  refine Ct.of RX11 [zR 0, zI s, zI b] (by decide +kernel) rfl ⟨rfl, rfl⟩ rfl (Nat.le_of_ble_eq_true rfl) (fun X hX hc0 ha0 => ?_)
  subst hX
  refine z_aload_0 dX11_woke_0 ?_
  refine z_getF 1 1 rfl f_X11_10 zl_0 rfl rfl dX11_woke_1 ?_
  refine z_getF 6 5 rfl f_X11_103 zl_1 rfl rfl dX11_woke_4 ?_
  refine z_iload_1 dX11_woke_7 ?_
  refine z_callV1 (k_X5_has (h := 1) zq2_1 hm.1) m_X5_has zl_6 l_X11_193 (Nat.le_of_ble_eq_true rfl) ⟨Nat.le_of_ble_eq_true rfl, Nat.le_of_ble_eq_true rfl⟩ ⟨rfl, rfl⟩ dX11_woke_8 (fun r μ1 hp => ?_)
  obtain ⟨rfl, hv⟩ := hp
  replace hv := hv.symm
  subst hv
  rw [show μ (1 + 5) 6 = zHV μ 1 3 3 from rfl]
  refine z_ifeq (tgt := 33) dX11_woke_11 (by decide) (fun h_11 => ?_) (fun h_11 => ?_)
  · replace h_11 := zb_0.mp h_11
    refine z_aload_0 dX11_woke_33 ?_
    refine z_bipush dX11_woke_34 (by decide) ?_
    refine z_callV1 (k_X11_counted hm.2) m_X11_counted zl_0 l_X11_86 (Nat.le_of_ble_eq_true rfl) ⟨Nat.le_of_ble_eq_true rfl, Nat.le_of_ble_eq_true rfl⟩ ⟨rfl, rfl⟩ dX11_woke_36 (fun r μ1 hp => ?_)
    obtain ⟨rfl, hv⟩ := hp
    replace hv := hv.symm
    subst hv
    exact z_iret dX11_woke_39 (Or.inl ⟨by first | exact fun q => h_11 q.1 | exact fun q => h_25 q.2.1 | exact fun q => q.2.2 h_30, rfl, rfl⟩)
  · replace h_11 := zb_n.mp h_11
    refine z_aload_0 dX11_woke_14 ?_
    refine z_getF 1 1 rfl f_X11_10 zl_0 rfl rfl dX11_woke_15 ?_
    refine z_getF 6 5 rfl f_X11_103 zl_1 rfl rfl dX11_woke_18 ?_
    refine z_iload_2 dX11_woke_21 ?_
    refine z_callV1 (k_X5_has (h := 1) zq2_1 hm.1) m_X5_has zl_6 l_X11_193 (Nat.le_of_ble_eq_true rfl) ⟨Nat.le_of_ble_eq_true rfl, Nat.le_of_ble_eq_true rfl⟩ ⟨rfl, rfl⟩ dX11_woke_22 (fun r μ1 hp => ?_)
    obtain ⟨rfl, hv⟩ := hp
    replace hv := hv.symm
    subst hv
    rw [show μ (1 + 5) 6 = zHV μ 1 3 3 from rfl]
    refine z_ifeq (tgt := 33) dX11_woke_25 (by decide) (fun h_25 => ?_) (fun h_25 => ?_)
    · replace h_25 := zb_0.mp h_25
      refine z_aload_0 dX11_woke_33 ?_
      refine z_bipush dX11_woke_34 (by decide) ?_
      refine z_callV1 (k_X11_counted hm.2) m_X11_counted zl_0 l_X11_86 (Nat.le_of_ble_eq_true rfl) ⟨Nat.le_of_ble_eq_true rfl, Nat.le_of_ble_eq_true rfl⟩ ⟨rfl, rfl⟩ dX11_woke_36 (fun r μ1 hp => ?_)
      obtain ⟨rfl, hv⟩ := hp
      replace hv := hv.symm
      subst hv
      exact z_iret dX11_woke_39 (Or.inl ⟨by first | exact fun q => h_11 q.1 | exact fun q => h_25 q.2.1 | exact fun q => q.2.2 h_30, rfl, rfl⟩)
    · replace h_25 := zb_n.mp h_25
      refine z_iload_1 dX11_woke_28 ?_
      refine z_iload_2 dX11_woke_29 ?_
      refine z_icmpne (tgt := 40) dX11_woke_30 (by decide) (fun h_30 => ?_) (fun h_30 => ?_)
      · refine z_aload_0 dX11_woke_40 ?_
        refine z_aload_0 dX11_woke_41 ?_
        refine z_getF 1 1 rfl f_X11_10 zl_0 rfl rfl dX11_woke_42 ?_
        refine z_iconst dX11_woke_45 (by decide) ?_
        refine z_callV2 (k_X11_pass zq2_1 (Or.inl (by decide)) hm.1 (by decide)) m_X11_pass zl_0 l_X11_196 (Nat.le_of_ble_eq_true rfl) ⟨Nat.le_of_ble_eq_true rfl, Nat.le_of_ble_eq_true rfl⟩ ⟨rfl, rfl⟩ dX11_woke_46 (fun r μ1 hp => ?_)
        obtain ⟨rfl, hni, hr⟩ := hp
        have hxf : zXf μ μ1 := fun a ha => hr a (by omega)
        have np := hm.1.2.1.1
        have pc3 : zHV μ 1 3 3 = μ 6 6 := rfl
        have hc6 : μ1 6 6 = μ 6 6 := by rw [hr 6 (by decide)]
        refine z_aload_0 dX11_woke_49 ?_
        refine z_getF 111 111 rfl f_X11_37 zl_0 rfl rfl dX11_woke_50 ?_
        refine z_iload_1 dX11_woke_53 ?_
        refine z_iload_2 dX11_woke_54 ?_
        refine z_callV2 (k_X4_wakingsBy (S := (zNV (zHV μ 1) 0)) zq4_111 h_25.1 (by omega) (hni.1 b h_25.1 h_25.2).1 (zNV_4 hm.1 h_25.1 h_25.2) (zZt_v hm.1 (by decide) h_25.1 h_25.2 40 (by decide))) m_X4_wakingsBy zl_111 l_X11_212 (Nat.le_of_ble_eq_true rfl) ⟨Nat.le_of_ble_eq_true rfl, Nat.le_of_ble_eq_true rfl⟩ ⟨rfl, rfl⟩ dX11_woke_55 (fun r μ1 hp => ?_)
        obtain ⟨rfl, hv⟩ := hp
        replace hv := hv.symm
        subst hv
        exact z_iret dX11_woke_58 (Or.inr ⟨⟨h_11, h_25, h_30⟩, rfl, hxf⟩)
      · refine z_aload_0 dX11_woke_33 ?_
        refine z_bipush dX11_woke_34 (by decide) ?_
        refine z_callV1 (k_X11_counted hm.2) m_X11_counted zl_0 l_X11_86 (Nat.le_of_ble_eq_true rfl) ⟨Nat.le_of_ble_eq_true rfl, Nat.le_of_ble_eq_true rfl⟩ ⟨rfl, rfl⟩ dX11_woke_36 (fun r μ1 hp => ?_)
        obtain ⟨rfl, hv⟩ := hp
        replace hv := hv.symm
        subst hv
        exact z_iret dX11_woke_39 (Or.inl ⟨by first | exact fun q => h_11 q.1 | exact fun q => h_25 q.2.1 | exact fun q => q.2.2 h_30, rfl, rfl⟩)
set_option maxRecDepth 100000 in
set_option maxHeartbeats 4000000 in
theorem k_X11_night {l : Launch} {E : zE} {μ : zM} (hm : zXpre μ) {w : Int} : Ct l E yX11_night cX11_night 2 (some .int) ({ frames := 6, cells := 0, slots := 0, locals := 137 }) [zR 0, zI w] μ (fun r ν => (¬ (w = 0 ∨ w = 1) ∧ r = some (zI (-2)) ∧ ν = zCt μ (-2)) ∨ ((w = 0 ∨ w = 1) ∧ r = some (zI (zif (w = 0) (zWR (zHV μ 1) 0) (zGR (zHV μ 1) 0))) ∧ zXf μ ν)) := by
  refine Ct.of RX11 [zR 0, zI w] (by decide +kernel) rfl ⟨rfl, rfl⟩ rfl (Nat.le_of_ble_eq_true rfl) (fun X hX hc0 ha0 => ?_)
  subst hX
  refine z_iload_1 dX11_night_0 ?_
  refine z_ifeq (tgt := 16) dX11_night_1 (by decide) (fun h_1 => ?_) (fun h_1 => ?_)
  · refine z_aload_0 dX11_night_16 ?_
    refine z_aload_0 dX11_night_17 ?_
    refine z_getF 1 1 rfl f_X11_10 zl_0 rfl rfl dX11_night_18 ?_
    refine z_iconst dX11_night_21 (by decide) ?_
    refine z_callV2 (k_X11_pass zq2_1 (Or.inl (by decide)) hm.1 (by decide)) m_X11_pass zl_0 l_X11_196 (Nat.le_of_ble_eq_true rfl) ⟨Nat.le_of_ble_eq_true rfl, Nat.le_of_ble_eq_true rfl⟩ ⟨rfl, rfl⟩ dX11_night_22 (fun r μ1 hp => ?_)
    obtain ⟨rfl, hni, hr⟩ := hp
    have hxf : zXf μ μ1 := fun a ha => hr a (by omega)
    have np := hm.1.2.1.1
    have pc3 : zHV μ 1 3 3 = μ 6 6 := rfl
    have hc6 : μ1 6 6 = μ 6 6 := by rw [hr 6 (by decide)]
    refine z_iload_1 dX11_night_25 ?_
    refine z_ifne (tgt := 39) dX11_night_26 (by decide) (fun h_26 => ?_) (fun h_26 => ?_)
    · refine z_aload_0 dX11_night_39 ?_
      refine z_getF 111 111 rfl f_X11_37 zl_0 rfl rfl dX11_night_40 ?_
      refine z_callV0 (k_X4_good (h := 1) zq4_111 zq2_1 hni.2.1 (by rw [hc6]; exact np) (fun i i0 i1 => by rw [(hni.1 i i0 (by rw [hc6] at i1; exact i1)).1.2.1]; exact zNV_3 hm.1 i0 (by rw [hc6] at i1; exact i1))) m_X4_good zl_111 l_X11_218 (Nat.le_of_ble_eq_true rfl) ⟨Nat.le_of_ble_eq_true rfl, Nat.le_of_ble_eq_true rfl⟩ ⟨rfl, rfl⟩ dX11_night_43 (fun r μ1 hp => ?_)
      obtain ⟨rfl, hv⟩ := hp
      replace hv := hv.symm
      subst hv
      have hgo : zGo (μ1 6 6) (μ1 112) = zGR (zHV μ 1) 0 := by rw [hc6]; exact zGo_c (fun i i0 i1 => (hni.1 i i0 i1).1.2.1)
      exact z_iret dX11_night_46 (by first | exact Or.inr ⟨by omega, congrArg (fun z => (some (zI z) : Option zAV)) (hwo.trans (zif_t (by omega)).symm), hxf⟩ | exact Or.inr ⟨by omega, congrArg (fun z => (some (zI z) : Option zAV)) (hgo.trans (zif_f (by omega)).symm), hxf⟩)
    · refine z_aload_0 dX11_night_29 ?_
      refine z_getF 111 111 rfl f_X11_37 zl_0 rfl rfl dX11_night_30 ?_
      refine z_callV0 (k_X4_worst (h := 1) zq4_111 zq2_1 hni.2.1 (by rw [hc6]; exact np) (fun i i0 i1 => by rw [(hni.1 i i0 (by rw [hc6] at i1; exact i1)).1.2.1]; exact zNV_3 hm.1 i0 (by rw [hc6] at i1; exact i1))) m_X4_worst zl_111 l_X11_215 (Nat.le_of_ble_eq_true rfl) ⟨Nat.le_of_ble_eq_true rfl, Nat.le_of_ble_eq_true rfl⟩ ⟨rfl, rfl⟩ dX11_night_33 (fun r μ1 hp => ?_)
      obtain ⟨rfl, hv⟩ := hp
      replace hv := hv.symm
      subst hv
      have hwo : zWo (μ1 6 6) (μ1 112) = zWR (zHV μ 1) 0 := by rw [hc6]; exact zWo_c (fun i i0 i1 => (hni.1 i i0 i1).1.2.1)
      refine z_goto (tgt := 46) dX11_night_36 (by decide) ?_
      exact z_iret dX11_night_46 (by first | exact Or.inr ⟨by omega, congrArg (fun z => (some (zI z) : Option zAV)) (hwo.trans (zif_t (by omega)).symm), hxf⟩ | exact Or.inr ⟨by omega, congrArg (fun z => (some (zI z) : Option zAV)) (hgo.trans (zif_f (by omega)).symm), hxf⟩)
  · refine z_iload_1 dX11_night_4 ?_
    refine z_iconst dX11_night_5 (by decide) ?_
    refine z_icmpeq (tgt := 16) dX11_night_6 (by decide) (fun h_6 => ?_) (fun h_6 => ?_)
    · refine z_aload_0 dX11_night_16 ?_
      refine z_aload_0 dX11_night_17 ?_
      refine z_getF 1 1 rfl f_X11_10 zl_0 rfl rfl dX11_night_18 ?_
      refine z_iconst dX11_night_21 (by decide) ?_
      refine z_callV2 (k_X11_pass zq2_1 (Or.inl (by decide)) hm.1 (by decide)) m_X11_pass zl_0 l_X11_196 (Nat.le_of_ble_eq_true rfl) ⟨Nat.le_of_ble_eq_true rfl, Nat.le_of_ble_eq_true rfl⟩ ⟨rfl, rfl⟩ dX11_night_22 (fun r μ1 hp => ?_)
      obtain ⟨rfl, hni, hr⟩ := hp
      have hxf : zXf μ μ1 := fun a ha => hr a (by omega)
      have np := hm.1.2.1.1
      have pc3 : zHV μ 1 3 3 = μ 6 6 := rfl
      have hc6 : μ1 6 6 = μ 6 6 := by rw [hr 6 (by decide)]
      refine z_iload_1 dX11_night_25 ?_
      refine z_ifne (tgt := 39) dX11_night_26 (by decide) (fun h_26 => ?_) (fun h_26 => ?_)
      · refine z_aload_0 dX11_night_39 ?_
        refine z_getF 111 111 rfl f_X11_37 zl_0 rfl rfl dX11_night_40 ?_
        refine z_callV0 (k_X4_good (h := 1) zq4_111 zq2_1 hni.2.1 (by rw [hc6]; exact np) (fun i i0 i1 => by rw [(hni.1 i i0 (by rw [hc6] at i1; exact i1)).1.2.1]; exact zNV_3 hm.1 i0 (by rw [hc6] at i1; exact i1))) m_X4_good zl_111 l_X11_218 (Nat.le_of_ble_eq_true rfl) ⟨Nat.le_of_ble_eq_true rfl, Nat.le_of_ble_eq_true rfl⟩ ⟨rfl, rfl⟩ dX11_night_43 (fun r μ1 hp => ?_)
        obtain ⟨rfl, hv⟩ := hp
        replace hv := hv.symm
        subst hv
        have hgo : zGo (μ1 6 6) (μ1 112) = zGR (zHV μ 1) 0 := by rw [hc6]; exact zGo_c (fun i i0 i1 => (hni.1 i i0 i1).1.2.1)
        exact z_iret dX11_night_46 (by first | exact Or.inr ⟨by omega, congrArg (fun z => (some (zI z) : Option zAV)) (hwo.trans (zif_t (by omega)).symm), hxf⟩ | exact Or.inr ⟨by omega, congrArg (fun z => (some (zI z) : Option zAV)) (hgo.trans (zif_f (by omega)).symm), hxf⟩)
      · refine z_aload_0 dX11_night_29 ?_
        refine z_getF 111 111 rfl f_X11_37 zl_0 rfl rfl dX11_night_30 ?_
        refine z_callV0 (k_X4_worst (h := 1) zq4_111 zq2_1 hni.2.1 (by rw [hc6]; exact np) (fun i i0 i1 => by rw [(hni.1 i i0 (by rw [hc6] at i1; exact i1)).1.2.1]; exact zNV_3 hm.1 i0 (by rw [hc6] at i1; exact i1))) m_X4_worst zl_111 l_X11_215 (Nat.le_of_ble_eq_true rfl) ⟨Nat.le_of_ble_eq_true rfl, Nat.le_of_ble_eq_true rfl⟩ ⟨rfl, rfl⟩ dX11_night_33 (fun r μ1 hp => ?_)
        obtain ⟨rfl, hv⟩ := hp
        replace hv := hv.symm
        subst hv
        have hwo : zWo (μ1 6 6) (μ1 112) = zWR (zHV μ 1) 0 := by rw [hc6]; exact zWo_c (fun i i0 i1 => (hni.1 i i0 i1).1.2.1)
        refine z_goto (tgt := 46) dX11_night_36 (by decide) ?_
        exact z_iret dX11_night_46 (by first | exact Or.inr ⟨by omega, congrArg (fun z => (some (zI z) : Option zAV)) (hwo.trans (zif_t (by omega)).symm), hxf⟩ | exact Or.inr ⟨by omega, congrArg (fun z => (some (zI z) : Option zAV)) (hgo.trans (zif_f (by omega)).symm), hxf⟩)
    · refine z_aload_0 dX11_night_9 ?_
      refine z_bipush dX11_night_10 (by decide) ?_
      refine z_callV1 (k_X11_counted hm.2) m_X11_counted zl_0 l_X11_86 (Nat.le_of_ble_eq_true rfl) ⟨Nat.le_of_ble_eq_true rfl, Nat.le_of_ble_eq_true rfl⟩ ⟨rfl, rfl⟩ dX11_night_12 (fun r μ1 hp => ?_)
      obtain ⟨rfl, hv⟩ := hp
      replace hv := hv.symm
      subst hv
      exact z_iret dX11_night_15 (Or.inl ⟨by omega, rfl, rfl⟩)
set_option maxRecDepth 100000 in
set_option maxHeartbeats 4000000 in
theorem k_X11_temper {l : Launch} {E : zE} {μ : zM} (hm : zXpre μ) {s k : Int} : Ct l E yX11_temper cX11_temper 3 (some .int) ({ frames := 6, cells := 0, slots := 0, locals := 137 }) [zR 0, zI s, zI k] μ (fun r ν => (¬ ((0 ≤ s ∧ s < zHV μ 1 3 3) ∧ 0 ≤ k ∧ k ≤ 14) ∧ r = some (zI (-2)) ∧ ν = zCt μ (-2)) ∨ (((0 ≤ s ∧ s < zHV μ 1 3 3) ∧ 0 ≤ k ∧ k ≤ 14) ∧ r = some (zI (k * zLk ((zNV (zHV μ 1) 0) 3 s))) ∧ zXf μ ν)) := by
  refine Ct.of RX11 [zR 0, zI s, zI k] (by decide +kernel) rfl ⟨rfl, rfl⟩ rfl (Nat.le_of_ble_eq_true rfl) (fun X hX hc0 ha0 => ?_)
  subst hX
  refine z_aload_0 dX11_temper_0 ?_
  refine z_getF 1 1 rfl f_X11_10 zl_0 rfl rfl dX11_temper_1 ?_
  refine z_getF 6 5 rfl f_X11_103 zl_1 rfl rfl dX11_temper_4 ?_
  refine z_iload_1 dX11_temper_7 ?_
  refine z_callV1 (k_X5_has (h := 1) zq2_1 hm.1) m_X5_has zl_6 l_X11_193 (Nat.le_of_ble_eq_true rfl) ⟨Nat.le_of_ble_eq_true rfl, Nat.le_of_ble_eq_true rfl⟩ ⟨rfl, rfl⟩ dX11_temper_8 (fun r μ1 hp => ?_)
  obtain ⟨rfl, hv⟩ := hp
  replace hv := hv.symm
  subst hv
  rw [show μ (1 + 5) 6 = zHV μ 1 3 3 from rfl]
  refine z_ifeq (tgt := 24) dX11_temper_11 (by decide) (fun h_11 => ?_) (fun h_11 => ?_)
  · replace h_11 := zb_0.mp h_11
    refine z_aload_0 dX11_temper_24 ?_
    refine z_bipush dX11_temper_25 (by decide) ?_
    refine z_callV1 (k_X11_counted hm.2) m_X11_counted zl_0 l_X11_86 (Nat.le_of_ble_eq_true rfl) ⟨Nat.le_of_ble_eq_true rfl, Nat.le_of_ble_eq_true rfl⟩ ⟨rfl, rfl⟩ dX11_temper_27 (fun r μ1 hp => ?_)
    obtain ⟨rfl, hv⟩ := hp
    replace hv := hv.symm
    subst hv
    exact z_iret dX11_temper_30 (Or.inl ⟨by first | exact fun q => h_11 q.1 | exact fun q => h_21 q.2, rfl, rfl⟩)
  · replace h_11 := zb_n.mp h_11
    refine z_iload_2 dX11_temper_14 ?_
    refine z_iconst dX11_temper_15 (by decide) ?_
    refine z_bipush dX11_temper_16 (by decide) ?_
    refine z_callS3 (k_X11_isIn) m_X11_isIn l_X11_174 (Nat.le_of_ble_eq_true rfl) ⟨Nat.le_of_ble_eq_true rfl, Nat.le_of_ble_eq_true rfl⟩ ⟨rfl, rfl⟩ dX11_temper_18 (fun r μ1 hp => ?_)
    obtain ⟨rfl, hv⟩ := hp
    replace hv := hv.symm
    subst hv
    refine z_ifne (tgt := 31) dX11_temper_21 (by decide) (fun h_21 => ?_) (fun h_21 => ?_)
    · replace h_21 := zb_n.mp h_21
      refine z_aload_0 dX11_temper_31 ?_
      refine z_aload_0 dX11_temper_32 ?_
      refine z_getF 1 1 rfl f_X11_10 zl_0 rfl rfl dX11_temper_33 ?_
      refine z_iconst dX11_temper_36 (by decide) ?_
      refine z_callV2 (k_X11_pass zq2_1 (Or.inl (by decide)) hm.1 (by decide)) m_X11_pass zl_0 l_X11_196 (Nat.le_of_ble_eq_true rfl) ⟨Nat.le_of_ble_eq_true rfl, Nat.le_of_ble_eq_true rfl⟩ ⟨rfl, rfl⟩ dX11_temper_37 (fun r μ1 hp => ?_)
      obtain ⟨rfl, hni, hr⟩ := hp
      have hxf : zXf μ μ1 := fun a ha => hr a (by omega)
      have np := hm.1.2.1.1
      have pc3 : zHV μ 1 3 3 = μ 6 6 := rfl
      have hc6 : μ1 6 6 = μ 6 6 := by rw [hr 6 (by decide)]
      have g1 := (hni.1 s h_11.1 h_11.2).1.2.1
      have w3 := zNV_3 (fan := 0) hm.1 h_11.1 h_11.2
      refine z_iload_2 dX11_temper_40 ?_
      refine z_aload_0 dX11_temper_41 ?_
      refine z_getF 111 111 rfl f_X11_37 zl_0 rfl rfl dX11_temper_42 ?_
      refine z_iload_1 dX11_temper_45 ?_
      refine z_callV1 (k_X4_lack zq4_111 h_11.1 (by omega) (by rw [g1]; exact w3)) m_X4_lack zl_111 l_X11_283 (Nat.le_of_ble_eq_true rfl) ⟨Nat.le_of_ble_eq_true rfl, Nat.le_of_ble_eq_true rfl⟩ ⟨rfl, rfl⟩ dX11_temper_46 (fun r μ1 hp => ?_)
      obtain ⟨rfl, hv⟩ := hp
      replace hv := hv.symm
      subst hv
      have lk : 0 ≤ zLk (μ1 (111 + 1) s) ∧ zLk (μ1 (111 + 1) s) ≤ 24 := by unfold zLk; rw [g1]; omega
      have mb : 0 ≤ k * zLk (μ1 (111 + 1) s) ∧ k * zLk (μ1 (111 + 1) s) ≤ 14 * 24 := ⟨Int.mul_nonneg h_21.1 lk.1, Int.mul_le_mul h_21.2 lk.2 lk.1 (by decide)⟩
      refine z_imul dX11_temper_49 (by omega) ?_
      exact z_iret dX11_temper_50 (Or.inr ⟨⟨h_11, h_21⟩, congrArg (fun z => (some (zI z) : Option zAV)) (by rw [g1]), hxf⟩)
    · replace h_21 := zb_0.mp h_21
      refine z_aload_0 dX11_temper_24 ?_
      refine z_bipush dX11_temper_25 (by decide) ?_
      refine z_callV1 (k_X11_counted hm.2) m_X11_counted zl_0 l_X11_86 (Nat.le_of_ble_eq_true rfl) ⟨Nat.le_of_ble_eq_true rfl, Nat.le_of_ble_eq_true rfl⟩ ⟨rfl, rfl⟩ dX11_temper_27 (fun r μ1 hp => ?_)
      obtain ⟨rfl, hv⟩ := hp
      replace hv := hv.symm
      subst hv
      exact z_iret dX11_temper_30 (Or.inl ⟨by first | exact fun q => h_11 q.1 | exact fun q => h_21 q.2, rfl, rfl⟩)
/-- the first of the nights 1 to 14 on which two lack so much -/
def zQl (f : Int → Int) (c l r : Int) : Prop := ∃ g, zG2 f c g ∧ ((r = -1 ∧ ∀ n, 1 ≤ n → n ≤ 14 → n * g < l) ∨ (1 ≤ r ∧ r ≤ 14 ∧ l ≤ r * g ∧ ∀ n, 1 ≤ n → n < r → n * g < l))
theorem zG2_c {f g : Int → Int} {c x : Int} (h : ∀ i : Int, 0 ≤ i → i < c → f i = g i) (q : zG2 f c x) : zG2 g c x := by
  refine ⟨q.1, fun a b a0 ab bc => ?_, ?_⟩
  · rw [← h a a0 (by omega), ← h b (by omega) bc]; exact q.2.1 a b a0 ab bc
  · rcases q.2.2 with e | ⟨a, b, a0, ab, bc, e⟩
    · exact Or.inl e
    · exact Or.inr ⟨a, b, a0, ab, bc, by rw [← h a a0 (by omega), ← h b (by omega) bc]; exact e⟩
theorem zG2_b {f : Int → Int} {c g : Int} (h : zG2 f c g) (hf : ∀ i, 0 ≤ i → i < c → 0 ≤ f i ∧ f i ≤ 40) : 0 ≤ g ∧ g ≤ 48 := by
  refine ⟨h.1, ?_⟩
  rcases h.2.2 with q | ⟨a, b, a0, ab, bc, q⟩
  · omega
  · have := hf a a0 (by omega)
    have := hf b (by omega) bc
    unfold zLk at q
    omega
theorem zQl_u {f : Int → Int} {c l r r2 : Int} (h : zQl f c l r) (h2 : zQl f c l r2) : r = r2 := by
  obtain ⟨g, g1, g2⟩ := h
  obtain ⟨k, k1, k2⟩ := h2
  have e : g = k := by
    have a1 : g ≤ k := by
      rcases g1.2.2 with q | ⟨a, b, a0, ab, bc, q⟩
      · have := k1.1; omega
      · have := k1.2.1 a b a0 ab bc; omega
    have a2 : k ≤ g := by
      rcases k1.2.2 with q | ⟨a, b, a0, ab, bc, q⟩
      · have := g1.1; omega
      · have := g1.2.1 a b a0 ab bc; omega
    omega
  subst e
  rcases g2 with ⟨rfl, a⟩ | ⟨a1, a2, a3, a4⟩ <;> rcases k2 with ⟨rfl, b⟩ | ⟨b1, b2, b3, b4⟩
  · rfl
  · have := a r2 b1 b2; omega
  · have := b r a1 a2; omega
  · by_cases q : r < r2
    · have := b4 r a1 q; omega
    · by_cases q2 : r2 < r
      · have := a4 r2 b1 q2; omega
      · omega
set_option maxRecDepth 100000 in
set_option maxHeartbeats 4000000 in
theorem k_X11_quarrel {l : Launch} {E : zE} {μ : zM} (hm : zXpre μ) {l9 : Int} : Ct l E yX11_quarrel cX11_quarrel 4 (some .int) ({ frames := 6, cells := 0, slots := 0, locals := 137 }) [zR 0, zI l9] μ (fun r ν => (¬ (1 ≤ l9 ∧ l9 ≤ 999) ∧ r = some (zI (-2)) ∧ ν = zCt μ (-2)) ∨ ((1 ≤ l9 ∧ l9 ≤ 999) ∧ (∃ z, r = some (zI z) ∧ zQl ((zNV (zHV μ 1) 0) 3) (zHV μ 1 3 3) l9 z) ∧ zXf μ ν)) := by
  refine Ct.of RX11 [zR 0, zI l9, zU, zU] (by decide +kernel) rfl ⟨rfl, rfl⟩ rfl (Nat.le_of_ble_eq_true rfl) (fun X hX hc0 ha0 => ?_)
  subst hX
  have J : (1 ≤ l9 ∧ l9 ≤ 999) → ∀ (μ1 : zM) (g : Int), zXf μ μ1 → (0 ≤ g ∧ g ≤ 100000) → zG2 ((zNV (zHV μ 1) 0) 3) (zHV μ 1 3 3) g → MW X E cX11_quarrel RX11 ({ frames := 6, cells := 0, slots := 0, locals := 137 }) (some .int) (fun r ν => (¬ (1 ≤ l9 ∧ l9 ≤ 999) ∧ r = some (zI (-2)) ∧ ν = zCt μ (-2)) ∨ ((1 ≤ l9 ∧ l9 ≤ 999) ∧ (∃ z, r = some (zI z) ∧ zQl ((zNV (zHV μ 1) 0) 3) (zHV μ 1 3 3) l9 z) ∧ zXf μ ν)) 37 [zR 0, zI l9, zI g, zI 1] [] μ1 := by
    intro hl μ1 g hxf gb hg2
    have L : ∀ (q : Nat) (n : Int), 1 ≤ n → n ≤ 15 → (∀ k, 1 ≤ k → k < n → k * g < l9) → 15 - n < q → MW X E cX11_quarrel RX11 ({ frames := 6, cells := 0, slots := 0, locals := 137 }) (some .int) (fun r ν => (¬ (1 ≤ l9 ∧ l9 ≤ 999) ∧ r = some (zI (-2)) ∧ ν = zCt μ (-2)) ∨ ((1 ≤ l9 ∧ l9 ≤ 999) ∧ (∃ z, r = some (zI z) ∧ zQl ((zNV (zHV μ 1) 0) 3) (zHV μ 1 3 3) l9 z) ∧ zXf μ ν)) 37 [zR 0, zI l9, zI g, zI n] [] μ1 := by
      intro q
      induction q with
      | zero => intro n n1 n15 hn h3; omega
      | succ q ih =>
        intro n n1 n15 hn h3
        refine z_iload_3 dX11_quarrel_37 ?_
        refine z_bipush dX11_quarrel_38 (by decide) ?_
        refine z_icmpgt (tgt := 58) dX11_quarrel_40 (by decide) (fun h_40 => ?_) (fun h_40 => ?_)
        · refine z_iconst dX11_quarrel_58 (by decide) ?_
          exact z_iret dX11_quarrel_59 (Or.inr ⟨hl, ⟨_, rfl, g, hg2, Or.inl ⟨rfl, fun k k1 k2 => hn k k1 (by omega)⟩⟩, hxf⟩)
        · have mb : 0 ≤ n * g ∧ n * g ≤ 14 * 100000 := ⟨Int.mul_nonneg (by omega) gb.1, Int.mul_le_mul (by omega) gb.2 gb.1 (by decide)⟩
          refine z_iload_3 dX11_quarrel_43 ?_
          refine z_iload_2 dX11_quarrel_44 ?_
          refine z_imul dX11_quarrel_45 (by omega) ?_
          refine z_iload_1 dX11_quarrel_46 ?_
          refine z_icmplt (tgt := 52) dX11_quarrel_47 (by decide) (fun h_47 => ?_) (fun h_47 => ?_)
          · refine z_iinc_3 rfl dX11_quarrel_52 (by omega) ?_
            refine z_goto (tgt := 37) dX11_quarrel_55 (by decide) ?_
            exact ih (n + 1) (by omega) (by omega) (fun k k1 k2 => by by_cases q : k = n; rw [q]; omega; exact hn k k1 (by omega)) (by omega)
          · refine z_iload_3 dX11_quarrel_50 ?_
            exact z_iret dX11_quarrel_51 (Or.inr ⟨hl, ⟨_, rfl, g, hg2, Or.inr ⟨by omega, by omega, by omega, hn⟩⟩, hxf⟩)
    exact L 20 1 (by decide) (by decide) (fun k k1 k2 => by omega) (by decide)
  refine z_iload_1 dX11_quarrel_0 ?_
  refine z_iconst dX11_quarrel_1 (by decide) ?_
  refine z_sipush dX11_quarrel_2 (by decide) ?_
  refine z_callS3 (k_X11_isIn) m_X11_isIn l_X11_174 (Nat.le_of_ble_eq_true rfl) ⟨Nat.le_of_ble_eq_true rfl, Nat.le_of_ble_eq_true rfl⟩ ⟨rfl, rfl⟩ dX11_quarrel_5 (fun r μ1 hp => ?_)
  obtain ⟨rfl, hv⟩ := hp
  replace hv := hv.symm
  subst hv
  refine z_ifne (tgt := 18) dX11_quarrel_8 (by decide) (fun h_8 => ?_) (fun h_8 => ?_)
  · replace h_8 := zb_n.mp h_8
    refine z_aload_0 dX11_quarrel_18 ?_
    refine z_aload_0 dX11_quarrel_19 ?_
    refine z_getF 1 1 rfl f_X11_10 zl_0 rfl rfl dX11_quarrel_20 ?_
    refine z_iconst dX11_quarrel_23 (by decide) ?_
    refine z_callV2 (k_X11_pass zq2_1 (Or.inl (by decide)) hm.1 (by decide)) m_X11_pass zl_0 l_X11_196 (Nat.le_of_ble_eq_true rfl) ⟨Nat.le_of_ble_eq_true rfl, Nat.le_of_ble_eq_true rfl⟩ ⟨rfl, rfl⟩ dX11_quarrel_24 (fun r μ1 hp => ?_)
    obtain ⟨rfl, hni, hr⟩ := hp
    have hxf : zXf μ μ1 := fun a ha => hr a (by omega)
    have np := hm.1.2.1.1
    have pc3 : zHV μ 1 3 3 = μ 6 6 := rfl
    have hc6 : μ1 6 6 = μ 6 6 := by rw [hr 6 (by decide)]
    refine z_aload_0 dX11_quarrel_27 ?_
    refine z_getF 111 111 rfl f_X11_37 zl_0 rfl rfl dX11_quarrel_28 ?_
    refine z_callV0 (k_X4_greatestLackOfTwo (h := 1) zq4_111 zq2_1 hni.2.1 (by rw [hc6]; exact np) (fun i i0 i1 => by rw [(hni.1 i i0 (by rw [hc6] at i1; exact i1)).1.2.1]; exact zNV_3 hm.1 i0 (by rw [hc6] at i1; exact i1))) m_X4_greatestLackOfTwo zl_111 l_X11_286 (Nat.le_of_ble_eq_true rfl) ⟨Nat.le_of_ble_eq_true rfl, Nat.le_of_ble_eq_true rfl⟩ ⟨rfl, rfl⟩ dX11_quarrel_31 (fun r μ1 hp => ?_)
    obtain ⟨⟨g, rfl, hg2⟩, hv⟩ := hp
    replace hv := hv.symm
    subst hv
    have hg3 : zG2 ((zNV (zHV μ 1) 0) 3) (zHV μ 1 3 3) g := by rw [hc6] at hg2; exact zG2_c (fun i i0 i1 => (hni.1 i i0 i1).1.2.1) hg2
    have gb : 0 ≤ g ∧ g ≤ 100000 := by have := zG2_b hg3 (fun i i0 i1 => zNV_3 hm.1 i0 i1); omega
    refine z_istore_2 rfl dX11_quarrel_34 ?_
    refine z_iconst dX11_quarrel_35 (by decide) ?_
    refine z_istore_3 rfl dX11_quarrel_36 ?_
    exact J h_8 μ1 g hxf gb hg3
  · replace h_8 := zb_0.mp h_8
    refine z_aload_0 dX11_quarrel_11 ?_
    refine z_bipush dX11_quarrel_12 (by decide) ?_
    refine z_callV1 (k_X11_counted hm.2) m_X11_counted zl_0 l_X11_86 (Nat.le_of_ble_eq_true rfl) ⟨Nat.le_of_ble_eq_true rfl, Nat.le_of_ble_eq_true rfl⟩ ⟨rfl, rfl⟩ dX11_quarrel_14 (fun r μ1 hp => ?_)
    obtain ⟨rfl, hv⟩ := hp
    replace hv := hv.symm
    subst hv
    exact z_iret dX11_quarrel_17 (Or.inl ⟨h_8, rfl, rfl⟩)
