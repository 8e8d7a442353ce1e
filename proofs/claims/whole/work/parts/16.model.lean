/-! THE REFERENCE'S HOUSE -/
theorem zcmp_lt {a b : Int} : zcmp a b < 0 ↔ a < b := by unfold zcmp; split; omega; split <;> omega
theorem zcmp_gt {a b : Int} : 0 < zcmp a b ↔ b < a := by unfold zcmp; split; omega; split <;> omega
theorem zcmp_le {a b : Int} : zcmp a b ≤ 0 ↔ a ≤ b := by unfold zcmp; split; omega; split <;> omega
theorem zcmp_ge {a b : Int} : 0 ≤ zcmp a b ↔ b ≤ a := by unfold zcmp; split; omega; split <;> omega
theorem zcmp_eq {a b : Int} : zcmp a b = 0 ↔ a = b := by unfold zcmp; split; omega; split <;> omega
def zfu (b : Int → Int) (k v : Int) : Int → Int := fun x => if x = k then v else b x
theorem zup_fu {μ : zM} {a : Nat} {k v : Int} : zup μ a k v a = zfu (μ a) k v := zup_self
theorem zfu_e {b : Int → Int} {k v : Int} : zfu b k v k = v := if_pos rfl
theorem zfu_n {b : Int → Int} {k v x : Int} (h : x ≠ k) : zfu b k v x = b x := if_neg h
theorem zBV_bc {b : Int → Int} : zBV b 3 0 = b 1 := rfl
theorem zBV_fade {b : Int → Int} : zBV b 3 1 = b 5 := rfl
theorem zBV_door {b : Int → Int} : zBV b 3 2 = b 6 := rfl
theorem zBV_pc {b : Int → Int} : zBV b 3 3 = b 2 := rfl
theorem zBV_sc {b : Int → Int} : zBV b 3 4 = b 3 := rfl
theorem zBV_rc {b : Int → Int} : zBV b 3 5 = b 4 := rfl
theorem zBV_0 {b : Int → Int} {i : Int} (h0 : 0 ≤ i) (h1 : i < 36) : zBV b 0 i = b (10 + i) := if_pos ⟨h0, h1⟩
theorem zBV_1 {b : Int → Int} {i : Int} (h0 : 0 ≤ i) (h1 : i < 36) : zBV b 1 i = b (46 + i) := if_pos ⟨h0, h1⟩
theorem zBV_2 {b : Int → Int} {i : Int} (h0 : 0 ≤ i) (h1 : i < b 1) : zBV b 2 i = b (82 + i) := if_pos ⟨h0, h1⟩
theorem zBV_4 {b : Int → Int} {i : Int} (h0 : 0 ≤ i) (h1 : i < b 2) : zBV b 4 i = b (90 + 6 * i) := if_pos ⟨h0, h1⟩
theorem zBV_5 {b : Int → Int} {i : Int} (h0 : 0 ≤ i) (h1 : i < b 2) : zBV b 5 i = b (90 + 6 * i + 1) := if_pos ⟨h0, h1⟩
theorem zBV_6 {b : Int → Int} {i : Int} (h0 : 0 ≤ i) (h1 : i < b 2) : zBV b 6 i = b (90 + 6 * i + 2) := if_pos ⟨h0, h1⟩
theorem zBV_7 {b : Int → Int} {i : Int} (h0 : 0 ≤ i) (h1 : i < b 2) : zBV b 7 i = b (90 + 6 * i + 3) := if_pos ⟨h0, h1⟩
theorem zBV_8 {b : Int → Int} {i : Int} (h0 : 0 ≤ i) (h1 : i < b 2) : zBV b 8 i = b (90 + 6 * i + 4) := if_pos ⟨h0, h1⟩
theorem zBV_9 {b : Int → Int} {i : Int} (h0 : 0 ≤ i) (h1 : i < b 2) : zBV b 9 i = b (90 + 6 * i + 5) := if_pos ⟨h0, h1⟩
theorem zBV_10 {b : Int → Int} {i : Int} (h0 : 0 ≤ i) (h1 : i < b 3) : zBV b 10 i = b (120 + 5 * i) := if_pos ⟨h0, h1⟩
theorem zBV_11 {b : Int → Int} {i : Int} (h0 : 0 ≤ i) (h1 : i < b 3) : zBV b 11 i = b (120 + 5 * i + 1) := if_pos ⟨h0, h1⟩
theorem zBV_12 {b : Int → Int} {i : Int} (h0 : 0 ≤ i) (h1 : i < b 3) : zBV b 12 i = b (120 + 5 * i + 2) := if_pos ⟨h0, h1⟩
theorem zBV_13 {b : Int → Int} {i : Int} (h0 : 0 ≤ i) (h1 : i < b 3) : zBV b 13 i = b (120 + 5 * i + 3) := if_pos ⟨h0, h1⟩
theorem zBV_14 {b : Int → Int} {i : Int} (h0 : 0 ≤ i) (h1 : i < b 3) : zBV b 14 i = b (120 + 5 * i + 4) := if_pos ⟨h0, h1⟩
theorem zBV_15 {b : Int → Int} {i : Int} (h0 : 0 ≤ i) (h1 : i < b 4) : zBV b 15 i = b (160 + 3 * i) := if_pos ⟨h0, h1⟩
theorem zBV_16 {b : Int → Int} {i : Int} (h0 : 0 ≤ i) (h1 : i < b 4) : zBV b 16 i = b (160 + 3 * i + 1) := if_pos ⟨h0, h1⟩
theorem zBV_17 {b : Int → Int} {i : Int} (h0 : 0 ≤ i) (h1 : i < b 4) : zBV b 17 i = b (160 + 3 * i + 2) := if_pos ⟨h0, h1⟩
theorem zBA_b {b : Int → Int} {c : Int} : zBA (zBV b) c ↔ ∃ i, 0 ≤ i ∧ i < b 1 ∧ b (82 + i) = c := ⟨fun ⟨i, a, q, e⟩ => ⟨i, a, q, by rw [zBV_2 a q] at e; exact e⟩, fun ⟨i, a, q, e⟩ => ⟨i, a, q, by rw [zBV_2 a q]; exact e⟩⟩
theorem zTK_b {b : Int → Int} {s t : Int} : zTK (zBV b) s t ↔ ∃ k, 0 ≤ k ∧ k < b 2 ∧ k ≠ s ∧ b (90 + 6 * k + 5) = t := ⟨fun ⟨i, a, q, n, e⟩ => ⟨i, a, q, n, by rw [zBV_9 a q] at e; exact e⟩, fun ⟨i, a, q, n, e⟩ => ⟨i, a, q, n, by rw [zBV_9 a q]; exact e⟩⟩
theorem zOK_b {b : Int → Int} (ok : zOK (zBV b)) : (0 ≤ b 1 ∧ b 1 ≤ 6) ∧ (0 ≤ b 5 ∧ b 5 ≤ 9) ∧ (0 ≤ b 6 ∧ b 6 < 36) ∧ (0 ≤ b 2 ∧ b 2 ≤ 5) ∧ (0 ≤ b 3 ∧ b 3 ≤ 8) ∧ (0 ≤ b 4 ∧ b 4 ≤ 4) := ⟨ok.1.2.1, ok.1.2.2.2.1, ⟨ok.1.2.2.2.2.1, ok.1.2.2.2.2.2.1⟩, ok.2.1.1, ok.2.2.1.1, ok.2.2.2.1⟩
theorem zfu_p {b : Int → Int} {k v x : Int} (h : x = k) : zfu b k v x = v := if_pos h
theorem zBV_w {b : Int → Int} (hb : (0 ≤ b 1 ∧ b 1 ≤ 6) ∧ (0 ≤ b 5 ∧ b 5 ≤ 9) ∧ (0 ≤ b 6 ∧ b 6 < 36) ∧ (0 ≤ b 2 ∧ b 2 ≤ 5) ∧ (0 ≤ b 3 ∧ b 3 ≤ 8) ∧ (0 ≤ b 4 ∧ b 4 ≤ 4)) {c s x0 : Int} (h0 : 0 ≤ c) (h1 : c < 36) : zBV (zfu (zfu b (10 + c) s) 0 x0) = zup (zBV b) 0 c s := by
  generalize hx : (zfu (zfu b (10 + c) s) 0 x0) = x
  have q1 : x 1 = b 1 := by (rw [← hx]; repeat (first | rw [zfu_p (by omega)] | rw [zfu_n (by omega)]))
  have q2 : x 2 = b 2 := by (rw [← hx]; repeat (first | rw [zfu_p (by omega)] | rw [zfu_n (by omega)]))
  have q3 : x 3 = b 3 := by (rw [← hx]; repeat (first | rw [zfu_p (by omega)] | rw [zfu_n (by omega)]))
  have q4 : x 4 = b 4 := by (rw [← hx]; repeat (first | rw [zfu_p (by omega)] | rw [zfu_n (by omega)]))
  have q5 : x 5 = b 5 := by (rw [← hx]; repeat (first | rw [zfu_p (by omega)] | rw [zfu_n (by omega)]))
  have q6 : x 6 = b 6 := by (rw [← hx]; repeat (first | rw [zfu_p (by omega)] | rw [zfu_n (by omega)]))
  funext k i
  match k with
  | 0 => (show (if 0 ≤ i ∧ i < 36 then x (10 + i) else 0) = (if 0 = 0 ∧ i = c then s else (if 0 ≤ i ∧ i < 36 then b (10 + i) else 0)); repeat' split) <;> first | rfl | omega | (rw [← hx]; repeat (first | rw [zfu_p (by omega)] | rw [zfu_n (by omega)]))
  | 1 => (show (if 0 ≤ i ∧ i < 36 then x (46 + i) else 0) = (if 0 ≤ i ∧ i < 36 then b (46 + i) else 0); repeat' split) <;> first | rfl | omega | (rw [← hx]; repeat (first | rw [zfu_p (by omega)] | rw [zfu_n (by omega)]))
  | 2 => (show (if 0 ≤ i ∧ i < x 1 then x (82 + i) else 0) = (if 0 ≤ i ∧ i < b 1 then b (82 + i) else 0); rw [q1]; repeat' split) <;> first | rfl | omega | (rw [← hx]; repeat (first | rw [zfu_p (by omega)] | rw [zfu_n (by omega)]))
  | 3 => (show (if i = 0 then x 1 else if i = 1 then x 5 else if i = 2 then x 6 else if i = 3 then x 2 else if i = 4 then x 3 else if i = 5 then x 4 else 0) = (if i = 0 then b 1 else if i = 1 then b 5 else if i = 2 then b 6 else if i = 3 then b 2 else if i = 4 then b 3 else if i = 5 then b 4 else 0); rw [q1, q2, q3, q4, q5, q6]; repeat' split) <;> first | rfl | omega | (rw [← hx]; repeat (first | rw [zfu_p (by omega)] | rw [zfu_n (by omega)]))
  | 4 => (show (if 0 ≤ i ∧ i < x 2 then x (90 + 6 * i) else 0) = (if 0 ≤ i ∧ i < b 2 then b (90 + 6 * i) else 0); rw [q2]; repeat' split) <;> first | rfl | omega | (rw [← hx]; repeat (first | rw [zfu_p (by omega)] | rw [zfu_n (by omega)]))
  | 5 => (show (if 0 ≤ i ∧ i < x 2 then x (90 + 6 * i + 1) else 0) = (if 0 ≤ i ∧ i < b 2 then b (90 + 6 * i + 1) else 0); rw [q2]; repeat' split) <;> first | rfl | omega | (rw [← hx]; repeat (first | rw [zfu_p (by omega)] | rw [zfu_n (by omega)]))
  | 6 => (show (if 0 ≤ i ∧ i < x 2 then x (90 + 6 * i + 2) else 0) = (if 0 ≤ i ∧ i < b 2 then b (90 + 6 * i + 2) else 0); rw [q2]; repeat' split) <;> first | rfl | omega | (rw [← hx]; repeat (first | rw [zfu_p (by omega)] | rw [zfu_n (by omega)]))
  | 7 => (show (if 0 ≤ i ∧ i < x 2 then x (90 + 6 * i + 3) else 0) = (if 0 ≤ i ∧ i < b 2 then b (90 + 6 * i + 3) else 0); rw [q2]; repeat' split) <;> first | rfl | omega | (rw [← hx]; repeat (first | rw [zfu_p (by omega)] | rw [zfu_n (by omega)]))
  | 8 => (show (if 0 ≤ i ∧ i < x 2 then x (90 + 6 * i + 4) else 0) = (if 0 ≤ i ∧ i < b 2 then b (90 + 6 * i + 4) else 0); rw [q2]; repeat' split) <;> first | rfl | omega | (rw [← hx]; repeat (first | rw [zfu_p (by omega)] | rw [zfu_n (by omega)]))
  | 9 => (show (if 0 ≤ i ∧ i < x 2 then x (90 + 6 * i + 5) else 0) = (if 0 ≤ i ∧ i < b 2 then b (90 + 6 * i + 5) else 0); rw [q2]; repeat' split) <;> first | rfl | omega | (rw [← hx]; repeat (first | rw [zfu_p (by omega)] | rw [zfu_n (by omega)]))
  | 10 => (show (if 0 ≤ i ∧ i < x 3 then x (120 + 5 * i) else 0) = (if 0 ≤ i ∧ i < b 3 then b (120 + 5 * i) else 0); rw [q3]; repeat' split) <;> first | rfl | omega | (rw [← hx]; repeat (first | rw [zfu_p (by omega)] | rw [zfu_n (by omega)]))
  | 11 => (show (if 0 ≤ i ∧ i < x 3 then x (120 + 5 * i + 1) else 0) = (if 0 ≤ i ∧ i < b 3 then b (120 + 5 * i + 1) else 0); rw [q3]; repeat' split) <;> first | rfl | omega | (rw [← hx]; repeat (first | rw [zfu_p (by omega)] | rw [zfu_n (by omega)]))
  | 12 => (show (if 0 ≤ i ∧ i < x 3 then x (120 + 5 * i + 2) else 0) = (if 0 ≤ i ∧ i < b 3 then b (120 + 5 * i + 2) else 0); rw [q3]; repeat' split) <;> first | rfl | omega | (rw [← hx]; repeat (first | rw [zfu_p (by omega)] | rw [zfu_n (by omega)]))
  | 13 => (show (if 0 ≤ i ∧ i < x 3 then x (120 + 5 * i + 3) else 0) = (if 0 ≤ i ∧ i < b 3 then b (120 + 5 * i + 3) else 0); rw [q3]; repeat' split) <;> first | rfl | omega | (rw [← hx]; repeat (first | rw [zfu_p (by omega)] | rw [zfu_n (by omega)]))
  | 14 => (show (if 0 ≤ i ∧ i < x 3 then x (120 + 5 * i + 4) else 0) = (if 0 ≤ i ∧ i < b 3 then b (120 + 5 * i + 4) else 0); rw [q3]; repeat' split) <;> first | rfl | omega | (rw [← hx]; repeat (first | rw [zfu_p (by omega)] | rw [zfu_n (by omega)]))
  | 15 => (show (if 0 ≤ i ∧ i < x 4 then x (160 + 3 * i) else 0) = (if 0 ≤ i ∧ i < b 4 then b (160 + 3 * i) else 0); rw [q4]; repeat' split) <;> first | rfl | omega | (rw [← hx]; repeat (first | rw [zfu_p (by omega)] | rw [zfu_n (by omega)]))
  | 16 => (show (if 0 ≤ i ∧ i < x 4 then x (160 + 3 * i + 1) else 0) = (if 0 ≤ i ∧ i < b 4 then b (160 + 3 * i + 1) else 0); rw [q4]; repeat' split) <;> first | rfl | omega | (rw [← hx]; repeat (first | rw [zfu_p (by omega)] | rw [zfu_n (by omega)]))
  | 17 => (show (if 0 ≤ i ∧ i < x 4 then x (160 + 3 * i + 2) else 0) = (if 0 ≤ i ∧ i < b 4 then b (160 + 3 * i + 2) else 0); rw [q4]; repeat' split) <;> first | rfl | omega | (rw [← hx]; repeat (first | rw [zfu_p (by omega)] | rw [zfu_n (by omega)]))
  | n + 18 => (show (0 : Int) = _); simp [zup_ap, zBV]
theorem zBV_c {b : Int → Int} (hb : (0 ≤ b 1 ∧ b 1 ≤ 6) ∧ (0 ≤ b 5 ∧ b 5 ≤ 9) ∧ (0 ≤ b 6 ∧ b 6 < 36) ∧ (0 ≤ b 2 ∧ b 2 ≤ 5) ∧ (0 ≤ b 3 ∧ b 3 ≤ 8) ∧ (0 ≤ b 4 ∧ b 4 ≤ 4)) {c s : Int} (h0 : 0 ≤ c) (h1 : c < 36) : zBV (zfu b (46 + c) s) = zup (zBV b) 1 c s := by
  generalize hx : (zfu b (46 + c) s) = x
  have q1 : x 1 = b 1 := by (rw [← hx]; repeat (first | rw [zfu_p (by omega)] | rw [zfu_n (by omega)]))
  have q2 : x 2 = b 2 := by (rw [← hx]; repeat (first | rw [zfu_p (by omega)] | rw [zfu_n (by omega)]))
  have q3 : x 3 = b 3 := by (rw [← hx]; repeat (first | rw [zfu_p (by omega)] | rw [zfu_n (by omega)]))
  have q4 : x 4 = b 4 := by (rw [← hx]; repeat (first | rw [zfu_p (by omega)] | rw [zfu_n (by omega)]))
  have q5 : x 5 = b 5 := by (rw [← hx]; repeat (first | rw [zfu_p (by omega)] | rw [zfu_n (by omega)]))
  have q6 : x 6 = b 6 := by (rw [← hx]; repeat (first | rw [zfu_p (by omega)] | rw [zfu_n (by omega)]))
  funext k i
  match k with
  | 0 => (show (if 0 ≤ i ∧ i < 36 then x (10 + i) else 0) = (if 0 ≤ i ∧ i < 36 then b (10 + i) else 0); repeat' split) <;> first | rfl | omega | (rw [← hx]; repeat (first | rw [zfu_p (by omega)] | rw [zfu_n (by omega)]))
  | 1 => (show (if 0 ≤ i ∧ i < 36 then x (46 + i) else 0) = (if 1 = 1 ∧ i = c then s else (if 0 ≤ i ∧ i < 36 then b (46 + i) else 0)); repeat' split) <;> first | rfl | omega | (rw [← hx]; repeat (first | rw [zfu_p (by omega)] | rw [zfu_n (by omega)]))
  | 2 => (show (if 0 ≤ i ∧ i < x 1 then x (82 + i) else 0) = (if 0 ≤ i ∧ i < b 1 then b (82 + i) else 0); rw [q1]; repeat' split) <;> first | rfl | omega | (rw [← hx]; repeat (first | rw [zfu_p (by omega)] | rw [zfu_n (by omega)]))
  | 3 => (show (if i = 0 then x 1 else if i = 1 then x 5 else if i = 2 then x 6 else if i = 3 then x 2 else if i = 4 then x 3 else if i = 5 then x 4 else 0) = (if i = 0 then b 1 else if i = 1 then b 5 else if i = 2 then b 6 else if i = 3 then b 2 else if i = 4 then b 3 else if i = 5 then b 4 else 0); rw [q1, q2, q3, q4, q5, q6]; repeat' split) <;> first | rfl | omega | (rw [← hx]; repeat (first | rw [zfu_p (by omega)] | rw [zfu_n (by omega)]))
  | 4 => (show (if 0 ≤ i ∧ i < x 2 then x (90 + 6 * i) else 0) = (if 0 ≤ i ∧ i < b 2 then b (90 + 6 * i) else 0); rw [q2]; repeat' split) <;> first | rfl | omega | (rw [← hx]; repeat (first | rw [zfu_p (by omega)] | rw [zfu_n (by omega)]))
  | 5 => (show (if 0 ≤ i ∧ i < x 2 then x (90 + 6 * i + 1) else 0) = (if 0 ≤ i ∧ i < b 2 then b (90 + 6 * i + 1) else 0); rw [q2]; repeat' split) <;> first | rfl | omega | (rw [← hx]; repeat (first | rw [zfu_p (by omega)] | rw [zfu_n (by omega)]))
  | 6 => (show (if 0 ≤ i ∧ i < x 2 then x (90 + 6 * i + 2) else 0) = (if 0 ≤ i ∧ i < b 2 then b (90 + 6 * i + 2) else 0); rw [q2]; repeat' split) <;> first | rfl | omega | (rw [← hx]; repeat (first | rw [zfu_p (by omega)] | rw [zfu_n (by omega)]))
  | 7 => (show (if 0 ≤ i ∧ i < x 2 then x (90 + 6 * i + 3) else 0) = (if 0 ≤ i ∧ i < b 2 then b (90 + 6 * i + 3) else 0); rw [q2]; repeat' split) <;> first | rfl | omega | (rw [← hx]; repeat (first | rw [zfu_p (by omega)] | rw [zfu_n (by omega)]))
  | 8 => (show (if 0 ≤ i ∧ i < x 2 then x (90 + 6 * i + 4) else 0) = (if 0 ≤ i ∧ i < b 2 then b (90 + 6 * i + 4) else 0); rw [q2]; repeat' split) <;> first | rfl | omega | (rw [← hx]; repeat (first | rw [zfu_p (by omega)] | rw [zfu_n (by omega)]))
  | 9 => (show (if 0 ≤ i ∧ i < x 2 then x (90 + 6 * i + 5) else 0) = (if 0 ≤ i ∧ i < b 2 then b (90 + 6 * i + 5) else 0); rw [q2]; repeat' split) <;> first | rfl | omega | (rw [← hx]; repeat (first | rw [zfu_p (by omega)] | rw [zfu_n (by omega)]))
  | 10 => (show (if 0 ≤ i ∧ i < x 3 then x (120 + 5 * i) else 0) = (if 0 ≤ i ∧ i < b 3 then b (120 + 5 * i) else 0); rw [q3]; repeat' split) <;> first | rfl | omega | (rw [← hx]; repeat (first | rw [zfu_p (by omega)] | rw [zfu_n (by omega)]))
  | 11 => (show (if 0 ≤ i ∧ i < x 3 then x (120 + 5 * i + 1) else 0) = (if 0 ≤ i ∧ i < b 3 then b (120 + 5 * i + 1) else 0); rw [q3]; repeat' split) <;> first | rfl | omega | (rw [← hx]; repeat (first | rw [zfu_p (by omega)] | rw [zfu_n (by omega)]))
  | 12 => (show (if 0 ≤ i ∧ i < x 3 then x (120 + 5 * i + 2) else 0) = (if 0 ≤ i ∧ i < b 3 then b (120 + 5 * i + 2) else 0); rw [q3]; repeat' split) <;> first | rfl | omega | (rw [← hx]; repeat (first | rw [zfu_p (by omega)] | rw [zfu_n (by omega)]))
  | 13 => (show (if 0 ≤ i ∧ i < x 3 then x (120 + 5 * i + 3) else 0) = (if 0 ≤ i ∧ i < b 3 then b (120 + 5 * i + 3) else 0); rw [q3]; repeat' split) <;> first | rfl | omega | (rw [← hx]; repeat (first | rw [zfu_p (by omega)] | rw [zfu_n (by omega)]))
  | 14 => (show (if 0 ≤ i ∧ i < x 3 then x (120 + 5 * i + 4) else 0) = (if 0 ≤ i ∧ i < b 3 then b (120 + 5 * i + 4) else 0); rw [q3]; repeat' split) <;> first | rfl | omega | (rw [← hx]; repeat (first | rw [zfu_p (by omega)] | rw [zfu_n (by omega)]))
  | 15 => (show (if 0 ≤ i ∧ i < x 4 then x (160 + 3 * i) else 0) = (if 0 ≤ i ∧ i < b 4 then b (160 + 3 * i) else 0); rw [q4]; repeat' split) <;> first | rfl | omega | (rw [← hx]; repeat (first | rw [zfu_p (by omega)] | rw [zfu_n (by omega)]))
  | 16 => (show (if 0 ≤ i ∧ i < x 4 then x (160 + 3 * i + 1) else 0) = (if 0 ≤ i ∧ i < b 4 then b (160 + 3 * i + 1) else 0); rw [q4]; repeat' split) <;> first | rfl | omega | (rw [← hx]; repeat (first | rw [zfu_p (by omega)] | rw [zfu_n (by omega)]))
  | 17 => (show (if 0 ≤ i ∧ i < x 4 then x (160 + 3 * i + 2) else 0) = (if 0 ≤ i ∧ i < b 4 then b (160 + 3 * i + 2) else 0); rw [q4]; repeat' split) <;> first | rfl | omega | (rw [← hx]; repeat (first | rw [zfu_p (by omega)] | rw [zfu_n (by omega)]))
  | n + 18 => (show (0 : Int) = _); simp [zup_ap, zBV]
theorem zBV_f {b : Int → Int} (hb : (0 ≤ b 1 ∧ b 1 ≤ 6) ∧ (0 ≤ b 5 ∧ b 5 ≤ 9) ∧ (0 ≤ b 6 ∧ b 6 < 36) ∧ (0 ≤ b 2 ∧ b 2 ≤ 5) ∧ (0 ≤ b 3 ∧ b 3 ≤ 8) ∧ (0 ≤ b 4 ∧ b 4 ≤ 4)) {v : Int} : zBV (zfu b 5 v) = zup (zBV b) 3 1 v := by
  generalize hx : (zfu b 5 v) = x
  have q1 : x 1 = b 1 := by (rw [← hx]; repeat (first | rw [zfu_p (by omega)] | rw [zfu_n (by omega)]))
  have q2 : x 2 = b 2 := by (rw [← hx]; repeat (first | rw [zfu_p (by omega)] | rw [zfu_n (by omega)]))
  have q3 : x 3 = b 3 := by (rw [← hx]; repeat (first | rw [zfu_p (by omega)] | rw [zfu_n (by omega)]))
  have q4 : x 4 = b 4 := by (rw [← hx]; repeat (first | rw [zfu_p (by omega)] | rw [zfu_n (by omega)]))
  have q5 : x 5 = v := by (rw [← hx]; repeat (first | rw [zfu_p (by omega)] | rw [zfu_n (by omega)]))
  have q6 : x 6 = b 6 := by (rw [← hx]; repeat (first | rw [zfu_p (by omega)] | rw [zfu_n (by omega)]))
  funext k i
  match k with
  | 0 => (show (if 0 ≤ i ∧ i < 36 then x (10 + i) else 0) = (if 0 ≤ i ∧ i < 36 then b (10 + i) else 0); repeat' split) <;> first | rfl | omega | (rw [← hx]; repeat (first | rw [zfu_p (by omega)] | rw [zfu_n (by omega)]))
  | 1 => (show (if 0 ≤ i ∧ i < 36 then x (46 + i) else 0) = (if 0 ≤ i ∧ i < 36 then b (46 + i) else 0); repeat' split) <;> first | rfl | omega | (rw [← hx]; repeat (first | rw [zfu_p (by omega)] | rw [zfu_n (by omega)]))
  | 2 => (show (if 0 ≤ i ∧ i < x 1 then x (82 + i) else 0) = (if 0 ≤ i ∧ i < b 1 then b (82 + i) else 0); rw [q1]; repeat' split) <;> first | rfl | omega | (rw [← hx]; repeat (first | rw [zfu_p (by omega)] | rw [zfu_n (by omega)]))
  | 3 => (show (if i = 0 then x 1 else if i = 1 then x 5 else if i = 2 then x 6 else if i = 3 then x 2 else if i = 4 then x 3 else if i = 5 then x 4 else 0) = (if 3 = 3 ∧ i = 1 then v else (if i = 0 then b 1 else if i = 1 then b 5 else if i = 2 then b 6 else if i = 3 then b 2 else if i = 4 then b 3 else if i = 5 then b 4 else 0)); rw [q1, q2, q3, q4, q5, q6]; repeat' split) <;> first | rfl | omega | (rw [← hx]; repeat (first | rw [zfu_p (by omega)] | rw [zfu_n (by omega)]))
  | 4 => (show (if 0 ≤ i ∧ i < x 2 then x (90 + 6 * i) else 0) = (if 0 ≤ i ∧ i < b 2 then b (90 + 6 * i) else 0); rw [q2]; repeat' split) <;> first | rfl | omega | (rw [← hx]; repeat (first | rw [zfu_p (by omega)] | rw [zfu_n (by omega)]))
  | 5 => (show (if 0 ≤ i ∧ i < x 2 then x (90 + 6 * i + 1) else 0) = (if 0 ≤ i ∧ i < b 2 then b (90 + 6 * i + 1) else 0); rw [q2]; repeat' split) <;> first | rfl | omega | (rw [← hx]; repeat (first | rw [zfu_p (by omega)] | rw [zfu_n (by omega)]))
  | 6 => (show (if 0 ≤ i ∧ i < x 2 then x (90 + 6 * i + 2) else 0) = (if 0 ≤ i ∧ i < b 2 then b (90 + 6 * i + 2) else 0); rw [q2]; repeat' split) <;> first | rfl | omega | (rw [← hx]; repeat (first | rw [zfu_p (by omega)] | rw [zfu_n (by omega)]))
  | 7 => (show (if 0 ≤ i ∧ i < x 2 then x (90 + 6 * i + 3) else 0) = (if 0 ≤ i ∧ i < b 2 then b (90 + 6 * i + 3) else 0); rw [q2]; repeat' split) <;> first | rfl | omega | (rw [← hx]; repeat (first | rw [zfu_p (by omega)] | rw [zfu_n (by omega)]))
  | 8 => (show (if 0 ≤ i ∧ i < x 2 then x (90 + 6 * i + 4) else 0) = (if 0 ≤ i ∧ i < b 2 then b (90 + 6 * i + 4) else 0); rw [q2]; repeat' split) <;> first | rfl | omega | (rw [← hx]; repeat (first | rw [zfu_p (by omega)] | rw [zfu_n (by omega)]))
  | 9 => (show (if 0 ≤ i ∧ i < x 2 then x (90 + 6 * i + 5) else 0) = (if 0 ≤ i ∧ i < b 2 then b (90 + 6 * i + 5) else 0); rw [q2]; repeat' split) <;> first | rfl | omega | (rw [← hx]; repeat (first | rw [zfu_p (by omega)] | rw [zfu_n (by omega)]))
  | 10 => (show (if 0 ≤ i ∧ i < x 3 then x (120 + 5 * i) else 0) = (if 0 ≤ i ∧ i < b 3 then b (120 + 5 * i) else 0); rw [q3]; repeat' split) <;> first | rfl | omega | (rw [← hx]; repeat (first | rw [zfu_p (by omega)] | rw [zfu_n (by omega)]))
  | 11 => (show (if 0 ≤ i ∧ i < x 3 then x (120 + 5 * i + 1) else 0) = (if 0 ≤ i ∧ i < b 3 then b (120 + 5 * i + 1) else 0); rw [q3]; repeat' split) <;> first | rfl | omega | (rw [← hx]; repeat (first | rw [zfu_p (by omega)] | rw [zfu_n (by omega)]))
  | 12 => (show (if 0 ≤ i ∧ i < x 3 then x (120 + 5 * i + 2) else 0) = (if 0 ≤ i ∧ i < b 3 then b (120 + 5 * i + 2) else 0); rw [q3]; repeat' split) <;> first | rfl | omega | (rw [← hx]; repeat (first | rw [zfu_p (by omega)] | rw [zfu_n (by omega)]))
  | 13 => (show (if 0 ≤ i ∧ i < x 3 then x (120 + 5 * i + 3) else 0) = (if 0 ≤ i ∧ i < b 3 then b (120 + 5 * i + 3) else 0); rw [q3]; repeat' split) <;> first | rfl | omega | (rw [← hx]; repeat (first | rw [zfu_p (by omega)] | rw [zfu_n (by omega)]))
  | 14 => (show (if 0 ≤ i ∧ i < x 3 then x (120 + 5 * i + 4) else 0) = (if 0 ≤ i ∧ i < b 3 then b (120 + 5 * i + 4) else 0); rw [q3]; repeat' split) <;> first | rfl | omega | (rw [← hx]; repeat (first | rw [zfu_p (by omega)] | rw [zfu_n (by omega)]))
  | 15 => (show (if 0 ≤ i ∧ i < x 4 then x (160 + 3 * i) else 0) = (if 0 ≤ i ∧ i < b 4 then b (160 + 3 * i) else 0); rw [q4]; repeat' split) <;> first | rfl | omega | (rw [← hx]; repeat (first | rw [zfu_p (by omega)] | rw [zfu_n (by omega)]))
  | 16 => (show (if 0 ≤ i ∧ i < x 4 then x (160 + 3 * i + 1) else 0) = (if 0 ≤ i ∧ i < b 4 then b (160 + 3 * i + 1) else 0); rw [q4]; repeat' split) <;> first | rfl | omega | (rw [← hx]; repeat (first | rw [zfu_p (by omega)] | rw [zfu_n (by omega)]))
  | 17 => (show (if 0 ≤ i ∧ i < x 4 then x (160 + 3 * i + 2) else 0) = (if 0 ≤ i ∧ i < b 4 then b (160 + 3 * i + 2) else 0); rw [q4]; repeat' split) <;> first | rfl | omega | (rw [← hx]; repeat (first | rw [zfu_p (by omega)] | rw [zfu_n (by omega)]))
  | n + 18 => (show (0 : Int) = _); simp [zup_ap, zBV]
theorem zBV_d {b : Int → Int} (hb : (0 ≤ b 1 ∧ b 1 ≤ 6) ∧ (0 ≤ b 5 ∧ b 5 ≤ 9) ∧ (0 ≤ b 6 ∧ b 6 < 36) ∧ (0 ≤ b 2 ∧ b 2 ≤ 5) ∧ (0 ≤ b 3 ∧ b 3 ≤ 8) ∧ (0 ≤ b 4 ∧ b 4 ≤ 4)) {v : Int} : zBV (zfu b 6 v) = zup (zBV b) 3 2 v := by
  generalize hx : (zfu b 6 v) = x
  have q1 : x 1 = b 1 := by (rw [← hx]; repeat (first | rw [zfu_p (by omega)] | rw [zfu_n (by omega)]))
  have q2 : x 2 = b 2 := by (rw [← hx]; repeat (first | rw [zfu_p (by omega)] | rw [zfu_n (by omega)]))
  have q3 : x 3 = b 3 := by (rw [← hx]; repeat (first | rw [zfu_p (by omega)] | rw [zfu_n (by omega)]))
  have q4 : x 4 = b 4 := by (rw [← hx]; repeat (first | rw [zfu_p (by omega)] | rw [zfu_n (by omega)]))
  have q5 : x 5 = b 5 := by (rw [← hx]; repeat (first | rw [zfu_p (by omega)] | rw [zfu_n (by omega)]))
  have q6 : x 6 = v := by (rw [← hx]; repeat (first | rw [zfu_p (by omega)] | rw [zfu_n (by omega)]))
  funext k i
  match k with
  | 0 => (show (if 0 ≤ i ∧ i < 36 then x (10 + i) else 0) = (if 0 ≤ i ∧ i < 36 then b (10 + i) else 0); repeat' split) <;> first | rfl | omega | (rw [← hx]; repeat (first | rw [zfu_p (by omega)] | rw [zfu_n (by omega)]))
  | 1 => (show (if 0 ≤ i ∧ i < 36 then x (46 + i) else 0) = (if 0 ≤ i ∧ i < 36 then b (46 + i) else 0); repeat' split) <;> first | rfl | omega | (rw [← hx]; repeat (first | rw [zfu_p (by omega)] | rw [zfu_n (by omega)]))
  | 2 => (show (if 0 ≤ i ∧ i < x 1 then x (82 + i) else 0) = (if 0 ≤ i ∧ i < b 1 then b (82 + i) else 0); rw [q1]; repeat' split) <;> first | rfl | omega | (rw [← hx]; repeat (first | rw [zfu_p (by omega)] | rw [zfu_n (by omega)]))
  | 3 => (show (if i = 0 then x 1 else if i = 1 then x 5 else if i = 2 then x 6 else if i = 3 then x 2 else if i = 4 then x 3 else if i = 5 then x 4 else 0) = (if 3 = 3 ∧ i = 2 then v else (if i = 0 then b 1 else if i = 1 then b 5 else if i = 2 then b 6 else if i = 3 then b 2 else if i = 4 then b 3 else if i = 5 then b 4 else 0)); rw [q1, q2, q3, q4, q5, q6]; repeat' split) <;> first | rfl | omega | (rw [← hx]; repeat (first | rw [zfu_p (by omega)] | rw [zfu_n (by omega)]))
  | 4 => (show (if 0 ≤ i ∧ i < x 2 then x (90 + 6 * i) else 0) = (if 0 ≤ i ∧ i < b 2 then b (90 + 6 * i) else 0); rw [q2]; repeat' split) <;> first | rfl | omega | (rw [← hx]; repeat (first | rw [zfu_p (by omega)] | rw [zfu_n (by omega)]))
  | 5 => (show (if 0 ≤ i ∧ i < x 2 then x (90 + 6 * i + 1) else 0) = (if 0 ≤ i ∧ i < b 2 then b (90 + 6 * i + 1) else 0); rw [q2]; repeat' split) <;> first | rfl | omega | (rw [← hx]; repeat (first | rw [zfu_p (by omega)] | rw [zfu_n (by omega)]))
  | 6 => (show (if 0 ≤ i ∧ i < x 2 then x (90 + 6 * i + 2) else 0) = (if 0 ≤ i ∧ i < b 2 then b (90 + 6 * i + 2) else 0); rw [q2]; repeat' split) <;> first | rfl | omega | (rw [← hx]; repeat (first | rw [zfu_p (by omega)] | rw [zfu_n (by omega)]))
  | 7 => (show (if 0 ≤ i ∧ i < x 2 then x (90 + 6 * i + 3) else 0) = (if 0 ≤ i ∧ i < b 2 then b (90 + 6 * i + 3) else 0); rw [q2]; repeat' split) <;> first | rfl | omega | (rw [← hx]; repeat (first | rw [zfu_p (by omega)] | rw [zfu_n (by omega)]))
  | 8 => (show (if 0 ≤ i ∧ i < x 2 then x (90 + 6 * i + 4) else 0) = (if 0 ≤ i ∧ i < b 2 then b (90 + 6 * i + 4) else 0); rw [q2]; repeat' split) <;> first | rfl | omega | (rw [← hx]; repeat (first | rw [zfu_p (by omega)] | rw [zfu_n (by omega)]))
  | 9 => (show (if 0 ≤ i ∧ i < x 2 then x (90 + 6 * i + 5) else 0) = (if 0 ≤ i ∧ i < b 2 then b (90 + 6 * i + 5) else 0); rw [q2]; repeat' split) <;> first | rfl | omega | (rw [← hx]; repeat (first | rw [zfu_p (by omega)] | rw [zfu_n (by omega)]))
  | 10 => (show (if 0 ≤ i ∧ i < x 3 then x (120 + 5 * i) else 0) = (if 0 ≤ i ∧ i < b 3 then b (120 + 5 * i) else 0); rw [q3]; repeat' split) <;> first | rfl | omega | (rw [← hx]; repeat (first | rw [zfu_p (by omega)] | rw [zfu_n (by omega)]))
  | 11 => (show (if 0 ≤ i ∧ i < x 3 then x (120 + 5 * i + 1) else 0) = (if 0 ≤ i ∧ i < b 3 then b (120 + 5 * i + 1) else 0); rw [q3]; repeat' split) <;> first | rfl | omega | (rw [← hx]; repeat (first | rw [zfu_p (by omega)] | rw [zfu_n (by omega)]))
  | 12 => (show (if 0 ≤ i ∧ i < x 3 then x (120 + 5 * i + 2) else 0) = (if 0 ≤ i ∧ i < b 3 then b (120 + 5 * i + 2) else 0); rw [q3]; repeat' split) <;> first | rfl | omega | (rw [← hx]; repeat (first | rw [zfu_p (by omega)] | rw [zfu_n (by omega)]))
  | 13 => (show (if 0 ≤ i ∧ i < x 3 then x (120 + 5 * i + 3) else 0) = (if 0 ≤ i ∧ i < b 3 then b (120 + 5 * i + 3) else 0); rw [q3]; repeat' split) <;> first | rfl | omega | (rw [← hx]; repeat (first | rw [zfu_p (by omega)] | rw [zfu_n (by omega)]))
  | 14 => (show (if 0 ≤ i ∧ i < x 3 then x (120 + 5 * i + 4) else 0) = (if 0 ≤ i ∧ i < b 3 then b (120 + 5 * i + 4) else 0); rw [q3]; repeat' split) <;> first | rfl | omega | (rw [← hx]; repeat (first | rw [zfu_p (by omega)] | rw [zfu_n (by omega)]))
  | 15 => (show (if 0 ≤ i ∧ i < x 4 then x (160 + 3 * i) else 0) = (if 0 ≤ i ∧ i < b 4 then b (160 + 3 * i) else 0); rw [q4]; repeat' split) <;> first | rfl | omega | (rw [← hx]; repeat (first | rw [zfu_p (by omega)] | rw [zfu_n (by omega)]))
  | 16 => (show (if 0 ≤ i ∧ i < x 4 then x (160 + 3 * i + 1) else 0) = (if 0 ≤ i ∧ i < b 4 then b (160 + 3 * i + 1) else 0); rw [q4]; repeat' split) <;> first | rfl | omega | (rw [← hx]; repeat (first | rw [zfu_p (by omega)] | rw [zfu_n (by omega)]))
  | 17 => (show (if 0 ≤ i ∧ i < x 4 then x (160 + 3 * i + 2) else 0) = (if 0 ≤ i ∧ i < b 4 then b (160 + 3 * i + 2) else 0); rw [q4]; repeat' split) <;> first | rfl | omega | (rw [← hx]; repeat (first | rw [zfu_p (by omega)] | rw [zfu_n (by omega)]))
  | n + 18 => (show (0 : Int) = _); simp [zup_ap, zBV]
theorem zBV_b {b : Int → Int} (hb : (0 ≤ b 1 ∧ b 1 ≤ 6) ∧ (0 ≤ b 5 ∧ b 5 ≤ 9) ∧ (0 ≤ b 6 ∧ b 6 < 36) ∧ (0 ≤ b 2 ∧ b 2 ≤ 5) ∧ (0 ≤ b 3 ∧ b 3 ≤ 8) ∧ (0 ≤ b 4 ∧ b 4 ≤ 4)) {n c : Int} (hn : b 1 = n) (h5 : n ≤ 5) : zBV (zfu (zfu b (82 + n) c) 1 (n + 1)) = zup (zup (zBV b) 2 n c) 3 0 (n + 1) := by
  generalize hx : (zfu (zfu b (82 + n) c) 1 (n + 1)) = x
  have q1 : x 1 = n + 1 := by (rw [← hx]; repeat (first | rw [zfu_p (by omega)] | rw [zfu_n (by omega)]))
  have q2 : x 2 = b 2 := by (rw [← hx]; repeat (first | rw [zfu_p (by omega)] | rw [zfu_n (by omega)]))
  have q3 : x 3 = b 3 := by (rw [← hx]; repeat (first | rw [zfu_p (by omega)] | rw [zfu_n (by omega)]))
  have q4 : x 4 = b 4 := by (rw [← hx]; repeat (first | rw [zfu_p (by omega)] | rw [zfu_n (by omega)]))
  have q5 : x 5 = b 5 := by (rw [← hx]; repeat (first | rw [zfu_p (by omega)] | rw [zfu_n (by omega)]))
  have q6 : x 6 = b 6 := by (rw [← hx]; repeat (first | rw [zfu_p (by omega)] | rw [zfu_n (by omega)]))
  funext k i
  match k with
  | 0 => (show (if 0 ≤ i ∧ i < 36 then x (10 + i) else 0) = (if 0 ≤ i ∧ i < 36 then b (10 + i) else 0); repeat' split) <;> first | rfl | omega | (rw [← hx]; repeat (first | rw [zfu_p (by omega)] | rw [zfu_n (by omega)]))
  | 1 => (show (if 0 ≤ i ∧ i < 36 then x (46 + i) else 0) = (if 0 ≤ i ∧ i < 36 then b (46 + i) else 0); repeat' split) <;> first | rfl | omega | (rw [← hx]; repeat (first | rw [zfu_p (by omega)] | rw [zfu_n (by omega)]))
  | 2 => (show (if 0 ≤ i ∧ i < x 1 then x (82 + i) else 0) = (if 2 = 2 ∧ i = n then c else (if 0 ≤ i ∧ i < b 1 then b (82 + i) else 0)); rw [q1]; repeat' split) <;> first | rfl | omega | (rw [← hx]; repeat (first | rw [zfu_p (by omega)] | rw [zfu_n (by omega)]))
  | 3 => (show (if i = 0 then x 1 else if i = 1 then x 5 else if i = 2 then x 6 else if i = 3 then x 2 else if i = 4 then x 3 else if i = 5 then x 4 else 0) = (if 3 = 3 ∧ i = 0 then (n + 1) else (if i = 0 then b 1 else if i = 1 then b 5 else if i = 2 then b 6 else if i = 3 then b 2 else if i = 4 then b 3 else if i = 5 then b 4 else 0)); rw [q1, q2, q3, q4, q5, q6]; repeat' split) <;> first | rfl | omega | (rw [← hx]; repeat (first | rw [zfu_p (by omega)] | rw [zfu_n (by omega)]))
  | 4 => (show (if 0 ≤ i ∧ i < x 2 then x (90 + 6 * i) else 0) = (if 0 ≤ i ∧ i < b 2 then b (90 + 6 * i) else 0); rw [q2]; repeat' split) <;> first | rfl | omega | (rw [← hx]; repeat (first | rw [zfu_p (by omega)] | rw [zfu_n (by omega)]))
  | 5 => (show (if 0 ≤ i ∧ i < x 2 then x (90 + 6 * i + 1) else 0) = (if 0 ≤ i ∧ i < b 2 then b (90 + 6 * i + 1) else 0); rw [q2]; repeat' split) <;> first | rfl | omega | (rw [← hx]; repeat (first | rw [zfu_p (by omega)] | rw [zfu_n (by omega)]))
  | 6 => (show (if 0 ≤ i ∧ i < x 2 then x (90 + 6 * i + 2) else 0) = (if 0 ≤ i ∧ i < b 2 then b (90 + 6 * i + 2) else 0); rw [q2]; repeat' split) <;> first | rfl | omega | (rw [← hx]; repeat (first | rw [zfu_p (by omega)] | rw [zfu_n (by omega)]))
  | 7 => (show (if 0 ≤ i ∧ i < x 2 then x (90 + 6 * i + 3) else 0) = (if 0 ≤ i ∧ i < b 2 then b (90 + 6 * i + 3) else 0); rw [q2]; repeat' split) <;> first | rfl | omega | (rw [← hx]; repeat (first | rw [zfu_p (by omega)] | rw [zfu_n (by omega)]))
  | 8 => (show (if 0 ≤ i ∧ i < x 2 then x (90 + 6 * i + 4) else 0) = (if 0 ≤ i ∧ i < b 2 then b (90 + 6 * i + 4) else 0); rw [q2]; repeat' split) <;> first | rfl | omega | (rw [← hx]; repeat (first | rw [zfu_p (by omega)] | rw [zfu_n (by omega)]))
  | 9 => (show (if 0 ≤ i ∧ i < x 2 then x (90 + 6 * i + 5) else 0) = (if 0 ≤ i ∧ i < b 2 then b (90 + 6 * i + 5) else 0); rw [q2]; repeat' split) <;> first | rfl | omega | (rw [← hx]; repeat (first | rw [zfu_p (by omega)] | rw [zfu_n (by omega)]))
  | 10 => (show (if 0 ≤ i ∧ i < x 3 then x (120 + 5 * i) else 0) = (if 0 ≤ i ∧ i < b 3 then b (120 + 5 * i) else 0); rw [q3]; repeat' split) <;> first | rfl | omega | (rw [← hx]; repeat (first | rw [zfu_p (by omega)] | rw [zfu_n (by omega)]))
  | 11 => (show (if 0 ≤ i ∧ i < x 3 then x (120 + 5 * i + 1) else 0) = (if 0 ≤ i ∧ i < b 3 then b (120 + 5 * i + 1) else 0); rw [q3]; repeat' split) <;> first | rfl | omega | (rw [← hx]; repeat (first | rw [zfu_p (by omega)] | rw [zfu_n (by omega)]))
  | 12 => (show (if 0 ≤ i ∧ i < x 3 then x (120 + 5 * i + 2) else 0) = (if 0 ≤ i ∧ i < b 3 then b (120 + 5 * i + 2) else 0); rw [q3]; repeat' split) <;> first | rfl | omega | (rw [← hx]; repeat (first | rw [zfu_p (by omega)] | rw [zfu_n (by omega)]))
  | 13 => (show (if 0 ≤ i ∧ i < x 3 then x (120 + 5 * i + 3) else 0) = (if 0 ≤ i ∧ i < b 3 then b (120 + 5 * i + 3) else 0); rw [q3]; repeat' split) <;> first | rfl | omega | (rw [← hx]; repeat (first | rw [zfu_p (by omega)] | rw [zfu_n (by omega)]))
  | 14 => (show (if 0 ≤ i ∧ i < x 3 then x (120 + 5 * i + 4) else 0) = (if 0 ≤ i ∧ i < b 3 then b (120 + 5 * i + 4) else 0); rw [q3]; repeat' split) <;> first | rfl | omega | (rw [← hx]; repeat (first | rw [zfu_p (by omega)] | rw [zfu_n (by omega)]))
  | 15 => (show (if 0 ≤ i ∧ i < x 4 then x (160 + 3 * i) else 0) = (if 0 ≤ i ∧ i < b 4 then b (160 + 3 * i) else 0); rw [q4]; repeat' split) <;> first | rfl | omega | (rw [← hx]; repeat (first | rw [zfu_p (by omega)] | rw [zfu_n (by omega)]))
  | 16 => (show (if 0 ≤ i ∧ i < x 4 then x (160 + 3 * i + 1) else 0) = (if 0 ≤ i ∧ i < b 4 then b (160 + 3 * i + 1) else 0); rw [q4]; repeat' split) <;> first | rfl | omega | (rw [← hx]; repeat (first | rw [zfu_p (by omega)] | rw [zfu_n (by omega)]))
  | 17 => (show (if 0 ≤ i ∧ i < x 4 then x (160 + 3 * i + 2) else 0) = (if 0 ≤ i ∧ i < b 4 then b (160 + 3 * i + 2) else 0); rw [q4]; repeat' split) <;> first | rfl | omega | (rw [← hx]; repeat (first | rw [zfu_p (by omega)] | rw [zfu_n (by omega)]))
  | n + 18 => (show (0 : Int) = _); simp [zup_ap, zBV]
theorem zBV_p {b : Int → Int} (hb : (0 ≤ b 1 ∧ b 1 ≤ 6) ∧ (0 ≤ b 5 ∧ b 5 ≤ 9) ∧ (0 ≤ b 6 ∧ b 6 < 36) ∧ (0 ≤ b 2 ∧ b 2 ≤ 5) ∧ (0 ≤ b 3 ∧ b 3 ≤ 8) ∧ (0 ≤ b 4 ∧ b 4 ≤ 4)) {n a c d e9 f g : Int} (hn : b 2 = n) (h5 : n ≤ 4) : zBV (zfu (zfu (zfu (zfu (zfu (zfu (zfu b (90 + 6 * n) a) (90 + 6 * n + 1) c) (90 + 6 * n + 2) d) (90 + 6 * n + 3) e9) (90 + 6 * n + 4) f) (90 + 6 * n + 5) g) 2 (n + 1)) = zup (zup (zup (zup (zup (zup (zup (zBV b) 4 n a) 5 n c) 6 n d) 7 n e9) 8 n f) 9 n g) 3 3 (n + 1) := by
  generalize hx : (zfu (zfu (zfu (zfu (zfu (zfu (zfu b (90 + 6 * n) a) (90 + 6 * n + 1) c) (90 + 6 * n + 2) d) (90 + 6 * n + 3) e9) (90 + 6 * n + 4) f) (90 + 6 * n + 5) g) 2 (n + 1)) = x
  have q1 : x 1 = b 1 := by (rw [← hx]; repeat (first | rw [zfu_p (by omega)] | rw [zfu_n (by omega)]))
  have q2 : x 2 = n + 1 := by (rw [← hx]; repeat (first | rw [zfu_p (by omega)] | rw [zfu_n (by omega)]))
  have q3 : x 3 = b 3 := by (rw [← hx]; repeat (first | rw [zfu_p (by omega)] | rw [zfu_n (by omega)]))
  have q4 : x 4 = b 4 := by (rw [← hx]; repeat (first | rw [zfu_p (by omega)] | rw [zfu_n (by omega)]))
  have q5 : x 5 = b 5 := by (rw [← hx]; repeat (first | rw [zfu_p (by omega)] | rw [zfu_n (by omega)]))
  have q6 : x 6 = b 6 := by (rw [← hx]; repeat (first | rw [zfu_p (by omega)] | rw [zfu_n (by omega)]))
  funext k i
  match k with
  | 0 => (show (if 0 ≤ i ∧ i < 36 then x (10 + i) else 0) = (if 0 ≤ i ∧ i < 36 then b (10 + i) else 0); repeat' split) <;> first | rfl | omega | (rw [← hx]; repeat (first | rw [zfu_p (by omega)] | rw [zfu_n (by omega)]))
  | 1 => (show (if 0 ≤ i ∧ i < 36 then x (46 + i) else 0) = (if 0 ≤ i ∧ i < 36 then b (46 + i) else 0); repeat' split) <;> first | rfl | omega | (rw [← hx]; repeat (first | rw [zfu_p (by omega)] | rw [zfu_n (by omega)]))
  | 2 => (show (if 0 ≤ i ∧ i < x 1 then x (82 + i) else 0) = (if 0 ≤ i ∧ i < b 1 then b (82 + i) else 0); rw [q1]; repeat' split) <;> first | rfl | omega | (rw [← hx]; repeat (first | rw [zfu_p (by omega)] | rw [zfu_n (by omega)]))
  | 3 => (show (if i = 0 then x 1 else if i = 1 then x 5 else if i = 2 then x 6 else if i = 3 then x 2 else if i = 4 then x 3 else if i = 5 then x 4 else 0) = (if 3 = 3 ∧ i = 3 then (n + 1) else (if i = 0 then b 1 else if i = 1 then b 5 else if i = 2 then b 6 else if i = 3 then b 2 else if i = 4 then b 3 else if i = 5 then b 4 else 0)); rw [q1, q2, q3, q4, q5, q6]; repeat' split) <;> first | rfl | omega | (rw [← hx]; repeat (first | rw [zfu_p (by omega)] | rw [zfu_n (by omega)]))
  | 4 => (show (if 0 ≤ i ∧ i < x 2 then x (90 + 6 * i) else 0) = (if 4 = 4 ∧ i = n then a else (if 0 ≤ i ∧ i < b 2 then b (90 + 6 * i) else 0)); rw [q2]; repeat' split) <;> first | rfl | omega | (rw [← hx]; repeat (first | rw [zfu_p (by omega)] | rw [zfu_n (by omega)]))
  | 5 => (show (if 0 ≤ i ∧ i < x 2 then x (90 + 6 * i + 1) else 0) = (if 5 = 5 ∧ i = n then c else (if 0 ≤ i ∧ i < b 2 then b (90 + 6 * i + 1) else 0)); rw [q2]; repeat' split) <;> first | rfl | omega | (rw [← hx]; repeat (first | rw [zfu_p (by omega)] | rw [zfu_n (by omega)]))
  | 6 => (show (if 0 ≤ i ∧ i < x 2 then x (90 + 6 * i + 2) else 0) = (if 6 = 6 ∧ i = n then d else (if 0 ≤ i ∧ i < b 2 then b (90 + 6 * i + 2) else 0)); rw [q2]; repeat' split) <;> first | rfl | omega | (rw [← hx]; repeat (first | rw [zfu_p (by omega)] | rw [zfu_n (by omega)]))
  | 7 => (show (if 0 ≤ i ∧ i < x 2 then x (90 + 6 * i + 3) else 0) = (if 7 = 7 ∧ i = n then e9 else (if 0 ≤ i ∧ i < b 2 then b (90 + 6 * i + 3) else 0)); rw [q2]; repeat' split) <;> first | rfl | omega | (rw [← hx]; repeat (first | rw [zfu_p (by omega)] | rw [zfu_n (by omega)]))
  | 8 => (show (if 0 ≤ i ∧ i < x 2 then x (90 + 6 * i + 4) else 0) = (if 8 = 8 ∧ i = n then f else (if 0 ≤ i ∧ i < b 2 then b (90 + 6 * i + 4) else 0)); rw [q2]; repeat' split) <;> first | rfl | omega | (rw [← hx]; repeat (first | rw [zfu_p (by omega)] | rw [zfu_n (by omega)]))
  | 9 => (show (if 0 ≤ i ∧ i < x 2 then x (90 + 6 * i + 5) else 0) = (if 9 = 9 ∧ i = n then g else (if 0 ≤ i ∧ i < b 2 then b (90 + 6 * i + 5) else 0)); rw [q2]; repeat' split) <;> first | rfl | omega | (rw [← hx]; repeat (first | rw [zfu_p (by omega)] | rw [zfu_n (by omega)]))
  | 10 => (show (if 0 ≤ i ∧ i < x 3 then x (120 + 5 * i) else 0) = (if 0 ≤ i ∧ i < b 3 then b (120 + 5 * i) else 0); rw [q3]; repeat' split) <;> first | rfl | omega | (rw [← hx]; repeat (first | rw [zfu_p (by omega)] | rw [zfu_n (by omega)]))
  | 11 => (show (if 0 ≤ i ∧ i < x 3 then x (120 + 5 * i + 1) else 0) = (if 0 ≤ i ∧ i < b 3 then b (120 + 5 * i + 1) else 0); rw [q3]; repeat' split) <;> first | rfl | omega | (rw [← hx]; repeat (first | rw [zfu_p (by omega)] | rw [zfu_n (by omega)]))
  | 12 => (show (if 0 ≤ i ∧ i < x 3 then x (120 + 5 * i + 2) else 0) = (if 0 ≤ i ∧ i < b 3 then b (120 + 5 * i + 2) else 0); rw [q3]; repeat' split) <;> first | rfl | omega | (rw [← hx]; repeat (first | rw [zfu_p (by omega)] | rw [zfu_n (by omega)]))
  | 13 => (show (if 0 ≤ i ∧ i < x 3 then x (120 + 5 * i + 3) else 0) = (if 0 ≤ i ∧ i < b 3 then b (120 + 5 * i + 3) else 0); rw [q3]; repeat' split) <;> first | rfl | omega | (rw [← hx]; repeat (first | rw [zfu_p (by omega)] | rw [zfu_n (by omega)]))
  | 14 => (show (if 0 ≤ i ∧ i < x 3 then x (120 + 5 * i + 4) else 0) = (if 0 ≤ i ∧ i < b 3 then b (120 + 5 * i + 4) else 0); rw [q3]; repeat' split) <;> first | rfl | omega | (rw [← hx]; repeat (first | rw [zfu_p (by omega)] | rw [zfu_n (by omega)]))
  | 15 => (show (if 0 ≤ i ∧ i < x 4 then x (160 + 3 * i) else 0) = (if 0 ≤ i ∧ i < b 4 then b (160 + 3 * i) else 0); rw [q4]; repeat' split) <;> first | rfl | omega | (rw [← hx]; repeat (first | rw [zfu_p (by omega)] | rw [zfu_n (by omega)]))
  | 16 => (show (if 0 ≤ i ∧ i < x 4 then x (160 + 3 * i + 1) else 0) = (if 0 ≤ i ∧ i < b 4 then b (160 + 3 * i + 1) else 0); rw [q4]; repeat' split) <;> first | rfl | omega | (rw [← hx]; repeat (first | rw [zfu_p (by omega)] | rw [zfu_n (by omega)]))
  | 17 => (show (if 0 ≤ i ∧ i < x 4 then x (160 + 3 * i + 2) else 0) = (if 0 ≤ i ∧ i < b 4 then b (160 + 3 * i + 2) else 0); rw [q4]; repeat' split) <;> first | rfl | omega | (rw [← hx]; repeat (first | rw [zfu_p (by omega)] | rw [zfu_n (by omega)]))
  | n + 18 => (show (0 : Int) = _); simp [zup_ap, zBV]
theorem zBV_l {b : Int → Int} (hb : (0 ≤ b 1 ∧ b 1 ≤ 6) ∧ (0 ≤ b 5 ∧ b 5 ≤ 9) ∧ (0 ≤ b 6 ∧ b 6 < 36) ∧ (0 ≤ b 2 ∧ b 2 ≤ 5) ∧ (0 ≤ b 3 ∧ b 3 ≤ 8) ∧ (0 ≤ b 4 ∧ b 4 ≤ 4)) {s t : Int} (h0 : 0 ≤ s) (h1 : s < b 2) : zBV (zfu b (90 + 6 * s + 5) t) = zup (zBV b) 9 s t := by
  generalize hx : (zfu b (90 + 6 * s + 5) t) = x
  have q1 : x 1 = b 1 := by (rw [← hx]; repeat (first | rw [zfu_p (by omega)] | rw [zfu_n (by omega)]))
  have q2 : x 2 = b 2 := by (rw [← hx]; repeat (first | rw [zfu_p (by omega)] | rw [zfu_n (by omega)]))
  have q3 : x 3 = b 3 := by (rw [← hx]; repeat (first | rw [zfu_p (by omega)] | rw [zfu_n (by omega)]))
  have q4 : x 4 = b 4 := by (rw [← hx]; repeat (first | rw [zfu_p (by omega)] | rw [zfu_n (by omega)]))
  have q5 : x 5 = b 5 := by (rw [← hx]; repeat (first | rw [zfu_p (by omega)] | rw [zfu_n (by omega)]))
  have q6 : x 6 = b 6 := by (rw [← hx]; repeat (first | rw [zfu_p (by omega)] | rw [zfu_n (by omega)]))
  funext k i
  match k with
  | 0 => (show (if 0 ≤ i ∧ i < 36 then x (10 + i) else 0) = (if 0 ≤ i ∧ i < 36 then b (10 + i) else 0); repeat' split) <;> first | rfl | omega | (rw [← hx]; repeat (first | rw [zfu_p (by omega)] | rw [zfu_n (by omega)]))
  | 1 => (show (if 0 ≤ i ∧ i < 36 then x (46 + i) else 0) = (if 0 ≤ i ∧ i < 36 then b (46 + i) else 0); repeat' split) <;> first | rfl | omega | (rw [← hx]; repeat (first | rw [zfu_p (by omega)] | rw [zfu_n (by omega)]))
  | 2 => (show (if 0 ≤ i ∧ i < x 1 then x (82 + i) else 0) = (if 0 ≤ i ∧ i < b 1 then b (82 + i) else 0); rw [q1]; repeat' split) <;> first | rfl | omega | (rw [← hx]; repeat (first | rw [zfu_p (by omega)] | rw [zfu_n (by omega)]))
  | 3 => (show (if i = 0 then x 1 else if i = 1 then x 5 else if i = 2 then x 6 else if i = 3 then x 2 else if i = 4 then x 3 else if i = 5 then x 4 else 0) = (if i = 0 then b 1 else if i = 1 then b 5 else if i = 2 then b 6 else if i = 3 then b 2 else if i = 4 then b 3 else if i = 5 then b 4 else 0); rw [q1, q2, q3, q4, q5, q6]; repeat' split) <;> first | rfl | omega | (rw [← hx]; repeat (first | rw [zfu_p (by omega)] | rw [zfu_n (by omega)]))
  | 4 => (show (if 0 ≤ i ∧ i < x 2 then x (90 + 6 * i) else 0) = (if 0 ≤ i ∧ i < b 2 then b (90 + 6 * i) else 0); rw [q2]; repeat' split) <;> first | rfl | omega | (rw [← hx]; repeat (first | rw [zfu_p (by omega)] | rw [zfu_n (by omega)]))
  | 5 => (show (if 0 ≤ i ∧ i < x 2 then x (90 + 6 * i + 1) else 0) = (if 0 ≤ i ∧ i < b 2 then b (90 + 6 * i + 1) else 0); rw [q2]; repeat' split) <;> first | rfl | omega | (rw [← hx]; repeat (first | rw [zfu_p (by omega)] | rw [zfu_n (by omega)]))
  | 6 => (show (if 0 ≤ i ∧ i < x 2 then x (90 + 6 * i + 2) else 0) = (if 0 ≤ i ∧ i < b 2 then b (90 + 6 * i + 2) else 0); rw [q2]; repeat' split) <;> first | rfl | omega | (rw [← hx]; repeat (first | rw [zfu_p (by omega)] | rw [zfu_n (by omega)]))
  | 7 => (show (if 0 ≤ i ∧ i < x 2 then x (90 + 6 * i + 3) else 0) = (if 0 ≤ i ∧ i < b 2 then b (90 + 6 * i + 3) else 0); rw [q2]; repeat' split) <;> first | rfl | omega | (rw [← hx]; repeat (first | rw [zfu_p (by omega)] | rw [zfu_n (by omega)]))
  | 8 => (show (if 0 ≤ i ∧ i < x 2 then x (90 + 6 * i + 4) else 0) = (if 0 ≤ i ∧ i < b 2 then b (90 + 6 * i + 4) else 0); rw [q2]; repeat' split) <;> first | rfl | omega | (rw [← hx]; repeat (first | rw [zfu_p (by omega)] | rw [zfu_n (by omega)]))
  | 9 => (show (if 0 ≤ i ∧ i < x 2 then x (90 + 6 * i + 5) else 0) = (if 9 = 9 ∧ i = s then t else (if 0 ≤ i ∧ i < b 2 then b (90 + 6 * i + 5) else 0)); rw [q2]; repeat' split) <;> first | rfl | omega | (rw [← hx]; repeat (first | rw [zfu_p (by omega)] | rw [zfu_n (by omega)]))
  | 10 => (show (if 0 ≤ i ∧ i < x 3 then x (120 + 5 * i) else 0) = (if 0 ≤ i ∧ i < b 3 then b (120 + 5 * i) else 0); rw [q3]; repeat' split) <;> first | rfl | omega | (rw [← hx]; repeat (first | rw [zfu_p (by omega)] | rw [zfu_n (by omega)]))
  | 11 => (show (if 0 ≤ i ∧ i < x 3 then x (120 + 5 * i + 1) else 0) = (if 0 ≤ i ∧ i < b 3 then b (120 + 5 * i + 1) else 0); rw [q3]; repeat' split) <;> first | rfl | omega | (rw [← hx]; repeat (first | rw [zfu_p (by omega)] | rw [zfu_n (by omega)]))
  | 12 => (show (if 0 ≤ i ∧ i < x 3 then x (120 + 5 * i + 2) else 0) = (if 0 ≤ i ∧ i < b 3 then b (120 + 5 * i + 2) else 0); rw [q3]; repeat' split) <;> first | rfl | omega | (rw [← hx]; repeat (first | rw [zfu_p (by omega)] | rw [zfu_n (by omega)]))
  | 13 => (show (if 0 ≤ i ∧ i < x 3 then x (120 + 5 * i + 3) else 0) = (if 0 ≤ i ∧ i < b 3 then b (120 + 5 * i + 3) else 0); rw [q3]; repeat' split) <;> first | rfl | omega | (rw [← hx]; repeat (first | rw [zfu_p (by omega)] | rw [zfu_n (by omega)]))
  | 14 => (show (if 0 ≤ i ∧ i < x 3 then x (120 + 5 * i + 4) else 0) = (if 0 ≤ i ∧ i < b 3 then b (120 + 5 * i + 4) else 0); rw [q3]; repeat' split) <;> first | rfl | omega | (rw [← hx]; repeat (first | rw [zfu_p (by omega)] | rw [zfu_n (by omega)]))
  | 15 => (show (if 0 ≤ i ∧ i < x 4 then x (160 + 3 * i) else 0) = (if 0 ≤ i ∧ i < b 4 then b (160 + 3 * i) else 0); rw [q4]; repeat' split) <;> first | rfl | omega | (rw [← hx]; repeat (first | rw [zfu_p (by omega)] | rw [zfu_n (by omega)]))
  | 16 => (show (if 0 ≤ i ∧ i < x 4 then x (160 + 3 * i + 1) else 0) = (if 0 ≤ i ∧ i < b 4 then b (160 + 3 * i + 1) else 0); rw [q4]; repeat' split) <;> first | rfl | omega | (rw [← hx]; repeat (first | rw [zfu_p (by omega)] | rw [zfu_n (by omega)]))
  | 17 => (show (if 0 ≤ i ∧ i < x 4 then x (160 + 3 * i + 2) else 0) = (if 0 ≤ i ∧ i < b 4 then b (160 + 3 * i + 2) else 0); rw [q4]; repeat' split) <;> first | rfl | omega | (rw [← hx]; repeat (first | rw [zfu_p (by omega)] | rw [zfu_n (by omega)]))
  | n + 18 => (show (0 : Int) = _); simp [zup_ap, zBV]
theorem zBV_s {b : Int → Int} (hb : (0 ≤ b 1 ∧ b 1 ≤ 6) ∧ (0 ≤ b 5 ∧ b 5 ≤ 9) ∧ (0 ≤ b 6 ∧ b 6 < 36) ∧ (0 ≤ b 2 ∧ b 2 ≤ 5) ∧ (0 ≤ b 3 ∧ b 3 ≤ 8) ∧ (0 ≤ b 4 ∧ b 4 ≤ 4)) {n a c d e9 f : Int} (hn : b 3 = n) (h5 : n ≤ 7) : zBV (zfu (zfu (zfu (zfu (zfu (zfu b (120 + 5 * n) a) (120 + 5 * n + 1) c) (120 + 5 * n + 2) d) (120 + 5 * n + 3) e9) (120 + 5 * n + 4) f) 3 (n + 1)) = zup (zup (zup (zup (zup (zup (zBV b) 10 n a) 11 n c) 12 n d) 13 n e9) 14 n f) 3 4 (n + 1) := by
  generalize hx : (zfu (zfu (zfu (zfu (zfu (zfu b (120 + 5 * n) a) (120 + 5 * n + 1) c) (120 + 5 * n + 2) d) (120 + 5 * n + 3) e9) (120 + 5 * n + 4) f) 3 (n + 1)) = x
  have q1 : x 1 = b 1 := by (rw [← hx]; repeat (first | rw [zfu_p (by omega)] | rw [zfu_n (by omega)]))
  have q2 : x 2 = b 2 := by (rw [← hx]; repeat (first | rw [zfu_p (by omega)] | rw [zfu_n (by omega)]))
  have q3 : x 3 = n + 1 := by (rw [← hx]; repeat (first | rw [zfu_p (by omega)] | rw [zfu_n (by omega)]))
  have q4 : x 4 = b 4 := by (rw [← hx]; repeat (first | rw [zfu_p (by omega)] | rw [zfu_n (by omega)]))
  have q5 : x 5 = b 5 := by (rw [← hx]; repeat (first | rw [zfu_p (by omega)] | rw [zfu_n (by omega)]))
  have q6 : x 6 = b 6 := by (rw [← hx]; repeat (first | rw [zfu_p (by omega)] | rw [zfu_n (by omega)]))
  funext k i
  match k with
  | 0 => (show (if 0 ≤ i ∧ i < 36 then x (10 + i) else 0) = (if 0 ≤ i ∧ i < 36 then b (10 + i) else 0); repeat' split) <;> first | rfl | omega | (rw [← hx]; repeat (first | rw [zfu_p (by omega)] | rw [zfu_n (by omega)]))
  | 1 => (show (if 0 ≤ i ∧ i < 36 then x (46 + i) else 0) = (if 0 ≤ i ∧ i < 36 then b (46 + i) else 0); repeat' split) <;> first | rfl | omega | (rw [← hx]; repeat (first | rw [zfu_p (by omega)] | rw [zfu_n (by omega)]))
  | 2 => (show (if 0 ≤ i ∧ i < x 1 then x (82 + i) else 0) = (if 0 ≤ i ∧ i < b 1 then b (82 + i) else 0); rw [q1]; repeat' split) <;> first | rfl | omega | (rw [← hx]; repeat (first | rw [zfu_p (by omega)] | rw [zfu_n (by omega)]))
  | 3 => (show (if i = 0 then x 1 else if i = 1 then x 5 else if i = 2 then x 6 else if i = 3 then x 2 else if i = 4 then x 3 else if i = 5 then x 4 else 0) = (if 3 = 3 ∧ i = 4 then (n + 1) else (if i = 0 then b 1 else if i = 1 then b 5 else if i = 2 then b 6 else if i = 3 then b 2 else if i = 4 then b 3 else if i = 5 then b 4 else 0)); rw [q1, q2, q3, q4, q5, q6]; repeat' split) <;> first | rfl | omega | (rw [← hx]; repeat (first | rw [zfu_p (by omega)] | rw [zfu_n (by omega)]))
  | 4 => (show (if 0 ≤ i ∧ i < x 2 then x (90 + 6 * i) else 0) = (if 0 ≤ i ∧ i < b 2 then b (90 + 6 * i) else 0); rw [q2]; repeat' split) <;> first | rfl | omega | (rw [← hx]; repeat (first | rw [zfu_p (by omega)] | rw [zfu_n (by omega)]))
  | 5 => (show (if 0 ≤ i ∧ i < x 2 then x (90 + 6 * i + 1) else 0) = (if 0 ≤ i ∧ i < b 2 then b (90 + 6 * i + 1) else 0); rw [q2]; repeat' split) <;> first | rfl | omega | (rw [← hx]; repeat (first | rw [zfu_p (by omega)] | rw [zfu_n (by omega)]))
  | 6 => (show (if 0 ≤ i ∧ i < x 2 then x (90 + 6 * i + 2) else 0) = (if 0 ≤ i ∧ i < b 2 then b (90 + 6 * i + 2) else 0); rw [q2]; repeat' split) <;> first | rfl | omega | (rw [← hx]; repeat (first | rw [zfu_p (by omega)] | rw [zfu_n (by omega)]))
  | 7 => (show (if 0 ≤ i ∧ i < x 2 then x (90 + 6 * i + 3) else 0) = (if 0 ≤ i ∧ i < b 2 then b (90 + 6 * i + 3) else 0); rw [q2]; repeat' split) <;> first | rfl | omega | (rw [← hx]; repeat (first | rw [zfu_p (by omega)] | rw [zfu_n (by omega)]))
  | 8 => (show (if 0 ≤ i ∧ i < x 2 then x (90 + 6 * i + 4) else 0) = (if 0 ≤ i ∧ i < b 2 then b (90 + 6 * i + 4) else 0); rw [q2]; repeat' split) <;> first | rfl | omega | (rw [← hx]; repeat (first | rw [zfu_p (by omega)] | rw [zfu_n (by omega)]))
  | 9 => (show (if 0 ≤ i ∧ i < x 2 then x (90 + 6 * i + 5) else 0) = (if 0 ≤ i ∧ i < b 2 then b (90 + 6 * i + 5) else 0); rw [q2]; repeat' split) <;> first | rfl | omega | (rw [← hx]; repeat (first | rw [zfu_p (by omega)] | rw [zfu_n (by omega)]))
  | 10 => (show (if 0 ≤ i ∧ i < x 3 then x (120 + 5 * i) else 0) = (if 10 = 10 ∧ i = n then a else (if 0 ≤ i ∧ i < b 3 then b (120 + 5 * i) else 0)); rw [q3]; repeat' split) <;> first | rfl | omega | (rw [← hx]; repeat (first | rw [zfu_p (by omega)] | rw [zfu_n (by omega)]))
  | 11 => (show (if 0 ≤ i ∧ i < x 3 then x (120 + 5 * i + 1) else 0) = (if 11 = 11 ∧ i = n then c else (if 0 ≤ i ∧ i < b 3 then b (120 + 5 * i + 1) else 0)); rw [q3]; repeat' split) <;> first | rfl | omega | (rw [← hx]; repeat (first | rw [zfu_p (by omega)] | rw [zfu_n (by omega)]))
  | 12 => (show (if 0 ≤ i ∧ i < x 3 then x (120 + 5 * i + 2) else 0) = (if 12 = 12 ∧ i = n then d else (if 0 ≤ i ∧ i < b 3 then b (120 + 5 * i + 2) else 0)); rw [q3]; repeat' split) <;> first | rfl | omega | (rw [← hx]; repeat (first | rw [zfu_p (by omega)] | rw [zfu_n (by omega)]))
  | 13 => (show (if 0 ≤ i ∧ i < x 3 then x (120 + 5 * i + 3) else 0) = (if 13 = 13 ∧ i = n then e9 else (if 0 ≤ i ∧ i < b 3 then b (120 + 5 * i + 3) else 0)); rw [q3]; repeat' split) <;> first | rfl | omega | (rw [← hx]; repeat (first | rw [zfu_p (by omega)] | rw [zfu_n (by omega)]))
  | 14 => (show (if 0 ≤ i ∧ i < x 3 then x (120 + 5 * i + 4) else 0) = (if 14 = 14 ∧ i = n then f else (if 0 ≤ i ∧ i < b 3 then b (120 + 5 * i + 4) else 0)); rw [q3]; repeat' split) <;> first | rfl | omega | (rw [← hx]; repeat (first | rw [zfu_p (by omega)] | rw [zfu_n (by omega)]))
  | 15 => (show (if 0 ≤ i ∧ i < x 4 then x (160 + 3 * i) else 0) = (if 0 ≤ i ∧ i < b 4 then b (160 + 3 * i) else 0); rw [q4]; repeat' split) <;> first | rfl | omega | (rw [← hx]; repeat (first | rw [zfu_p (by omega)] | rw [zfu_n (by omega)]))
  | 16 => (show (if 0 ≤ i ∧ i < x 4 then x (160 + 3 * i + 1) else 0) = (if 0 ≤ i ∧ i < b 4 then b (160 + 3 * i + 1) else 0); rw [q4]; repeat' split) <;> first | rfl | omega | (rw [← hx]; repeat (first | rw [zfu_p (by omega)] | rw [zfu_n (by omega)]))
  | 17 => (show (if 0 ≤ i ∧ i < x 4 then x (160 + 3 * i + 2) else 0) = (if 0 ≤ i ∧ i < b 4 then b (160 + 3 * i + 2) else 0); rw [q4]; repeat' split) <;> first | rfl | omega | (rw [← hx]; repeat (first | rw [zfu_p (by omega)] | rw [zfu_n (by omega)]))
  | n + 18 => (show (0 : Int) = _); simp [zup_ap, zBV]
theorem zBV_r {b : Int → Int} (hb : (0 ≤ b 1 ∧ b 1 ≤ 6) ∧ (0 ≤ b 5 ∧ b 5 ≤ 9) ∧ (0 ≤ b 6 ∧ b 6 < 36) ∧ (0 ≤ b 2 ∧ b 2 ≤ 5) ∧ (0 ≤ b 3 ∧ b 3 ≤ 8) ∧ (0 ≤ b 4 ∧ b 4 ≤ 4)) {n a c d : Int} (hn : b 4 = n) (h5 : n ≤ 3) : zBV (zfu (zfu (zfu (zfu b (160 + 3 * n) a) (160 + 3 * n + 1) c) (160 + 3 * n + 2) d) 4 (n + 1)) = zup (zup (zup (zup (zBV b) 15 n a) 16 n c) 17 n d) 3 5 (n + 1) := by
  generalize hx : (zfu (zfu (zfu (zfu b (160 + 3 * n) a) (160 + 3 * n + 1) c) (160 + 3 * n + 2) d) 4 (n + 1)) = x
  have q1 : x 1 = b 1 := by (rw [← hx]; repeat (first | rw [zfu_p (by omega)] | rw [zfu_n (by omega)]))
  have q2 : x 2 = b 2 := by (rw [← hx]; repeat (first | rw [zfu_p (by omega)] | rw [zfu_n (by omega)]))
  have q3 : x 3 = b 3 := by (rw [← hx]; repeat (first | rw [zfu_p (by omega)] | rw [zfu_n (by omega)]))
  have q4 : x 4 = n + 1 := by (rw [← hx]; repeat (first | rw [zfu_p (by omega)] | rw [zfu_n (by omega)]))
  have q5 : x 5 = b 5 := by (rw [← hx]; repeat (first | rw [zfu_p (by omega)] | rw [zfu_n (by omega)]))
  have q6 : x 6 = b 6 := by (rw [← hx]; repeat (first | rw [zfu_p (by omega)] | rw [zfu_n (by omega)]))
  funext k i
  match k with
  | 0 => (show (if 0 ≤ i ∧ i < 36 then x (10 + i) else 0) = (if 0 ≤ i ∧ i < 36 then b (10 + i) else 0); repeat' split) <;> first | rfl | omega | (rw [← hx]; repeat (first | rw [zfu_p (by omega)] | rw [zfu_n (by omega)]))
  | 1 => (show (if 0 ≤ i ∧ i < 36 then x (46 + i) else 0) = (if 0 ≤ i ∧ i < 36 then b (46 + i) else 0); repeat' split) <;> first | rfl | omega | (rw [← hx]; repeat (first | rw [zfu_p (by omega)] | rw [zfu_n (by omega)]))
  | 2 => (show (if 0 ≤ i ∧ i < x 1 then x (82 + i) else 0) = (if 0 ≤ i ∧ i < b 1 then b (82 + i) else 0); rw [q1]; repeat' split) <;> first | rfl | omega | (rw [← hx]; repeat (first | rw [zfu_p (by omega)] | rw [zfu_n (by omega)]))
  | 3 => (show (if i = 0 then x 1 else if i = 1 then x 5 else if i = 2 then x 6 else if i = 3 then x 2 else if i = 4 then x 3 else if i = 5 then x 4 else 0) = (if 3 = 3 ∧ i = 5 then (n + 1) else (if i = 0 then b 1 else if i = 1 then b 5 else if i = 2 then b 6 else if i = 3 then b 2 else if i = 4 then b 3 else if i = 5 then b 4 else 0)); rw [q1, q2, q3, q4, q5, q6]; repeat' split) <;> first | rfl | omega | (rw [← hx]; repeat (first | rw [zfu_p (by omega)] | rw [zfu_n (by omega)]))
  | 4 => (show (if 0 ≤ i ∧ i < x 2 then x (90 + 6 * i) else 0) = (if 0 ≤ i ∧ i < b 2 then b (90 + 6 * i) else 0); rw [q2]; repeat' split) <;> first | rfl | omega | (rw [← hx]; repeat (first | rw [zfu_p (by omega)] | rw [zfu_n (by omega)]))
  | 5 => (show (if 0 ≤ i ∧ i < x 2 then x (90 + 6 * i + 1) else 0) = (if 0 ≤ i ∧ i < b 2 then b (90 + 6 * i + 1) else 0); rw [q2]; repeat' split) <;> first | rfl | omega | (rw [← hx]; repeat (first | rw [zfu_p (by omega)] | rw [zfu_n (by omega)]))
  | 6 => (show (if 0 ≤ i ∧ i < x 2 then x (90 + 6 * i + 2) else 0) = (if 0 ≤ i ∧ i < b 2 then b (90 + 6 * i + 2) else 0); rw [q2]; repeat' split) <;> first | rfl | omega | (rw [← hx]; repeat (first | rw [zfu_p (by omega)] | rw [zfu_n (by omega)]))
  | 7 => (show (if 0 ≤ i ∧ i < x 2 then x (90 + 6 * i + 3) else 0) = (if 0 ≤ i ∧ i < b 2 then b (90 + 6 * i + 3) else 0); rw [q2]; repeat' split) <;> first | rfl | omega | (rw [← hx]; repeat (first | rw [zfu_p (by omega)] | rw [zfu_n (by omega)]))
  | 8 => (show (if 0 ≤ i ∧ i < x 2 then x (90 + 6 * i + 4) else 0) = (if 0 ≤ i ∧ i < b 2 then b (90 + 6 * i + 4) else 0); rw [q2]; repeat' split) <;> first | rfl | omega | (rw [← hx]; repeat (first | rw [zfu_p (by omega)] | rw [zfu_n (by omega)]))
  | 9 => (show (if 0 ≤ i ∧ i < x 2 then x (90 + 6 * i + 5) else 0) = (if 0 ≤ i ∧ i < b 2 then b (90 + 6 * i + 5) else 0); rw [q2]; repeat' split) <;> first | rfl | omega | (rw [← hx]; repeat (first | rw [zfu_p (by omega)] | rw [zfu_n (by omega)]))
  | 10 => (show (if 0 ≤ i ∧ i < x 3 then x (120 + 5 * i) else 0) = (if 0 ≤ i ∧ i < b 3 then b (120 + 5 * i) else 0); rw [q3]; repeat' split) <;> first | rfl | omega | (rw [← hx]; repeat (first | rw [zfu_p (by omega)] | rw [zfu_n (by omega)]))
  | 11 => (show (if 0 ≤ i ∧ i < x 3 then x (120 + 5 * i + 1) else 0) = (if 0 ≤ i ∧ i < b 3 then b (120 + 5 * i + 1) else 0); rw [q3]; repeat' split) <;> first | rfl | omega | (rw [← hx]; repeat (first | rw [zfu_p (by omega)] | rw [zfu_n (by omega)]))
  | 12 => (show (if 0 ≤ i ∧ i < x 3 then x (120 + 5 * i + 2) else 0) = (if 0 ≤ i ∧ i < b 3 then b (120 + 5 * i + 2) else 0); rw [q3]; repeat' split) <;> first | rfl | omega | (rw [← hx]; repeat (first | rw [zfu_p (by omega)] | rw [zfu_n (by omega)]))
  | 13 => (show (if 0 ≤ i ∧ i < x 3 then x (120 + 5 * i + 3) else 0) = (if 0 ≤ i ∧ i < b 3 then b (120 + 5 * i + 3) else 0); rw [q3]; repeat' split) <;> first | rfl | omega | (rw [← hx]; repeat (first | rw [zfu_p (by omega)] | rw [zfu_n (by omega)]))
  | 14 => (show (if 0 ≤ i ∧ i < x 3 then x (120 + 5 * i + 4) else 0) = (if 0 ≤ i ∧ i < b 3 then b (120 + 5 * i + 4) else 0); rw [q3]; repeat' split) <;> first | rfl | omega | (rw [← hx]; repeat (first | rw [zfu_p (by omega)] | rw [zfu_n (by omega)]))
  | 15 => (show (if 0 ≤ i ∧ i < x 4 then x (160 + 3 * i) else 0) = (if 15 = 15 ∧ i = n then a else (if 0 ≤ i ∧ i < b 4 then b (160 + 3 * i) else 0)); rw [q4]; repeat' split) <;> first | rfl | omega | (rw [← hx]; repeat (first | rw [zfu_p (by omega)] | rw [zfu_n (by omega)]))
  | 16 => (show (if 0 ≤ i ∧ i < x 4 then x (160 + 3 * i + 1) else 0) = (if 16 = 16 ∧ i = n then c else (if 0 ≤ i ∧ i < b 4 then b (160 + 3 * i + 1) else 0)); rw [q4]; repeat' split) <;> first | rfl | omega | (rw [← hx]; repeat (first | rw [zfu_p (by omega)] | rw [zfu_n (by omega)]))
  | 17 => (show (if 0 ≤ i ∧ i < x 4 then x (160 + 3 * i + 2) else 0) = (if 17 = 17 ∧ i = n then d else (if 0 ≤ i ∧ i < b 4 then b (160 + 3 * i + 2) else 0)); rw [q4]; repeat' split) <;> first | rfl | omega | (rw [← hx]; repeat (first | rw [zfu_p (by omega)] | rw [zfu_n (by omega)]))
  | n + 18 => (show (0 : Int) = _); simp [zup_ap, zBV]
theorem zdrop_in {V : zM} {k : Nat} {i : Int} (h1 : 10 ≤ k) (h2 : k ≤ 14) (e : i = V 3 4 - 1) : zdropS V k i = 0 := if_pos ⟨h1, h2, e⟩
theorem zdrop_out {V : zM} {k : Nat} {i : Int} (h1 : 10 ≤ k) (e : i ≠ V 3 4 - 1) : zdropS V k i = V k i := by unfold zdropS; rw [if_neg (fun q => e q.2.2), if_neg (by omega)]
theorem zBV_x {b : Int → Int} (hb : (0 ≤ b 1 ∧ b 1 ≤ 6) ∧ (0 ≤ b 5 ∧ b 5 ≤ 9) ∧ (0 ≤ b 6 ∧ b 6 < 36) ∧ (0 ≤ b 2 ∧ b 2 ≤ 5) ∧ (0 ≤ b 3 ∧ b 3 ≤ 8) ∧ (0 ≤ b 4 ∧ b 4 ≤ 4)) (h1 : 1 ≤ b 3) : zBV (zfu b 3 (b 3 - 1)) = zdropS (zBV b) := by
  generalize hx : (zfu b 3 (b 3 - 1)) = x
  have q1 : x 1 = b 1 := by (rw [← hx]; repeat (first | rw [zfu_p (by omega)] | rw [zfu_n (by omega)]))
  have q2 : x 2 = b 2 := by (rw [← hx]; repeat (first | rw [zfu_p (by omega)] | rw [zfu_n (by omega)]))
  have q3 : x 3 = b 3 - 1 := by (rw [← hx]; repeat (first | rw [zfu_p (by omega)] | rw [zfu_n (by omega)]))
  have q4 : x 4 = b 4 := by (rw [← hx]; repeat (first | rw [zfu_p (by omega)] | rw [zfu_n (by omega)]))
  have q5 : x 5 = b 5 := by (rw [← hx]; repeat (first | rw [zfu_p (by omega)] | rw [zfu_n (by omega)]))
  have q6 : x 6 = b 6 := by (rw [← hx]; repeat (first | rw [zfu_p (by omega)] | rw [zfu_n (by omega)]))
  funext k i
  match k with
  | 0 => (show (if 0 ≤ i ∧ i < 36 then x (10 + i) else 0) = (if 0 ≤ i ∧ i < 36 then b (10 + i) else 0); repeat' split) <;> first | rfl | omega | (rw [← hx]; repeat (first | rw [zfu_p (by omega)] | rw [zfu_n (by omega)]))
  | 1 => (show (if 0 ≤ i ∧ i < 36 then x (46 + i) else 0) = (if 0 ≤ i ∧ i < 36 then b (46 + i) else 0); repeat' split) <;> first | rfl | omega | (rw [← hx]; repeat (first | rw [zfu_p (by omega)] | rw [zfu_n (by omega)]))
  | 2 => (show (if 0 ≤ i ∧ i < x 1 then x (82 + i) else 0) = (if 0 ≤ i ∧ i < b 1 then b (82 + i) else 0); rw [q1]; repeat' split) <;> first | rfl | omega | (rw [← hx]; repeat (first | rw [zfu_p (by omega)] | rw [zfu_n (by omega)]))
  | 3 => (show (if i = 0 then x 1 else if i = 1 then x 5 else if i = 2 then x 6 else if i = 3 then x 2 else if i = 4 then x 3 else if i = 5 then x 4 else 0) = (if 3 = 3 ∧ i = 4 then b 3 - 1 else (if i = 0 then b 1 else if i = 1 then b 5 else if i = 2 then b 6 else if i = 3 then b 2 else if i = 4 then b 3 else if i = 5 then b 4 else 0)); rw [q1, q2, q3, q4, q5, q6]; repeat' split) <;> first | rfl | omega | (rw [← hx]; repeat (first | rw [zfu_p (by omega)] | rw [zfu_n (by omega)]))
  | 4 => (show (if 0 ≤ i ∧ i < x 2 then x (90 + 6 * i) else 0) = (if 0 ≤ i ∧ i < b 2 then b (90 + 6 * i) else 0); rw [q2]; repeat' split) <;> first | rfl | omega | (rw [← hx]; repeat (first | rw [zfu_p (by omega)] | rw [zfu_n (by omega)]))
  | 5 => (show (if 0 ≤ i ∧ i < x 2 then x (90 + 6 * i + 1) else 0) = (if 0 ≤ i ∧ i < b 2 then b (90 + 6 * i + 1) else 0); rw [q2]; repeat' split) <;> first | rfl | omega | (rw [← hx]; repeat (first | rw [zfu_p (by omega)] | rw [zfu_n (by omega)]))
  | 6 => (show (if 0 ≤ i ∧ i < x 2 then x (90 + 6 * i + 2) else 0) = (if 0 ≤ i ∧ i < b 2 then b (90 + 6 * i + 2) else 0); rw [q2]; repeat' split) <;> first | rfl | omega | (rw [← hx]; repeat (first | rw [zfu_p (by omega)] | rw [zfu_n (by omega)]))
  | 7 => (show (if 0 ≤ i ∧ i < x 2 then x (90 + 6 * i + 3) else 0) = (if 0 ≤ i ∧ i < b 2 then b (90 + 6 * i + 3) else 0); rw [q2]; repeat' split) <;> first | rfl | omega | (rw [← hx]; repeat (first | rw [zfu_p (by omega)] | rw [zfu_n (by omega)]))
  | 8 => (show (if 0 ≤ i ∧ i < x 2 then x (90 + 6 * i + 4) else 0) = (if 0 ≤ i ∧ i < b 2 then b (90 + 6 * i + 4) else 0); rw [q2]; repeat' split) <;> first | rfl | omega | (rw [← hx]; repeat (first | rw [zfu_p (by omega)] | rw [zfu_n (by omega)]))
  | 9 => (show (if 0 ≤ i ∧ i < x 2 then x (90 + 6 * i + 5) else 0) = (if 0 ≤ i ∧ i < b 2 then b (90 + 6 * i + 5) else 0); rw [q2]; repeat' split) <;> first | rfl | omega | (rw [← hx]; repeat (first | rw [zfu_p (by omega)] | rw [zfu_n (by omega)]))
  | 10 =>
    by_cases e : i = b 3 - 1
    · rw [zdrop_in (by decide) (by decide) e]; show (if 0 ≤ i ∧ i < x 3 then x (120 + 5 * i) else 0) = 0; rw [q3, if_neg (by omega)]
    · rw [zdrop_out (by decide) e]; show (if 0 ≤ i ∧ i < x 3 then x (120 + 5 * i) else 0) = (if 0 ≤ i ∧ i < b 3 then b (120 + 5 * i) else 0); rw [q3]; by_cases r : 0 ≤ i ∧ i < b 3 - 1
      · rw [if_pos r, if_pos (by omega), ← hx, zfu_n (by omega)]
      · rw [if_neg r, if_neg (by omega)]
  | 11 =>
    by_cases e : i = b 3 - 1
    · rw [zdrop_in (by decide) (by decide) e]; show (if 0 ≤ i ∧ i < x 3 then x (120 + 5 * i + 1) else 0) = 0; rw [q3, if_neg (by omega)]
    · rw [zdrop_out (by decide) e]; show (if 0 ≤ i ∧ i < x 3 then x (120 + 5 * i + 1) else 0) = (if 0 ≤ i ∧ i < b 3 then b (120 + 5 * i + 1) else 0); rw [q3]; by_cases r : 0 ≤ i ∧ i < b 3 - 1
      · rw [if_pos r, if_pos (by omega), ← hx, zfu_n (by omega)]
      · rw [if_neg r, if_neg (by omega)]
  | 12 =>
    by_cases e : i = b 3 - 1
    · rw [zdrop_in (by decide) (by decide) e]; show (if 0 ≤ i ∧ i < x 3 then x (120 + 5 * i + 2) else 0) = 0; rw [q3, if_neg (by omega)]
    · rw [zdrop_out (by decide) e]; show (if 0 ≤ i ∧ i < x 3 then x (120 + 5 * i + 2) else 0) = (if 0 ≤ i ∧ i < b 3 then b (120 + 5 * i + 2) else 0); rw [q3]; by_cases r : 0 ≤ i ∧ i < b 3 - 1
      · rw [if_pos r, if_pos (by omega), ← hx, zfu_n (by omega)]
      · rw [if_neg r, if_neg (by omega)]
  | 13 =>
    by_cases e : i = b 3 - 1
    · rw [zdrop_in (by decide) (by decide) e]; show (if 0 ≤ i ∧ i < x 3 then x (120 + 5 * i + 3) else 0) = 0; rw [q3, if_neg (by omega)]
    · rw [zdrop_out (by decide) e]; show (if 0 ≤ i ∧ i < x 3 then x (120 + 5 * i + 3) else 0) = (if 0 ≤ i ∧ i < b 3 then b (120 + 5 * i + 3) else 0); rw [q3]; by_cases r : 0 ≤ i ∧ i < b 3 - 1
      · rw [if_pos r, if_pos (by omega), ← hx, zfu_n (by omega)]
      · rw [if_neg r, if_neg (by omega)]
  | 14 =>
    by_cases e : i = b 3 - 1
    · rw [zdrop_in (by decide) (by decide) e]; show (if 0 ≤ i ∧ i < x 3 then x (120 + 5 * i + 4) else 0) = 0; rw [q3, if_neg (by omega)]
    · rw [zdrop_out (by decide) e]; show (if 0 ≤ i ∧ i < x 3 then x (120 + 5 * i + 4) else 0) = (if 0 ≤ i ∧ i < b 3 then b (120 + 5 * i + 4) else 0); rw [q3]; by_cases r : 0 ≤ i ∧ i < b 3 - 1
      · rw [if_pos r, if_pos (by omega), ← hx, zfu_n (by omega)]
      · rw [if_neg r, if_neg (by omega)]
  | 15 => (show (if 0 ≤ i ∧ i < x 4 then x (160 + 3 * i) else 0) = (if 0 ≤ i ∧ i < b 4 then b (160 + 3 * i) else 0); rw [q4]; repeat' split) <;> first | rfl | omega | (rw [← hx]; repeat (first | rw [zfu_p (by omega)] | rw [zfu_n (by omega)]))
  | 16 => (show (if 0 ≤ i ∧ i < x 4 then x (160 + 3 * i + 1) else 0) = (if 0 ≤ i ∧ i < b 4 then b (160 + 3 * i + 1) else 0); rw [q4]; repeat' split) <;> first | rfl | omega | (rw [← hx]; repeat (first | rw [zfu_p (by omega)] | rw [zfu_n (by omega)]))
  | 17 => (show (if 0 ≤ i ∧ i < x 4 then x (160 + 3 * i + 2) else 0) = (if 0 ≤ i ∧ i < b 4 then b (160 + 3 * i + 2) else 0); rw [q4]; repeat' split) <;> first | rfl | omega | (rw [← hx]; repeat (first | rw [zfu_p (by omega)] | rw [zfu_n (by omega)]))
  | n + 18 => (show (0 : Int) = (if 10 ≤ n + 18 ∧ n + 18 ≤ 14 ∧ i = b 3 - 1 then 0 else if n + 18 = 3 ∧ i = 4 then b 3 - 1 else 0); rw [if_neg (by omega), if_neg (by omega)])
theorem zBV_e {b : Int → Int} (hb : (0 ≤ b 1 ∧ b 1 ≤ 6) ∧ (0 ≤ b 5 ∧ b 5 ≤ 9) ∧ (0 ≤ b 6 ∧ b 6 < 36) ∧ (0 ≤ b 2 ∧ b 2 ≤ 5) ∧ (0 ≤ b 3 ∧ b 3 ≤ 8) ∧ (0 ≤ b 4 ∧ b 4 ≤ 4)) : zBV (zfu b 4 0) = zfree (zBV b) := by
  generalize hx : (zfu b 4 0) = x
  have q1 : x 1 = b 1 := by (rw [← hx]; repeat (first | rw [zfu_p (by omega)] | rw [zfu_n (by omega)]))
  have q2 : x 2 = b 2 := by (rw [← hx]; repeat (first | rw [zfu_p (by omega)] | rw [zfu_n (by omega)]))
  have q3 : x 3 = b 3 := by (rw [← hx]; repeat (first | rw [zfu_p (by omega)] | rw [zfu_n (by omega)]))
  have q4 : x 4 = 0 := by (rw [← hx]; repeat (first | rw [zfu_p (by omega)] | rw [zfu_n (by omega)]))
  have q5 : x 5 = b 5 := by (rw [← hx]; repeat (first | rw [zfu_p (by omega)] | rw [zfu_n (by omega)]))
  have q6 : x 6 = b 6 := by (rw [← hx]; repeat (first | rw [zfu_p (by omega)] | rw [zfu_n (by omega)]))
  funext k i
  match k with
  | 0 => (show (if 0 ≤ i ∧ i < 36 then x (10 + i) else 0) = (if 0 ≤ i ∧ i < 36 then b (10 + i) else 0); repeat' split) <;> first | rfl | omega | (rw [← hx]; repeat (first | rw [zfu_p (by omega)] | rw [zfu_n (by omega)]))
  | 1 => (show (if 0 ≤ i ∧ i < 36 then x (46 + i) else 0) = (if 0 ≤ i ∧ i < 36 then b (46 + i) else 0); repeat' split) <;> first | rfl | omega | (rw [← hx]; repeat (first | rw [zfu_p (by omega)] | rw [zfu_n (by omega)]))
  | 2 => (show (if 0 ≤ i ∧ i < x 1 then x (82 + i) else 0) = (if 0 ≤ i ∧ i < b 1 then b (82 + i) else 0); rw [q1]; repeat' split) <;> first | rfl | omega | (rw [← hx]; repeat (first | rw [zfu_p (by omega)] | rw [zfu_n (by omega)]))
  | 3 => (show (if i = 0 then x 1 else if i = 1 then x 5 else if i = 2 then x 6 else if i = 3 then x 2 else if i = 4 then x 3 else if i = 5 then x 4 else 0) = (if 3 = 3 ∧ i = 5 then 0 else (if i = 0 then b 1 else if i = 1 then b 5 else if i = 2 then b 6 else if i = 3 then b 2 else if i = 4 then b 3 else if i = 5 then b 4 else 0)); rw [q1, q2, q3, q4, q5, q6]; repeat' split) <;> first | rfl | omega | (rw [← hx]; repeat (first | rw [zfu_p (by omega)] | rw [zfu_n (by omega)]))
  | 4 => (show (if 0 ≤ i ∧ i < x 2 then x (90 + 6 * i) else 0) = (if 0 ≤ i ∧ i < b 2 then b (90 + 6 * i) else 0); rw [q2]; repeat' split) <;> first | rfl | omega | (rw [← hx]; repeat (first | rw [zfu_p (by omega)] | rw [zfu_n (by omega)]))
  | 5 => (show (if 0 ≤ i ∧ i < x 2 then x (90 + 6 * i + 1) else 0) = (if 0 ≤ i ∧ i < b 2 then b (90 + 6 * i + 1) else 0); rw [q2]; repeat' split) <;> first | rfl | omega | (rw [← hx]; repeat (first | rw [zfu_p (by omega)] | rw [zfu_n (by omega)]))
  | 6 => (show (if 0 ≤ i ∧ i < x 2 then x (90 + 6 * i + 2) else 0) = (if 0 ≤ i ∧ i < b 2 then b (90 + 6 * i + 2) else 0); rw [q2]; repeat' split) <;> first | rfl | omega | (rw [← hx]; repeat (first | rw [zfu_p (by omega)] | rw [zfu_n (by omega)]))
  | 7 => (show (if 0 ≤ i ∧ i < x 2 then x (90 + 6 * i + 3) else 0) = (if 0 ≤ i ∧ i < b 2 then b (90 + 6 * i + 3) else 0); rw [q2]; repeat' split) <;> first | rfl | omega | (rw [← hx]; repeat (first | rw [zfu_p (by omega)] | rw [zfu_n (by omega)]))
  | 8 => (show (if 0 ≤ i ∧ i < x 2 then x (90 + 6 * i + 4) else 0) = (if 0 ≤ i ∧ i < b 2 then b (90 + 6 * i + 4) else 0); rw [q2]; repeat' split) <;> first | rfl | omega | (rw [← hx]; repeat (first | rw [zfu_p (by omega)] | rw [zfu_n (by omega)]))
  | 9 => (show (if 0 ≤ i ∧ i < x 2 then x (90 + 6 * i + 5) else 0) = (if 0 ≤ i ∧ i < b 2 then b (90 + 6 * i + 5) else 0); rw [q2]; repeat' split) <;> first | rfl | omega | (rw [← hx]; repeat (first | rw [zfu_p (by omega)] | rw [zfu_n (by omega)]))
  | 10 => (show (if 0 ≤ i ∧ i < x 3 then x (120 + 5 * i) else 0) = (if 0 ≤ i ∧ i < b 3 then b (120 + 5 * i) else 0); rw [q3]; repeat' split) <;> first | rfl | omega | (rw [← hx]; repeat (first | rw [zfu_p (by omega)] | rw [zfu_n (by omega)]))
  | 11 => (show (if 0 ≤ i ∧ i < x 3 then x (120 + 5 * i + 1) else 0) = (if 0 ≤ i ∧ i < b 3 then b (120 + 5 * i + 1) else 0); rw [q3]; repeat' split) <;> first | rfl | omega | (rw [← hx]; repeat (first | rw [zfu_p (by omega)] | rw [zfu_n (by omega)]))
  | 12 => (show (if 0 ≤ i ∧ i < x 3 then x (120 + 5 * i + 2) else 0) = (if 0 ≤ i ∧ i < b 3 then b (120 + 5 * i + 2) else 0); rw [q3]; repeat' split) <;> first | rfl | omega | (rw [← hx]; repeat (first | rw [zfu_p (by omega)] | rw [zfu_n (by omega)]))
  | 13 => (show (if 0 ≤ i ∧ i < x 3 then x (120 + 5 * i + 3) else 0) = (if 0 ≤ i ∧ i < b 3 then b (120 + 5 * i + 3) else 0); rw [q3]; repeat' split) <;> first | rfl | omega | (rw [← hx]; repeat (first | rw [zfu_p (by omega)] | rw [zfu_n (by omega)]))
  | 14 => (show (if 0 ≤ i ∧ i < x 3 then x (120 + 5 * i + 4) else 0) = (if 0 ≤ i ∧ i < b 3 then b (120 + 5 * i + 4) else 0); rw [q3]; repeat' split) <;> first | rfl | omega | (rw [← hx]; repeat (first | rw [zfu_p (by omega)] | rw [zfu_n (by omega)]))
  | 15 => (show (if 0 ≤ i ∧ i < x 4 then x (160 + 3 * i) else 0) = (0); rw [q4]; repeat' split) <;> first | rfl | omega | (rw [← hx]; repeat (first | rw [zfu_p (by omega)] | rw [zfu_n (by omega)]))
  | 16 => (show (if 0 ≤ i ∧ i < x 4 then x (160 + 3 * i + 1) else 0) = (0); rw [q4]; repeat' split) <;> first | rfl | omega | (rw [← hx]; repeat (first | rw [zfu_p (by omega)] | rw [zfu_n (by omega)]))
  | 17 => (show (if 0 ≤ i ∧ i < x 4 then x (160 + 3 * i + 2) else 0) = (0); rw [q4]; repeat' split) <;> first | rfl | omega | (rw [← hx]; repeat (first | rw [zfu_p (by omega)] | rw [zfu_n (by omega)]))
  | n + 18 => (show (0 : Int) = (if 15 ≤ n + 18 ∧ n + 18 ≤ 17 then 0 else if n + 18 = 3 ∧ i = 5 then 0 else 0); repeat' split; all_goals rfl)
/-- what a refusal adds to the status -/
def zRk (q z j : Int) : Int := if q = 0 ∧ z = -2 - j then 1 else 0
/-- the reference is in order -/
def zMpre (μ : zM) : Prop := zOK (zBV (μ 394)) ∧ μ 394 0 = zsum (zBV (μ 394) 0) 36 ∧ (∀ j, 0 ≤ j → j < 3 → 0 ≤ μ 398 j ∧ μ 398 j ≤ 100000) ∧ (μ 393 7 = 0 ∨ μ 393 7 = 1)
/-- behind a call of the house: its answer, the picture, the status; nothing else is written -/
def zMp (sp : Int × zM) (z : Int) (μ : zM) (r : Option zAV) (ν : zM) : Prop := r = some (zI z) ∧ zBV (ν 394) = sp.2 ∧ ν 394 0 = zsum (sp.2 0) 36 ∧ (∀ j, 0 ≤ j → j < 3 → ν 398 j = μ 398 j + zRk (μ 393 7) sp.1 j) ∧ ∀ a, a ≠ 394 → a ≠ 398 → ν a = μ a
def zq1 (μ : zM) : Int := if μ 393 7 = 0 then 1 else 0
theorem zMbad {sp : Int × zM} {z k : Int} {μ : zM} (hm : zMpre μ) (e : sp = (-2 - k, zBV (μ 394))) : zMp sp z μ (some (zI z)) (zup μ 398 k (μ 398 k + zq1 μ)) := by
  subst e
  refine ⟨rfl, by rw [zup_row (by decide)], by rw [zup_row (by decide)]; exact hm.2.1, fun j j0 j1 => ?_, fun a h1 h2 => zup_row h2⟩
  rw [zup_ap]
  unfold zRk zq1
  by_cases q : j = k
  · subst q
    rw [if_pos ⟨rfl, rfl⟩]
    by_cases q2 : μ 393 7 = 0
    · rw [if_pos q2, if_pos ⟨q2, rfl⟩]
    · rw [if_neg q2, if_neg (fun r => q2 r.1)]
  · rw [if_neg (fun r => q r.2), if_neg (fun r => q (by have := r.2; omega)), Int.add_zero]
theorem zMok {sp : Int × zM} {z : Int} {V2 : zM} {μ ν : zM} (e : sp = (z, V2)) (hz : -1 ≤ z) (hv : zBV (ν 394) = V2) (hw : ν 394 0 = zsum (V2 0) 36) (hf : ∀ a, a ≠ 394 → ν a = μ a) : zMp sp z μ (some (zI z)) ν := by
  subst e
  refine ⟨rfl, hv, hw, fun j j0 j1 => ?_, fun a h1 _ => hf a h1⟩
  rw [hf 398 (by decide)]
  unfold zRk
  rw [if_neg (by intro r; have := r.2; dsimp only at this; omega), Int.add_zero]
theorem zsum_c {f g : Int → Int} : ∀ {n : Nat}, (∀ i : Int, 0 ≤ i → i < n → f i = g i) → zsum f n = zsum g n
  | 0, _ => rfl
  | n + 1, h => by rw [zsum_s, zsum_s, zsum_c (n := n) (fun i a b => h i a (by omega)), h n (by omega) (by omega)]
theorem zsum_u {f : Int → Int} {c s : Int} : ∀ {n : Nat}, 0 ≤ c → c < n → zsum (fun x => if x = c then s else f x) n = zsum f n + s - f c
  | 0, h0, h1 => by omega
  | n + 1, h0, h1 => by
    rw [zsum_s, zsum_s]
    by_cases e : c = n
    · rw [if_pos e.symm, zsum_c (g := f) (fun i a b => if_neg (by omega)), e]; omega
    · rw [zsum_u (n := n) h0 (by omega), if_neg (fun q => e q.symm)]; omega
set_option maxRecDepth 100000 in
set_option maxHeartbeats 4000000 in
theorem k_X12_in {l : Launch} {E : zE} {v lo hi : Int} {μ : zM} : Ct l E yX12_in cX12_in 6 (some .boolean) ({ frames := 0, cells := 0, slots := 0, locals := 0 }) [zL v, zL lo, zL hi] μ (fun r ν => r = some (zI (zb (lo ≤ v ∧ v ≤ hi))) ∧ ν = μ) := by
  refine Ct.of RX12 [zL v, zU, zL lo, zU, zL hi, zU] (by decide +kernel) rfl ⟨rfl, rfl⟩ rfl (Nat.le_of_ble_eq_true rfl) (fun X hX hc0 ha0 => ?_)
  subst hX
  refine z_lload_0 dX12_in_0 ?_
  refine z_lload_2 dX12_in_1 ?_
  refine z_lcmp dX12_in_2 ?_
  refine z_iflt (tgt := 17) dX12_in_3 (by decide) (fun h_3 => ?_) (fun h_3 => ?_)
  · rw [zcmp_lt] at h_3
    refine z_iconst dX12_in_17 (by decide) ?_
    exact z_zret (by decide) dX12_in_18 (by first | exact zb_r ⟨by omega, by omega⟩ rfl | exact zb_r0 (by omega) rfl)
  · rw [zcmp_ge] at h_3
    refine z_lload_0 dX12_in_6 ?_
    refine z_lload_4 dX12_in_7 ?_
    refine z_lcmp dX12_in_9 ?_
    refine z_ifgt (tgt := 17) dX12_in_10 (by decide) (fun h_10 => ?_) (fun h_10 => ?_)
    · rw [zcmp_gt] at h_10
      refine z_iconst dX12_in_17 (by decide) ?_
      exact z_zret (by decide) dX12_in_18 (by first | exact zb_r ⟨by omega, by omega⟩ rfl | exact zb_r0 (by omega) rfl)
    · rw [zcmp_le] at h_10
      refine z_iconst dX12_in_13 (by decide) ?_
      refine z_goto (tgt := 18) dX12_in_14 (by decide) ?_
      exact z_zret (by decide) dX12_in_18 (by first | exact zb_r ⟨by omega, by omega⟩ rfl | exact zb_r0 (by omega) rfl)
set_option maxRecDepth 100000 in
set_option maxHeartbeats 4000000 in
theorem k_X12_isCell {l : Launch} {E : zE} {v : Int} {μ : zM} : Ct l E yX12_isCell cX12_isCell 1 (some .boolean) ({ frames := 1, cells := 0, slots := 0, locals := 25 }) [zI v] μ (fun r ν => r = some (zI (zb (0 ≤ v ∧ v < 36))) ∧ ν = μ) := by
  refine Ct.of RX12 [zI v] (by decide +kernel) rfl ⟨rfl, rfl⟩ rfl (Nat.le_of_ble_eq_true rfl) (fun X hX hc0 ha0 => ?_)
  subst hX
  refine z_iload_0 dX12_isCell_0 ?_
  refine z_i2l dX12_isCell_1 ?_
  refine z_lconst0 dX12_isCell_2 ?_
  refine z_ldc2 (n := 35) k_X12_104 dX12_isCell_3 (by decide +kernel) ?_
  refine z_callS3 (k_X12_in) m_X12_in l_X12_106 (Nat.le_of_ble_eq_true rfl) ⟨Nat.le_of_ble_eq_true rfl, Nat.le_of_ble_eq_true rfl⟩ ⟨rfl, rfl⟩ dX12_isCell_6 (fun r μ1 hp => ?_)
  obtain ⟨rfl, hv⟩ := hp
  replace hv := hv.symm
  subst hv
  exact z_zret zb_01 dX12_isCell_9 (⟨congrArg (fun z => (some (zI z) : Option zAV)) (zb_c (by omega)), rfl⟩)
set_option maxRecDepth 100000 in
set_option maxHeartbeats 4000000 in
theorem k_X12_refuses {l : Launch} {E : zE} {μ : zM} (hm : zMpre μ) {k v : Int} (h0 : 0 ≤ k) (h1 : k < 3) : Ct l E yX12_refuses cX12_refuses 3 (some .int) ({ frames := 0, cells := 0, slots := 0, locals := 0 }) [zR 393, zI k, zI v] μ (fun r ν => r = some (zI v) ∧ ν = zup μ 398 k (μ 398 k + zq1 μ)) := by
  refine Ct.of RX12 [zR 393, zI k, zI v] (by decide +kernel) rfl ⟨rfl, rfl⟩ rfl (Nat.le_of_ble_eq_true rfl) (fun X hX hc0 ha0 => ?_)
  subst hX
  have := hm.2.2.1 k h0 h1
  refine z_aload_0 dX12_refuses_0 ?_
  refine z_getF 398 5 rfl f_X12_23 zl_393 rfl rfl dX12_refuses_1 ?_
  refine z_iload_1 dX12_refuses_4 ?_
  refine z_dup2 dX12_refuses_5 rfl rfl ?_
  refine z_iald zl_398 (by omega) (by omega) dX12_refuses_6 ?_
  refine z_aload_0 dX12_refuses_7 ?_
  refine z_getI 7 rfl f_X12_96 zl_393 rfl dX12_refuses_8 ?_
  refine z_ifeq (tgt := 18) dX12_refuses_11 (by decide) (fun h_11 => ?_) (fun h_11 => ?_)
  · refine z_iconst dX12_refuses_18 (by decide) ?_
    refine z_iadd dX12_refuses_19 (by omega) ?_
    refine z_iast zl_398 (by omega) (by omega) dX12_refuses_20 ?_
    refine z_iload_2 dX12_refuses_21 ?_
    exact z_iret dX12_refuses_22 (by refine ⟨rfl, ?_⟩; unfold zq1; first | rw [if_pos (by assumption)] | rw [if_neg (by assumption)])
  · refine z_iconst dX12_refuses_14 (by decide) ?_
    refine z_goto (tgt := 19) dX12_refuses_15 (by decide) ?_
    refine z_iadd dX12_refuses_19 (by omega) ?_
    refine z_iast zl_398 (by omega) (by omega) dX12_refuses_20 ?_
    refine z_iload_2 dX12_refuses_21 ?_
    exact z_iret dX12_refuses_22 (by refine ⟨rfl, ?_⟩; unfold zq1; first | rw [if_pos (by assumption)] | rw [if_neg (by assumption)])
set_option maxRecDepth 100000 in
set_option maxHeartbeats 4000000 in
theorem k_X12_bad {l : Launch} {E : zE} {μ : zM} (hm : zMpre μ) : Ct l E yX12_bad cX12_bad 1 (some .int) ({ frames := 1, cells := 0, slots := 0, locals := 22 }) [zR 393] μ (fun r ν => r = some (zI (-2)) ∧ ν = zup μ 398 0 (μ 398 0 + zq1 μ)) := by
  refine Ct.of RX12 [zR 393] (by decide +kernel) rfl ⟨rfl, rfl⟩ rfl (Nat.le_of_ble_eq_true rfl) (fun X hX hc0 ha0 => ?_)
  subst hX
  refine z_aload_0 dX12_bad_0 ?_
  refine z_iconst dX12_bad_1 (by decide) ?_
  refine z_bipush dX12_bad_2 (by decide) ?_
  refine z_callV2 (k_X12_refuses hm (by decide) (by decide)) m_X12_refuses zl_393 l_X12_100 (Nat.le_of_ble_eq_true rfl) ⟨Nat.le_of_ble_eq_true rfl, Nat.le_of_ble_eq_true rfl⟩ ⟨rfl, rfl⟩ dX12_bad_4 (fun r μ1 hp => ?_)
  obtain ⟨rfl, hv⟩ := hp
  replace hv := hv.symm
  subst hv
  exact z_iret dX12_bad_7 (⟨rfl, rfl⟩)
set_option maxRecDepth 100000 in
set_option maxHeartbeats 4000000 in
theorem k_X12_no {l : Launch} {E : zE} {μ : zM} (hm : zMpre μ) : Ct l E yX12_no cX12_no 1 (some .int) ({ frames := 1, cells := 0, slots := 0, locals := 22 }) [zR 393] μ (fun r ν => r = some (zI (-3)) ∧ ν = zup μ 398 1 (μ 398 1 + zq1 μ)) := by
  refine Ct.of RX12 [zR 393] (by decide +kernel) rfl ⟨rfl, rfl⟩ rfl (Nat.le_of_ble_eq_true rfl) (fun X hX hc0 ha0 => ?_)
  subst hX
  refine z_aload_0 dX12_no_0 ?_
  refine z_iconst dX12_no_1 (by decide) ?_
  refine z_bipush dX12_no_2 (by decide) ?_
  refine z_callV2 (k_X12_refuses hm (by decide) (by decide)) m_X12_refuses zl_393 l_X12_100 (Nat.le_of_ble_eq_true rfl) ⟨Nat.le_of_ble_eq_true rfl, Nat.le_of_ble_eq_true rfl⟩ ⟨rfl, rfl⟩ dX12_no_4 (fun r μ1 hp => ?_)
  obtain ⟨rfl, hv⟩ := hp
  replace hv := hv.symm
  subst hv
  exact z_iret dX12_no_7 (⟨rfl, rfl⟩)
set_option maxRecDepth 100000 in
set_option maxHeartbeats 4000000 in
theorem k_X12_full {l : Launch} {E : zE} {μ : zM} (hm : zMpre μ) : Ct l E yX12_full cX12_full 1 (some .int) ({ frames := 1, cells := 0, slots := 0, locals := 22 }) [zR 393] μ (fun r ν => r = some (zI (-4)) ∧ ν = zup μ 398 2 (μ 398 2 + zq1 μ)) := by
  refine Ct.of RX12 [zR 393] (by decide +kernel) rfl ⟨rfl, rfl⟩ rfl (Nat.le_of_ble_eq_true rfl) (fun X hX hc0 ha0 => ?_)
  subst hX
  refine z_aload_0 dX12_full_0 ?_
  refine z_iconst dX12_full_1 (by decide) ?_
  refine z_bipush dX12_full_2 (by decide) ?_
  refine z_callV2 (k_X12_refuses hm (by decide) (by decide)) m_X12_refuses zl_393 l_X12_100 (Nat.le_of_ble_eq_true rfl) ⟨Nat.le_of_ble_eq_true rfl, Nat.le_of_ble_eq_true rfl⟩ ⟨rfl, rfl⟩ dX12_full_4 (fun r μ1 hp => ?_)
  obtain ⟨rfl, hv⟩ := hp
  replace hv := hv.symm
  subst hv
  exact z_iret dX12_full_7 (⟨rfl, rfl⟩)
set_option maxRecDepth 100000 in
set_option maxHeartbeats 4000000 in
theorem k_X12_puts {l : Launch} {E : zE} {μ : zM} {k v : Int} (h0 : 0 ≤ k) (h1 : k < 172) : Ct l E yX12_puts cX12_puts 4 (some .int) ({ frames := 0, cells := 0, slots := 0, locals := 0 }) [zR 393, zI k, zI v] μ (fun r ν => r = some (zI (μ 394 k)) ∧ ν = zup μ 394 k v) := by
  refine Ct.of RX12 [zR 393, zI k, zI v, zU] (by decide +kernel) rfl ⟨rfl, rfl⟩ rfl (Nat.le_of_ble_eq_true rfl) (fun X hX hc0 ha0 => ?_)
  subst hX
  refine z_aload_0 dX12_puts_0 ?_
  refine z_getF 394 1 rfl f_X12_7 zl_393 rfl rfl dX12_puts_1 ?_
  refine z_iload_1 dX12_puts_4 ?_
  refine z_iald zl_394 (by omega) (by omega) dX12_puts_5 ?_
  refine z_istore_3 rfl dX12_puts_6 ?_
  refine z_aload_0 dX12_puts_7 ?_
  refine z_getF 394 1 rfl f_X12_7 zl_393 rfl rfl dX12_puts_8 ?_
  refine z_iload_1 dX12_puts_11 ?_
  refine z_iload_2 dX12_puts_12 ?_
  refine z_iast zl_394 (by omega) (by omega) dX12_puts_13 ?_
  refine z_iload_3 dX12_puts_14 ?_
  exact z_iret dX12_puts_15 (⟨rfl, rfl⟩)
set_option maxRecDepth 100000 in
set_option maxHeartbeats 4000000 in
theorem k_X12_isWall {l : Launch} {E : zE} {μ : zM} {c : Int} (h0 : 0 ≤ c) (h1 : c < 36) : Ct l E yX12_isWall cX12_isWall 2 (some .boolean) ({ frames := 0, cells := 0, slots := 0, locals := 0 }) [zR 393, zI c] μ (fun r ν => r = some (zI (zb (zBV (μ 394) 0 c = 1))) ∧ ν = μ) := by
  refine Ct.of RX12 [zR 393, zI c] (by decide +kernel) rfl ⟨rfl, rfl⟩ rfl (Nat.le_of_ble_eq_true rfl) (fun X hX hc0 ha0 => ?_)
  subst hX
  refine z_aload_0 dX12_isWall_0 ?_
  refine z_getF 394 1 rfl f_X12_7 zl_393 rfl rfl dX12_isWall_1 ?_
  refine z_bipush dX12_isWall_4 (by decide) ?_
  refine z_iload_1 dX12_isWall_6 ?_
  refine z_iadd dX12_isWall_7 (by omega) ?_
  refine z_iald zl_394 (by omega) (by omega) dX12_isWall_8 ?_
  refine z_iconst dX12_isWall_9 (by decide) ?_
  refine z_icmpne (tgt := 17) dX12_isWall_10 (by decide) (fun h_10 => ?_) (fun h_10 => ?_)
  · refine z_iconst dX12_isWall_17 (by decide) ?_
    exact z_zret (by decide) dX12_isWall_18 (by rw [zBV_0 h0 h1]; first | exact zb_r (by assumption) rfl | exact zb_r0 (by assumption) rfl)
  · refine z_iconst dX12_isWall_13 (by decide) ?_
    refine z_goto (tgt := 18) dX12_isWall_14 (by decide) ?_
    exact z_zret (by decide) dX12_isWall_18 (by rw [zBV_0 h0 h1]; first | exact zb_r (by assumption) rfl | exact zb_r0 (by assumption) rfl)
set_option maxRecDepth 100000 in
set_option maxHeartbeats 4000000 in
theorem k_X12_of {l : Launch} {E : zE} {μ : zM} {i k : Int} (h0 : 0 ≤ i) (h1 : i < 5) (h2 : 0 ≤ k) (h3 : k < 6) : Ct l E yX12_of cX12_of 3 (some .int) ({ frames := 0, cells := 0, slots := 0, locals := 0 }) [zR 393, zI i, zI k] μ (fun r ν => r = some (zI (μ 394 (90 + 6 * i + k))) ∧ ν = μ) := by
  refine Ct.of RX12 [zR 393, zI i, zI k] (by decide +kernel) rfl ⟨rfl, rfl⟩ rfl (Nat.le_of_ble_eq_true rfl) (fun X hX hc0 ha0 => ?_)
  subst hX
  refine z_aload_0 dX12_of_0 ?_
  refine z_getF 394 1 rfl f_X12_7 zl_393 rfl rfl dX12_of_1 ?_
  refine z_bipush dX12_of_4 (by decide) ?_
  refine z_bipush dX12_of_6 (by decide) ?_
  refine z_iload_1 dX12_of_8 ?_
  refine z_imul dX12_of_9 (by omega) ?_
  refine z_iadd dX12_of_10 (by omega) ?_
  refine z_iload_2 dX12_of_11 ?_
  refine z_iadd dX12_of_12 (by omega) ?_
  refine z_iald zl_394 (by omega) (by omega) dX12_of_13 ?_
  exact z_iret dX12_of_14 (⟨rfl, rfl⟩)
set_option maxRecDepth 100000 in
set_option maxHeartbeats 4000000 in
theorem k_X12_isBed {l : Launch} {E : zE} {μ : zM} (hm : zMpre μ) {i : Int} : Ct l E yX12_isBed cX12_isBed 2 (some .boolean) ({ frames := 1, cells := 0, slots := 0, locals := 25 }) [zR 393, zI i] μ (fun r ν => r = some (zI (zb (0 ≤ i ∧ i < μ 394 1))) ∧ ν = μ) := by
  refine Ct.of RX12 [zR 393, zI i] (by decide +kernel) rfl ⟨rfl, rfl⟩ rfl (Nat.le_of_ble_eq_true rfl) (fun X hX hc0 ha0 => ?_)
  subst hX
  obtain ⟨nb, nf, nd, np, ns, nr⟩ := zOK_b hm.1
  have hb9 := zOK_b hm.1
  refine z_iload_1 dX12_isBed_0 ?_
  refine z_i2l dX12_isBed_1 ?_
  refine z_lconst0 dX12_isBed_2 ?_
  refine z_aload_0 dX12_isBed_3 ?_
  refine z_getF 394 1 rfl f_X12_7 zl_393 rfl rfl dX12_isBed_4 ?_
  refine z_iconst dX12_isBed_7 (by decide) ?_
  refine z_iald zl_394 (by omega) (by omega) dX12_isBed_8 ?_
  refine z_iconst dX12_isBed_9 (by decide) ?_
  refine z_isub dX12_isBed_10 (by omega) ?_
  refine z_i2l dX12_isBed_11 ?_
  refine z_callS3 (k_X12_in) m_X12_in l_X12_106 (Nat.le_of_ble_eq_true rfl) ⟨Nat.le_of_ble_eq_true rfl, Nat.le_of_ble_eq_true rfl⟩ ⟨rfl, rfl⟩ dX12_isBed_12 (fun r μ1 hp => ?_)
  obtain ⟨rfl, hv⟩ := hp
  replace hv := hv.symm
  subst hv
  exact z_zret zb_01 dX12_isBed_15 (⟨congrArg (fun z => (some (zI z) : Option zAV)) (zb_c (by omega)), rfl⟩)
set_option maxRecDepth 100000 in
set_option maxHeartbeats 4000000 in
theorem k_X12_isSleeper {l : Launch} {E : zE} {μ : zM} (hm : zMpre μ) {i : Int} : Ct l E yX12_isSleeper cX12_isSleeper 2 (some .boolean) ({ frames := 1, cells := 0, slots := 0, locals := 25 }) [zR 393, zI i] μ (fun r ν => r = some (zI (zb (0 ≤ i ∧ i < μ 394 2))) ∧ ν = μ) := by
  refine Ct.of RX12 [zR 393, zI i] (by decide +kernel) rfl ⟨rfl, rfl⟩ rfl (Nat.le_of_ble_eq_true rfl) (fun X hX hc0 ha0 => ?_)
  subst hX
  obtain ⟨nb, nf, nd, np, ns, nr⟩ := zOK_b hm.1
  have hb9 := zOK_b hm.1
  refine z_iload_1 dX12_isSleeper_0 ?_
  refine z_i2l dX12_isSleeper_1 ?_
  refine z_lconst0 dX12_isSleeper_2 ?_
  refine z_aload_0 dX12_isSleeper_3 ?_
  refine z_getF 394 1 rfl f_X12_7 zl_393 rfl rfl dX12_isSleeper_4 ?_
  refine z_iconst dX12_isSleeper_7 (by decide) ?_
  refine z_iald zl_394 (by omega) (by omega) dX12_isSleeper_8 ?_
  refine z_iconst dX12_isSleeper_9 (by decide) ?_
  refine z_isub dX12_isSleeper_10 (by omega) ?_
  refine z_i2l dX12_isSleeper_11 ?_
  refine z_callS3 (k_X12_in) m_X12_in l_X12_106 (Nat.le_of_ble_eq_true rfl) ⟨Nat.le_of_ble_eq_true rfl, Nat.le_of_ble_eq_true rfl⟩ ⟨rfl, rfl⟩ dX12_isSleeper_12 (fun r μ1 hp => ?_)
  obtain ⟨rfl, hv⟩ := hp
  replace hv := hv.symm
  subst hv
  exact z_zret zb_01 dX12_isSleeper_15 (⟨congrArg (fun z => (some (zI z) : Option zAV)) (zb_c (by omega)), rfl⟩)
set_option maxRecDepth 100000 in
set_option maxHeartbeats 4000000 in
theorem k_X12_isBedAt {l : Launch} {E : zE} {μ : zM} (hm : zMpre μ) {c : Int} : Ct l E yX12_isBedAt cX12_isBedAt 4 (some .boolean) ({ frames := 0, cells := 0, slots := 0, locals := 0 }) [zR 393, zI c] μ (fun r ν => r = some (zI (zb (zBA (zBV (μ 394)) c))) ∧ ν = μ) := by
  refine Ct.of RX12 [zR 393, zI c, zU, zU] (by decide +kernel) rfl ⟨rfl, rfl⟩ rfl (Nat.le_of_ble_eq_true rfl) (fun X hX hc0 ha0 => ?_)
  subst hX
  obtain ⟨nb, nf, nd, np, ns, nr⟩ := zOK_b hm.1
  have hb9 := zOK_b hm.1
  have L2 : ∀ (k : Nat) (i f : Int), 0 ≤ i → i ≤ μ 394 1 → (f = 0 ∨ f = 1) → (f = 1 ↔ ∃ j, 0 ≤ j ∧ j < i ∧ μ 394 (82 + j) = c) → μ 394 1 - i < k → MW X E cX12_isBedAt RX12 ({ frames := 0, cells := 0, slots := 0, locals := 0 }) (some .boolean) (fun r ν => r = some (zI (zb (zBA (zBV (μ 394)) c))) ∧ ν = μ) 4 [zR 393, zI c, zI f, zI i] [] μ := by
    intro k
    induction k with
    | zero => intro i f h1 h2 hf hno h3; omega
    | succ k ih =>
      intro i f h1 h2 hf hno h3
      refine z_iload_3 dX12_isBedAt_4 ?_
      refine z_aload_0 dX12_isBedAt_5 ?_
      refine z_getF 394 1 rfl f_X12_7 zl_393 rfl rfl dX12_isBedAt_6 ?_
      refine z_iconst dX12_isBedAt_9 (by decide) ?_
      refine z_iald zl_394 (by omega) (by omega) dX12_isBedAt_10 ?_
      refine z_icmpge (tgt := 43) dX12_isBedAt_11 (by decide) (fun h_11 => ?_) (fun h_11 => ?_)
      · refine z_iload_2 dX12_isBedAt_43 ?_
        exact z_zret hf dX12_isBedAt_44 (by have e : f = zb (zBA (zBV (μ 394)) c) := (by rcases hf with q | q; (rw [q]; exact (zb_f (fun r => by obtain ⟨j, a, b, e⟩ := zBA_b.mp r; have := hno.mpr ⟨j, a, by omega, e⟩; omega)).symm); (rw [q]; exact (zb_t (by obtain ⟨j, a, b, e⟩ := hno.mp q; exact zBA_b.mpr ⟨j, a, by omega, e⟩)).symm)); rw [e]; exact ⟨rfl, rfl⟩)
      · refine z_iload_2 dX12_isBedAt_14 ?_
        refine z_ifne (tgt := 31) dX12_isBedAt_15 (by decide) (fun h_15 => ?_) (fun h_15 => ?_)
        · refine z_iconst dX12_isBedAt_31 (by decide) ?_
          refine z_goto (tgt := 36) dX12_isBedAt_32 (by decide) ?_
          refine z_istore_2 rfl dX12_isBedAt_36 ?_
          refine z_iinc_3 rfl dX12_isBedAt_37 (by omega) ?_
          refine z_goto (tgt := 4) dX12_isBedAt_40 (by decide) ?_
          refine ih (i + 1) _ (by omega) (by omega) (by decide) ?_ (by omega)
          by_cases q9 : μ 394 (82 + i) = c
          · refine ⟨fun _ => ⟨i, h1, by omega, q9⟩, fun _ => ?_⟩
            first | rfl | exact absurd q9 h_28
          · refine ⟨fun q => ?_, fun ⟨j, j0, j1, e⟩ => ?_⟩
            · first | exact absurd q (by decide) | (obtain ⟨j, j0, j1, e⟩ := hno.mp (by omega); exact ⟨j, j0, by omega, e⟩) | exact absurd h_28 q9
            · have j2 : j < i := by
                rcases Int.lt_or_eq_of_le (show j ≤ i by omega) with q | q
                · exact q
                · subst q; exact absurd e q9
              have := hno.mpr ⟨j, j0, j2, e⟩
              first | rfl | omega
        · refine z_aload_0 dX12_isBedAt_18 ?_
          refine z_getF 394 1 rfl f_X12_7 zl_393 rfl rfl dX12_isBedAt_19 ?_
          refine z_bipush dX12_isBedAt_22 (by decide) ?_
          refine z_iload_3 dX12_isBedAt_24 ?_
          refine z_iadd dX12_isBedAt_25 (by omega) ?_
          refine z_iald zl_394 (by omega) (by omega) dX12_isBedAt_26 ?_
          refine z_iload_1 dX12_isBedAt_27 ?_
          refine z_icmpne (tgt := 35) dX12_isBedAt_28 (by decide) (fun h_28 => ?_) (fun h_28 => ?_)
          · refine z_iconst dX12_isBedAt_35 (by decide) ?_
            refine z_istore_2 rfl dX12_isBedAt_36 ?_
            refine z_iinc_3 rfl dX12_isBedAt_37 (by omega) ?_
            refine z_goto (tgt := 4) dX12_isBedAt_40 (by decide) ?_
            refine ih (i + 1) _ (by omega) (by omega) (by decide) ?_ (by omega)
            by_cases q9 : μ 394 (82 + i) = c
            · refine ⟨fun _ => ⟨i, h1, by omega, q9⟩, fun _ => ?_⟩
              first | rfl | exact absurd q9 h_28
            · refine ⟨fun q => ?_, fun ⟨j, j0, j1, e⟩ => ?_⟩
              · first | exact absurd q (by decide) | (obtain ⟨j, j0, j1, e⟩ := hno.mp (by omega); exact ⟨j, j0, by omega, e⟩) | exact absurd h_28 q9
              · have j2 : j < i := by
                  rcases Int.lt_or_eq_of_le (show j ≤ i by omega) with q | q
                  · exact q
                  · subst q; exact absurd e q9
                have := hno.mpr ⟨j, j0, j2, e⟩
                first | rfl | omega
          · refine z_iconst dX12_isBedAt_31 (by decide) ?_
            refine z_goto (tgt := 36) dX12_isBedAt_32 (by decide) ?_
            refine z_istore_2 rfl dX12_isBedAt_36 ?_
            refine z_iinc_3 rfl dX12_isBedAt_37 (by omega) ?_
            refine z_goto (tgt := 4) dX12_isBedAt_40 (by decide) ?_
            refine ih (i + 1) _ (by omega) (by omega) (by decide) ?_ (by omega)
            by_cases q9 : μ 394 (82 + i) = c
            · refine ⟨fun _ => ⟨i, h1, by omega, q9⟩, fun _ => ?_⟩
              first | rfl | exact absurd q9 h_28
            · refine ⟨fun q => ?_, fun ⟨j, j0, j1, e⟩ => ?_⟩
              · first | exact absurd q (by decide) | (obtain ⟨j, j0, j1, e⟩ := hno.mp (by omega); exact ⟨j, j0, by omega, e⟩) | exact absurd h_28 q9
              · have j2 : j < i := by
                  rcases Int.lt_or_eq_of_le (show j ≤ i by omega) with q | q
                  · exact q
                  · subst q; exact absurd e q9
                have := hno.mpr ⟨j, j0, j2, e⟩
                first | rfl | omega
  refine z_iconst dX12_isBedAt_0 (by decide) ?_
  refine z_istore_2 rfl dX12_isBedAt_1 ?_
  refine z_iconst dX12_isBedAt_2 (by decide) ?_
  refine z_istore_3 rfl dX12_isBedAt_3 ?_
  exact L2 8 0 0 (by omega) (by omega) (Or.inl rfl) ⟨fun q => absurd q (by decide), fun ⟨j, a, b, _⟩ => by omega⟩ (by omega)
