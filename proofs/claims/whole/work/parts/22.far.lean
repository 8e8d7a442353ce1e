/-! DISTANCES: the map of least numbers of steps is the only one that keeps four rules; two ways to make it -/
def zAj (c n : Int) : Prop := ∃ w, 0 ≤ w ∧ w < 4 ∧ zNb c w = n ∧ n ≠ -1
theorem zNb0 {c : Int} : zNb c 0 = if 6 ≤ c then c - 6 else -1 := if_pos rfl
theorem zNb1 {c : Int} : zNb c 1 = if c % 6 < 5 then c + 1 else -1 := by unfold zNb; rw [if_neg (by decide), if_pos rfl]
theorem zNb2 {c : Int} : zNb c 2 = if c < 30 then c + 6 else -1 := by unfold zNb; rw [if_neg (by decide), if_neg (by decide), if_pos rfl]
theorem zNb3 {c : Int} : zNb c 3 = if 0 < c % 6 then c - 1 else -1 := by unfold zNb; rw [if_neg (by decide), if_neg (by decide), if_neg (by decide)]
theorem zNb_r {c w : Int} (h0 : 0 ≤ c) (h1 : c < 36) (hn : zNb c w ≠ -1) : 0 ≤ zNb c w ∧ zNb c w < 36 := by
  unfold zNb at *
  repeat' split at *
  all_goals omega
theorem zNb_b {c w : Int} (h0 : 0 ≤ c) (h1 : c < 36) : -1 ≤ zNb c w ∧ zNb c w < 36 := by
  unfold zNb
  repeat' split
  all_goals omega
theorem zAj_r {c n : Int} (h0 : 0 ≤ c) (h1 : c < 36) (h : zAj c n) : 0 ≤ n ∧ n < 36 := by
  obtain ⟨w, a, b, e, q⟩ := h
  subst e
  exact zNb_r h0 h1 q
theorem zAj_s {c n : Int} (h0 : 0 ≤ c) (h1 : c < 36) (h : zAj c n) : zAj n c := by
  obtain ⟨w, a, b, e, q⟩ := h
  rcases (by omega : w = 0 ∨ w = 1 ∨ w = 2 ∨ w = 3) with rfl | rfl | rfl | rfl
  · rw [zNb0] at e
    split at e
    · exact ⟨2, by decide, by decide, by rw [zNb2, if_pos (by omega)]; omega, by omega⟩
    · omega
  · rw [zNb1] at e
    split at e
    · exact ⟨3, by decide, by decide, by rw [zNb3, if_pos (by omega)]; omega, by omega⟩
    · omega
  · rw [zNb2] at e
    split at e
    · exact ⟨0, by decide, by decide, by rw [zNb0, if_pos (by omega)]; omega, by omega⟩
    · omega
  · rw [zNb3] at e
    split at e
    · exact ⟨1, by decide, by decide, by rw [zNb1, if_pos (by omega)]; omega, by omega⟩
    · omega
def zDM (op : Int → Prop) (s : Int) (F : Int → Int) : Prop := (∀ c, 0 ≤ c → c < 36 → F c = -1 ∨ (0 ≤ F c ∧ F c ≤ 40 ∧ op c)) ∧ (op s → F s = 0) ∧ (∀ c, 0 ≤ c → c < 36 → F c = 0 → c = s) ∧ (∀ c, 0 ≤ c → c < 36 → 0 < F c → ∃ n, zAj c n ∧ F n = F c - 1) ∧ (∀ c n, 0 ≤ n → n < 36 → zAj n c → op c → F n ≠ -1 → F c ≠ -1 ∧ F c ≤ F n + 1)
theorem zDM_op {op : Int → Prop} {s : Int} {F : Int → Int} (h : zDM op s F) {c : Int} (h0 : 0 ≤ c) (h1 : c < 36) (q : F c ≠ -1) : op c := by
  rcases h.1 c h0 h1 with e | e
  · exact absurd e q
  · exact e.2.2
theorem zDM_le {op : Int → Prop} {s : Int} {F G : Int → Int} (hF : zDM op s F) (hG : zDM op s G) : ∀ (k : Nat) (c : Int), 0 ≤ c → c < 36 → F c = (k : Int) → G c ≠ -1 ∧ G c ≤ k := by
  intro k
  induction k with
  | zero =>
    intro c h0 h1 e
    have e2 := hF.2.2.1 c h0 h1 (by omega)
    subst e2
    have := hF.1 c h0 h1
    have := hG.2.1 (zDM_op hF h0 h1 (by omega))
    omega
  | succ k ih =>
    intro c h0 h1 e
    obtain ⟨n, aj, en⟩ := hF.2.2.2.1 c h0 h1 (by omega)
    have hn := zAj_r h0 h1 aj
    have i1 := ih n hn.1 hn.2 (by omega)
    have o := hF.1 c h0 h1
    have := hG.2.2.2.2 c n hn.1 hn.2 (zAj_s h0 h1 aj) (zDM_op hF h0 h1 (by omega)) i1.1
    omega
theorem zDM_u {op : Int → Prop} {s : Int} {F G : Int → Int} (hF : zDM op s F) (hG : zDM op s G) {c : Int} (h0 : 0 ≤ c) (h1 : c < 36) : F c = G c := by
  have f1 := hF.1 c h0 h1
  have g1 := hG.1 c h0 h1
  have a := fun (k : Nat) e => zDM_le hF hG k c h0 h1 e
  have b := fun (k : Nat) e => zDM_le hG hF k c h0 h1 e
  by_cases q : F c = -1
  · by_cases q2 : G c = -1
    · omega
    · have := b (G c).toNat (by omega)
      omega
  · have := a (F c).toNat (by omega)
    have := b (G c).toNat (by omega)
    omega
theorem zDM_tri {op : Int → Prop} {b n : Int} {F G : Int → Int} (hF : zDM op b F) (hG : zDM op n G) (ob : op b) (b0 : 0 ≤ b) (b1 : b < 36) (aj : zAj b n) : ∀ (k : Nat) (c : Int), 0 ≤ c → c < 36 → G c = (k : Int) → F c ≠ -1 ∧ F c ≤ k + 1 := by
  have fb := hF.2.1 ob
  intro k
  induction k with
  | zero =>
    intro c h0 h1 e
    have e2 := hG.2.2.1 c h0 h1 (by omega)
    subst e2
    have := hG.1 c h0 h1
    have := hF.2.2.2.2 c b b0 b1 aj (zDM_op hG h0 h1 (by omega)) (by omega)
    omega
  | succ k ih =>
    intro c h0 h1 e
    obtain ⟨x, ax, ex⟩ := hG.2.2.2.1 c h0 h1 (by omega)
    have hx := zAj_r h0 h1 ax
    have i1 := ih x hx.1 hx.2 (by omega)
    have o := hG.1 c h0 h1
    have := hF.2.2.2.2 c x hx.1 hx.2 (zAj_s h0 h1 ax) (zDM_op hG h0 h1 (by omega)) i1.1
    omega
theorem zDM_sy {op : Int → Prop} {f : Int → Int → Int} (h : ∀ a, 0 ≤ a → a < 36 → zDM op a (f a)) : ∀ (k : Nat) (a b : Int), 0 ≤ a → a < 36 → 0 ≤ b → b < 36 → f a b = (k : Int) → f b a ≠ -1 ∧ f b a ≤ k := by
  intro k
  induction k with
  | zero =>
    intro a b a0 a1 b0 b1 e
    have e2 := (h a a0 a1).2.2.1 b b0 b1 (by omega)
    subst e2
    omega
  | succ k ih =>
    intro a b a0 a1 b0 b1 e
    obtain ⟨n, aj, en⟩ := (h a a0 a1).2.2.2.1 b b0 b1 (by omega)
    have hn := zAj_r b0 b1 aj
    have i1 := ih a n a0 a1 hn.1 hn.2 (by omega)
    have o := (h a a0 a1).1 b b0 b1
    have r := (h n hn.1 hn.2).1 a a0 a1
    have := zDM_tri (h b b0 b1) (h n hn.1 hn.2) (zDM_op (h a a0 a1) b0 b1 (by omega)) b0 b1 aj (f n a).toNat a a0 a1 (by omega)
    omega
theorem zDM_sym {op : Int → Prop} {f : Int → Int → Int} (h : ∀ a, 0 ≤ a → a < 36 → zDM op a (f a)) {a b : Int} (a0 : 0 ≤ a) (a1 : a < 36) (b0 : 0 ≤ b) (b1 : b < 36) : f a b = f b a := by
  have f1 := (h a a0 a1).1 b b0 b1
  have g1 := (h b b0 b1).1 a a0 a1
  have p := fun (k : Nat) e => zDM_sy h k a b a0 a1 b0 b1 e
  have q := fun (k : Nat) e => zDM_sy h k b a b0 b1 a0 a1 e
  by_cases q1 : f a b = -1
  · by_cases q2 : f b a = -1
    · omega
    · have := q (f b a).toNat (by omega)
      omega
  · have := p (f a b).toNat (by omega)
    have := q (f b a).toNat (by omega)
    omega
theorem zDM_cg {op op2 : Int → Prop} {s : Int} {F G : Int → Int} (hF : zDM op s F) (h : ∀ c, 0 ≤ c → c < 36 → (op c ↔ op2 c)) (hs0 : 0 ≤ s) (hs1 : s < 36) (hG : ∀ c, 0 ≤ c → c < 36 → G c = F c) : zDM op2 s G := by
  obtain ⟨d1, d2, d3, d4, d5⟩ := hF
  refine ⟨fun c c0 c1 => ?_, fun o => ?_, fun c c0 c1 => ?_, fun c c0 c1 hp => ?_, fun c n n0 n1 aj o hn => ?_⟩
  · rw [hG c c0 c1, ← h c c0 c1]; exact d1 c c0 c1
  · rw [hG s hs0 hs1]; exact d2 ((h s hs0 hs1).mpr o)
  · rw [hG c c0 c1]; exact d3 c c0 c1
  · rw [hG c c0 c1] at hp ⊢
    obtain ⟨n, aj, e⟩ := d4 c c0 c1 hp
    have hn := zAj_r c0 c1 aj
    exact ⟨n, aj, by rw [hG n hn.1 hn.2]; exact e⟩
  · have hc := zAj_r n0 n1 aj
    rw [hG n n0 n1] at hn ⊢
    rw [hG c hc.1 hc.2]
    exact d5 c n n0 n1 aj ((h c hc.1 hc.2).mpr o) hn
/-- the map of least steps from s, where there is one -/
noncomputable def zDs (op : Int → Prop) (s : Int) : Int → Int := @dite _ (∃ F, zDM op s F) (Classical.propDecidable _) (fun h => Classical.choose h) (fun _ _ => -1)
theorem zDs_of {op : Int → Prop} {s : Int} {F : Int → Int} (h : zDM op s F) : zDM op s (zDs op s) := by
  have hh : ∃ F, zDM op s F := ⟨F, h⟩
  unfold zDs
  rw [dif_pos hh]
  exact Classical.choose_spec hh
theorem zDs_eq {op : Int → Prop} {s : Int} {F : Int → Int} (h : zDM op s F) {c : Int} (h0 : 0 ≤ c) (h1 : c < 36) : F c = zDs op s c := zDM_u h (zDs_of h) h0 h1
/-- how many cells have another number than x -/
noncomputable def zcnt (F : Int → Int) (x : Int) : Int := zsum (fun c => zb (F c ≠ x)) 36
theorem zcnt_b {F : Int → Int} {x : Int} : 0 ≤ zcnt F x ∧ zcnt F x ≤ 36 := by
  have := zsum_b (f := fun c => zb (F c ≠ x)) (B := 1) (n := 36) (fun i a b => by
    rcases zb_01 (P := F i ≠ x) with e | e <;> (show 0 ≤ zb (F i ≠ x) ∧ zb (F i ≠ x) ≤ 1; omega))
  unfold zcnt
  omega
theorem zcnt_u {F : Int → Int} {n v x : Int} (h0 : 0 ≤ n) (h1 : n < 36) (hn : F n = x) (hv : v ≠ x) : zcnt (zfu F n v) x = zcnt F x + 1 := by
  have e : (fun c => zb (zfu F n v c ≠ x)) = fun c => if c = n then 1 else zb (F c ≠ x) := by
    funext c
    by_cases q : c = n
    · rw [if_pos q, zfu_p q, zb_t hv]
    · rw [if_neg q, zfu_n q]
  unfold zcnt
  rw [e, zsum_u h0 (by omega), zb_f (P := F n ≠ x) (fun q => q hn)]
  omega
theorem zcnt_l {F : Int → Int} {n x : Int} (h0 : 0 ≤ n) (h1 : n < 36) (hn : F n = x) : zcnt F x ≤ 35 := by
  have h := zcnt_u (v := x + 1) h0 h1 hn (by omega)
  have := (zcnt_b (F := zfu F n (x + 1)) (x := x)).2
  omega
/-- a queue of cells: e stand in it, i are done, of the i-th t ways -/
def zBq (op : Int → Prop) (s : Int) (F Q : Int → Int) (i e t : Int) : Prop := (0 ≤ i ∧ i ≤ e ∧ e ≤ 36 ∧ e = zcnt F (-1)) ∧ (∀ j, 0 ≤ j → j < e → 0 ≤ Q j ∧ Q j < 36 ∧ F (Q j) ≠ -1 ∧ F (Q j) ≤ j) ∧ (∀ c, 0 ≤ c → c < 36 → F c ≠ -1 → 0 ≤ F c ∧ op c ∧ ∃ j, 0 ≤ j ∧ j < e ∧ Q j = c) ∧ (∀ j k, 0 ≤ j → j ≤ k → k < e → F (Q j) ≤ F (Q k)) ∧ (∀ k, 0 ≤ k → k < e → i < e → F (Q k) ≤ F (Q i) + 1) ∧ (∀ j w, 0 ≤ j → j < e → 0 ≤ w → w < 4 → (j < i ∨ (j = i ∧ w < t)) → zNb (Q j) w ≠ -1 → op (zNb (Q j) w) → F (zNb (Q j) w) ≠ -1 ∧ F (zNb (Q j) w) ≤ F (Q j) + 1) ∧ F s = 0 ∧ (∀ c, 0 ≤ c → c < 36 → F c = 0 → c = s) ∧ (∀ c, 0 ≤ c → c < 36 → 0 < F c → ∃ n, zAj c n ∧ F n = F c - 1)
theorem zcnt_0 {F : Int → Int} {x : Int} (h : ∀ c, 0 ≤ c → c < 36 → F c = x) : zcnt F x = 0 := by
  unfold zcnt
  rw [zsum_c (g := fun _ => 0) (fun i a b => zb_f (fun q => q (h i a (by omega))))]
  rfl
theorem zBq_0 {op : Int → Prop} {s : Int} {F Q : Int → Int} (h0 : 0 ≤ s) (h1 : s < 36) (os : op s) (hF : ∀ c, 0 ≤ c → c < 36 → F c = -1) (hQ : Q 0 = s) : zBq op s (zfu F s 0) Q 0 1 0 := by
  have n1 : ∀ c, 0 ≤ c → c < 36 → c ≠ s → zfu F s 0 c = -1 := fun c a b q => by rw [zfu_n q]; exact hF c a b
  have n2 : ∀ c, 0 ≤ c → c < 36 → zfu F s 0 c ≠ -1 → c = s := fun c a b q => Classical.byContradiction fun r => q (n1 c a b r)
  refine ⟨⟨by decide, by decide, by decide, ?_⟩, fun j a b => ?_, fun c a b q => ?_, fun j k a b c => ?_, fun k a b c => ?_, fun j w a b c d q => by omega, zfu_e, fun c a b q => ?_, fun c a b q => ?_⟩
  · rw [zcnt_u h0 h1 (hF s h0 h1) (by decide), zcnt_0 hF]; rfl
  · obtain rfl : j = 0 := by omega
    rw [hQ, zfu_e]
    exact ⟨h0, h1, by decide, by decide⟩
  · obtain rfl := n2 c a b q
    rw [zfu_e]
    exact ⟨by decide, os, 0, by decide, by decide, hQ⟩
  · obtain rfl : j = 0 := by omega
    obtain rfl : k = 0 := by omega
    exact Int.le_refl _
  · obtain rfl : k = 0 := by omega
    omega
  · exact n2 c a b (by rw [q]; decide)
  · obtain rfl := n2 c a b (by omega)
    rw [zfu_e] at q
    omega
theorem zBq_s {op : Int → Prop} {s : Int} {F Q : Int → Int} {i e t : Int} (h : zBq op s F Q i e t) (hi : i < e) (hn : zNb (Q i) t = -1 ∨ ¬ op (zNb (Q i) t) ∨ F (zNb (Q i) t) ≠ -1) : zBq op s F Q i e (t + 1) := by
  obtain ⟨b1, b2, b3, b4, b5, b6, b7⟩ := h
  refine ⟨b1, b2, b3, b4, b5, fun j w j0 j1 w0 w1 q nb o => ?_, b7⟩
  by_cases r : j = i ∧ w = t
  · obtain ⟨rfl, rfl⟩ := r
    rcases hn with e1 | e1 | e1
    · exact absurd e1 nb
    · exact absurd o e1
    · refine ⟨e1, ?_⟩
      have hq := b2 j j0 j1
      have hr := zNb_r hq.1 hq.2.1 nb
      obtain ⟨-, -, k, k0, k1, ek⟩ := b3 _ hr.1 hr.2 e1
      rw [← ek]
      exact b5 k k0 k1 j1
  · exact b6 j w j0 j1 w0 w1 (by omega) nb o
theorem zBq_l {op : Int → Prop} {s : Int} {F Q : Int → Int} {i e t c : Int} (h : zBq op s F Q i e t) (h0 : 0 ≤ c) (h1 : c < 36) (hn : F c = -1) : e < 36 := by
  have := zcnt_l h0 h1 hn
  have := h.1
  omega
theorem zBq_p {op : Int → Prop} {s : Int} {F Q : Int → Int} {i e t n : Int} (h : zBq op s F Q i e t) (hi : i < e) (t0 : 0 ≤ t) (t4 : t < 4) (en : zNb (Q i) t = n) (nn : n ≠ -1) (on : op n) (hn : F n = -1) : zBq op s (zfu F n (F (Q i) + 1)) (zfu Q e n) i (e + 1) (t + 1) := by
  obtain ⟨b1, b2, b3, b4, b5, b6, b7, b8, b9⟩ := h
  have hq := b2 i b1.1 hi
  have hr : 0 ≤ n ∧ n < 36 := by rw [← en] at nn ⊢; exact zNb_r hq.1 hq.2.1 nn
  have e36 := zcnt_l hr.1 hr.2 hn
  have fi := b3 (Q i) hq.1 hq.2.1 hq.2.2.1
  -- what stood stays
  have q1 : ∀ j, j < e → zfu Q e n j = Q j := fun j a => zfu_n (by omega)
  have q2 : zfu Q e n e = n := zfu_e
  have f1 : ∀ c, c ≠ n → zfu F n (F (Q i) + 1) c = F c := fun c q => zfu_n q
  have f2 : zfu F n (F (Q i) + 1) n = F (Q i) + 1 := zfu_e
  have f3 : ∀ c, F c ≠ -1 → zfu F n (F (Q i) + 1) c = F c := fun c q => f1 c (fun r => q (by rw [r]; exact hn))
  have f4 : ∀ j, 0 ≤ j → j < e → zfu F n (F (Q i) + 1) (zfu Q e n j) = F (Q j) := fun j a b => by rw [q1 j b]; exact f3 _ (b2 j a b).2.2.1
  have f5 : zfu F n (F (Q i) + 1) (zfu Q e n e) = F (Q i) + 1 := by rw [q2]; exact f2
  have ij := b2 i b1.1 hi
  refine ⟨⟨by omega, by omega, by omega, ?_⟩, fun j a b => ?_, fun c a b q => ?_, fun j k a b c => ?_, fun k a b c => ?_, fun j w j0 j1 w0 w1 q nb o => ?_, ?_, fun c a b q => ?_, fun c a b q => ?_⟩
  · rw [zcnt_u hr.1 hr.2 hn (by omega)]; omega
  · by_cases r : j = e
    · rw [r, f5, q2]; omega
    · rw [f4 j a (by omega), q1 j (by omega)]; exact b2 j a (by omega)
  · by_cases r : c = n
    · rw [r, f2]
      exact ⟨by omega, on, e, by omega, by omega, q2⟩
    · rw [f1 c r] at q ⊢
      obtain ⟨x1, x2, j, x3, x4, x5⟩ := b3 c a b q
      exact ⟨x1, x2, j, x3, by omega, by rw [q1 j x4]; exact x5⟩
  · by_cases r : k = e
    · subst r
      rw [f5]
      by_cases r2 : j = k
      · rw [r2, f5]; omega
      · rw [f4 j a (by omega)]
        exact b5 j a (by omega) hi
    · rw [f4 j a (by omega), f4 k (by omega) (by omega)]
      exact b4 j k a b (by omega)
  · rw [f4 i b1.1 hi]
    by_cases r : k = e
    · rw [r, f5]; omega
    · rw [f4 k a (by omega)]
      exact b5 k a (by omega) hi
  · have je : j < e := by omega
    rw [q1 j je] at nb o ⊢
    rw [f3 (Q j) (b2 j j0 je).2.2.1]
    by_cases r : zNb (Q j) w = n
    · rw [r, f2]
      refine ⟨by omega, ?_⟩
      by_cases r2 : j < i
      · -- then it had been reached
        have := (b6 j w j0 je w0 w1 (Or.inl r2) nb o).1
        rw [r] at this
        exact absurd hn this
      · obtain rfl : j = i := by omega
        omega
    · rw [f1 _ r]
      by_cases r2 : j = i ∧ w = t
      · exact absurd (by rw [r2.1, r2.2]; exact en) r
      · exact b6 j w j0 je w0 w1 (by omega) nb o
  · rw [f3 s (by omega)]; exact b7
  · by_cases r : c = n
    · rw [r, f2] at q; omega
    · rw [f1 c r] at q; exact b8 c a b q
  · by_cases r : c = n
    · subst r
      rw [f2]
      refine ⟨Q i, zAj_s hq.1 hq.2.1 ⟨t, t0, t4, en, nn⟩, ?_⟩
      rw [f3 (Q i) hq.2.2.1]
      omega
    · rw [f1 c r] at q ⊢
      obtain ⟨m, aj, em⟩ := b9 c a b q
      exact ⟨m, aj, by rw [f3 m (by omega)]; exact em⟩
theorem zBq_n {op : Int → Prop} {s : Int} {F Q : Int → Int} {i e t : Int} (h : zBq op s F Q i e t) (hi : i < e) (h4 : 4 ≤ t) : zBq op s F Q (i + 1) e 0 := by
  obtain ⟨b1, b2, b3, b4, b5, b6, b7⟩ := h
  refine ⟨⟨by omega, by omega, b1.2.2⟩, b2, b3, b4, fun k k0 k1 hk => ?_, fun j w j0 j1 w0 w1 q nb o => b6 j w j0 j1 w0 w1 (by omega) nb o, b7⟩
  have := b5 k k0 k1 hi
  have := b4 i (i + 1) b1.1 (by omega) hk
  omega
theorem zBq_e {op : Int → Prop} {s : Int} {F Q : Int → Int} {i e t : Int} (h : zBq op s F Q i e t) (hi : ¬ i < e) : zDM op s F := by
  obtain ⟨b1, b2, b3, b4, b5, b6, b7, b8, b9⟩ := h
  refine ⟨fun c c0 c1 => ?_, fun _ => b7, b8, b9, fun c n n0 n1 aj o hn => ?_⟩
  · by_cases q : F c = -1
    · exact Or.inl q
    · obtain ⟨x1, x2, j, x3, x4, x5⟩ := b3 c c0 c1 q
      have := (b2 j x3 x4).2.2.2
      rw [x5] at this
      exact Or.inr ⟨x1, by omega, x2⟩
  · obtain ⟨-, -, j, x3, x4, x5⟩ := b3 n n0 n1 hn
    obtain ⟨w, w0, w1, ew, nw⟩ := aj
    have := b6 j w x3 x4 w0 w1 (by omega) (by rw [x5, ew]; exact nw) (by rw [x5, ew]; exact o)
    rw [x5, ew] at this
    exact this
theorem zDM_no {op : Int → Prop} {s : Int} {F : Int → Int} (os : ¬ op s) (hF : ∀ c, 0 ≤ c → c < 36 → F c = -1) : zDM op s F := ⟨fun c a b => Or.inl (hF c a b), fun o => absurd o os, fun c a b q => by rw [hF c a b] at q; omega, fun c a b q => by rw [hF c a b] at q; omega, fun c n a b _ _ q => absurd (hF n a b) q⟩
/-- layer by layer; 1000: not reached. All that are nearer than d are done, of those at d the cells before c, of c the ways before t; m: whether one was reached at d + 1 -/
def zLq (op : Int → Prop) (s : Int) (G : Int → Int) (d m c t : Int) : Prop := (-1 ≤ d ∧ (m = 0 ∨ m = 1) ∧ d + m ≤ zcnt G 1000) ∧ (∀ b, 0 ≤ b → b < 36 → G b = 1000 ∨ (0 ≤ G b ∧ G b ≤ d + 1 ∧ op b)) ∧ (op s → G s = 0) ∧ (∀ b, 0 ≤ b → b < 36 → G b = 0 → b = s) ∧ (∀ b, 0 ≤ b → b < 36 → 0 < G b → G b < 1000 → ∃ n, zAj b n ∧ G n = G b - 1) ∧ (∀ n w, 0 ≤ n → n < 36 → 0 ≤ w → w < 4 → (G n < d ∨ (G n = d ∧ (n < c ∨ (n = c ∧ w < t)))) → zNb n w ≠ -1 → op (zNb n w) → G (zNb n w) ≤ G n + 1) ∧ (m = 0 → ∀ b, 0 ≤ b → b < 36 → G b ≠ d + 1)
theorem zLq_b {op : Int → Prop} {s : Int} {G : Int → Int} {d m c t : Int} (h : zLq op s G d m c t) : d ≤ 36 := by
  have := (zcnt_b (F := G) (x := 1000)).2
  have := h.1
  omega
theorem zLq_0 {op : Int → Prop} {s : Int} {G : Int → Int} {m : Int} (hm : m = 0 ∨ m = 1) (hG : ∀ b, 0 ≤ b → b < 36 → b ≠ s → G b = 1000) (h1 : op s → G s = 0) (h2 : ¬ op s → G s = 1000) (h3 : m = 0 → ¬ op s) (s0 : 0 ≤ s) (s1 : s < 36) : zLq op s G (-1) m 36 0 := by
  have q : ∀ b, 0 ≤ b → b < 36 → G b ≠ 1000 → b = s ∧ op s := fun b a c e => by
    have e1 : b = s := Classical.byContradiction fun r => e (hG b a c r)
    exact ⟨e1, Classical.byContradiction fun r => e (by rw [e1]; exact h2 r)⟩
  refine ⟨⟨by decide, hm, ?_⟩, fun b a c => ?_, h1, fun b a c e => (q b a c (by omega)).1, fun b a c e f => ?_, fun n w a c x y z => ?_, fun z b a c e => ?_⟩
  · have := (zcnt_b (F := G) (x := 1000)).1
    omega
  · by_cases e : G b = 1000
    · exact Or.inl e
    · obtain ⟨rfl, o⟩ := q b a c e
      have := h1 o
      exact Or.inr ⟨by omega, by omega, o⟩
  · obtain ⟨rfl, o⟩ := q b a c (by omega)
    have := h1 o
    omega
  · have : G n = 1000 ∨ G n = 0 := by
      by_cases e : G n = 1000
      · exact Or.inl e
      · obtain ⟨rfl, o⟩ := q n a c e
        exact Or.inr (h1 o)
    omega
  · exact h3 z (q b a c (by omega)).2
theorem zLq_in {op : Int → Prop} {s : Int} {G : Int → Int} {d : Int} (h : zLq op s G (d - 1) 1 36 0) : zLq op s G d 0 0 0 := by
  obtain ⟨b1, b2, b3, b4, b5, b6, b7⟩ := h
  refine ⟨⟨by omega, Or.inl rfl, by omega⟩, fun b a c => by (rcases b2 b a c with r | r); exact Or.inl r; exact Or.inr ⟨r.1, by omega, r.2.2⟩, b3, b4, b5, fun n w a b c e q => b6 n w a b c e (by omega), fun _ b a c => by have := b2 b a c; have := (zcnt_b (F := G) (x := 1000)).2; omega⟩
theorem zLq_skip {op : Int → Prop} {s : Int} {G : Int → Int} {d m c t : Int} (h : zLq op s G d m c t) (hn : zNb c t = -1 ∨ ¬ op (zNb c t) ∨ G (zNb c t) ≠ 1000) (hc : G c = d) (c0 : 0 ≤ c) (c1 : c < 36) : zLq op s G d m c (t + 1) := by
  obtain ⟨b1, b2, b3, b4, b5, b6, b7⟩ := h
  refine ⟨b1, b2, b3, b4, b5, fun n w n0 n1 w0 w1 q nb o => ?_, b7⟩
  by_cases r : n = c ∧ w = t
  · obtain ⟨rfl, rfl⟩ := r
    have hr := zNb_r c0 c1 nb
    have := b2 _ hr.1 hr.2
    rcases hn with e1 | e1 | e1
    · exact absurd e1 nb
    · exact absurd o e1
    · omega
  · exact b6 n w n0 n1 w0 w1 (by omega) nb o
theorem zLq_set {op : Int → Prop} {s : Int} {G : Int → Int} {d m c t n : Int} (h : zLq op s G d m c t) (t0 : 0 ≤ t) (t4 : t < 4) (en : zNb c t = n) (nn : n ≠ -1) (on : op n) (hn : G n = 1000) (hc : G c = d) (c0 : 0 ≤ c) (c1 : c < 36) : zLq op s (zfu G n (d + 1)) d 1 c (t + 1) := by
  have d36 := zLq_b h
  obtain ⟨b1, b2, b3, b4, b5, b6, b7⟩ := h
  have hr : 0 ≤ n ∧ n < 36 := by rw [← en] at nn ⊢; exact zNb_r c0 c1 nn
  have gd := b2 c c0 c1
  have f1 : ∀ x, x ≠ n → zfu G n (d + 1) x = G x := fun x q => zfu_n q
  have f2 : zfu G n (d + 1) n = d + 1 := zfu_e
  have f3 : ∀ x, G x ≠ 1000 → zfu G n (d + 1) x = G x := fun x q => f1 x (fun r => q (by rw [r]; exact hn))
  refine ⟨⟨b1.1, Or.inr rfl, ?_⟩, fun b a e => ?_, fun o => ?_, fun b a e q => ?_, fun b a e q q2 => ?_, fun x w x0 x1 w0 w1 q nb o => ?_, fun q => by omega⟩
  · rw [zcnt_u hr.1 hr.2 hn (by omega)]; omega
  · by_cases r : b = n
    · rw [r, f2]; exact Or.inr ⟨by omega, by omega, on⟩
    · rw [f1 b r]; exact b2 b a e
  · rw [f3 s (by have := b3 o; omega)]; exact b3 o
  · by_cases r : b = n
    · rw [r, f2] at q; omega
    · rw [f1 b r] at q; exact b4 b a e q
  · by_cases r : b = n
    · subst r
      rw [f2]
      exact ⟨c, zAj_s c0 c1 ⟨t, t0, t4, en, nn⟩, by rw [f3 c (by omega)]; omega⟩
    · rw [f1 b r] at q q2 ⊢
      obtain ⟨y, aj, ey⟩ := b5 b a e q q2
      exact ⟨y, aj, by rw [f3 y (by omega)]; exact ey⟩
  · have xn : x ≠ n := fun r => by rw [r, f2] at q; omega
    rw [f1 x xn] at q ⊢
    by_cases r : zNb x w = n
    · rw [r, f2]
      by_cases r2 : G x < d
      · have := b6 x w x0 x1 w0 w1 (Or.inl r2) nb o
        rw [r] at this
        omega
      · omega
    · rw [f1 _ r]
      by_cases r2 : x = c ∧ w = t
      · exact absurd (by rw [r2.1, r2.2]; exact en) r
      · exact b6 x w x0 x1 w0 w1 (by omega) nb o
theorem zLq_next {op : Int → Prop} {s : Int} {G : Int → Int} {d m c t : Int} (h : zLq op s G d m c t) (hn : G c ≠ d ∨ 4 ≤ t) : zLq op s G d m (c + 1) 0 := by
  obtain ⟨b1, b2, b3, b4, b5, b6, b7⟩ := h
  refine ⟨b1, b2, b3, b4, b5, fun n w n0 n1 w0 w1 q nb o => ?_, b7⟩
  by_cases r : n = c
  · subst r
    exact b6 n w n0 n1 w0 w1 (by omega) nb o
  · exact b6 n w n0 n1 w0 w1 (by omega) nb o
/-- as the class has it: -1 for a cell that isn't reached -/
def zFA (G : Int → Int) : Int → Int := fun b => if G b = 1000 then -1 else G b
theorem zLq_e {op : Int → Prop} {s : Int} {G : Int → Int} {d : Int} (h : zLq op s G (d - 1) 0 36 0) : zDM op s (zFA G) := by
  have d36 := zLq_b h
  obtain ⟨b1, b2, b3, b4, b5, b6, b7⟩ := h
  have q1 : ∀ b, G b ≠ 1000 → zFA G b = G b := fun b q => if_neg q
  have q2 : ∀ b, G b = 1000 → zFA G b = -1 := fun b q => if_pos q
  refine ⟨fun c a b => ?_, fun o => ?_, fun c a b q => ?_, fun c a b q => ?_, fun c n n0 n1 aj o hn => ?_⟩
  · by_cases e : G c = 1000
    · exact Or.inl (q2 c e)
    · rw [q1 c e]
      have := b2 c a b
      exact Or.inr ⟨by omega, by omega, by rcases this with r | r; exact absurd r e; exact r.2.2⟩
  · rw [q1 s (by have := b3 o; omega)]; exact b3 o
  · by_cases e : G c = 1000
    · rw [q2 c e] at q; omega
    · rw [q1 c e] at q; exact b4 c a b q
  · by_cases e : G c = 1000
    · rw [q2 c e] at q; omega
    · rw [q1 c e] at q ⊢
      have := b2 c a b
      obtain ⟨n, aj, en⟩ := b5 c a b q (by omega)
      exact ⟨n, aj, by rw [q1 n (by omega)]; exact en⟩
  · have e : G n ≠ 1000 := fun r => hn (q2 n r)
    obtain ⟨w, w0, w1, ew, nw⟩ := aj
    have g := b2 n n0 n1
    have g7 := b7 rfl n n0 n1
    have := b6 n w n0 n1 w0 w1 (by omega) (by rw [ew]; exact nw) (by rw [ew]; exact o)
    rw [ew] at this
    have hr := zNb_r n0 n1 (w := w) (by rw [ew]; exact nw)
    rw [ew] at hr
    have gc := b2 c hr.1 hr.2
    rw [q1 n e, q1 c (by omega)]
    omega
/-- the first way on which the map falls by one -/
def zNx (F : Int → Int) (c : Int) : Int := if F c ≤ 0 then -1 else if zNb c 0 ≠ -1 ∧ F (zNb c 0) = F c - 1 then zNb c 0 else if zNb c 1 ≠ -1 ∧ F (zNb c 1) = F c - 1 then zNb c 1 else if zNb c 2 ≠ -1 ∧ F (zNb c 2) = F c - 1 then zNb c 2 else if zNb c 3 ≠ -1 ∧ F (zNb c 3) = F c - 1 then zNb c 3 else -1
theorem zNx_ok {op : Int → Prop} {s : Int} {F : Int → Int} (h : zDM op s F) {c : Int} (c0 : 0 ≤ c) (c1 : c < 36) (hp : 0 < F c) : (0 ≤ zNx F c ∧ zNx F c < 36) ∧ F (zNx F c) = F c - 1 := by
  obtain ⟨n, ⟨w, w0, w1, ew, nw⟩, en⟩ := h.2.2.2.1 c c0 c1 hp
  have hr : ∀ w, zNb c w ≠ -1 → 0 ≤ zNb c w ∧ zNb c w < 36 := fun w q => zNb_r c0 c1 q
  unfold zNx
  rw [if_neg (by omega)]
  split
  · next q => exact ⟨hr 0 q.1, q.2⟩
  · split
    · next q => exact ⟨hr 1 q.1, q.2⟩
    · split
      · next q => exact ⟨hr 2 q.1, q.2⟩
      · split
        · next q => exact ⟨hr 3 q.1, q.2⟩
        · next a0 a1 a2 a3 =>
          subst ew
          rcases (by omega : w = 0 ∨ w = 1 ∨ w = 2 ∨ w = 3) with rfl | rfl | rfl | rfl
          · exact absurd ⟨nw, en⟩ a0
          · exact absurd ⟨nw, en⟩ a1
          · exact absurd ⟨nw, en⟩ a2
          · exact absurd ⟨nw, en⟩ a3
theorem zNx_cg {F G : Int → Int} {c : Int} (h : ∀ x, 0 ≤ x → x < 36 → F x = G x) (c0 : 0 ≤ c) (c1 : c < 36) : zNx F c = zNx G c := by
  have q : ∀ w, (zNb c w ≠ -1 ∧ F (zNb c w) = G c - 1) = (zNb c w ≠ -1 ∧ G (zNb c w) = G c - 1) := fun w => by
    refine propext ⟨fun r => ?_, fun r => ?_⟩
    · have hr := zNb_r c0 c1 r.1
      rw [← h _ hr.1 hr.2]; exact r
    · have hr := zNb_r c0 c1 r.1
      rw [h _ hr.1 hr.2]; exact r
  unfold zNx
  simp only [h c c0 c1, q]
