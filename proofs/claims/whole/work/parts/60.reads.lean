theorem zen_0 {C : Int → Prop} {t : Int → Int} {n s : Int} (hC : ¬ C (-1)) (hn : n ≤ 300) (h0 : 0 ≤ s) (h : ¬ C (zby t n s)) : zen C t n s = s := (zen_e hC hn h0 ⟨Int.le_refl _, fun i i0 i1 => by omega, h⟩).symm
theorem zen_1 {C : Int → Prop} {t : Int → Int} {n s : Int} (hC : ¬ C (-1)) (hn : n ≤ 300) (h0 : 0 ≤ s) (h : C (zby t n s)) : s < zen C t n s := by
  have r := zen_r (t := t) hC hn h0
  by_cases q : zen C t n s = s
  · rw [q] at r; exact absurd h r.2.2
  · have := r.1; omega
theorem zIl {t : Int → Int} {n p : Int} (hn : n ≤ 300) (h0 : 0 ≤ p) : ∀ j : Nat, j < (zen zpL t n p - p).toNat → 1 ≤ t (p + (j : Int)) - 96 ∧ t (p + (j : Int)) - 96 ≤ 26 := fun j hj => by
  have r := (zen_r (t := t) zpL_n hn h0).2.1 (p + (j : Int)) (by omega) (by omega)
  have := (zby_ll r).2.2
  omega
theorem zwv_0 : zwv 0 = -1 := by decide
theorem zcd_3 : ∀ k : Nat, ∀ (t : Int → Int) (a : Int), k < 3 → (∀ j : Nat, j < k → 1 ≤ t (a + (j : Int)) - 96 ∧ t (a + (j : Int)) - 96 ≤ 26) → zcd t a k < 1024 := fun k t a hk h => by
  have := (zcd_b k h).2
  have e : zpo 32 k ≤ 1024 := (by decide : ∀ k : Nat, k < 3 → zpo 32 k ≤ 1024) k hk
  omega
theorem zwv_3 {v : Int} (h : zwv v ≠ -1) : 1024 ≤ v := by
  by_cases q : 1024 ≤ v
  · exact q
  · refine absurd ?_ h
    unfold zwv
    repeat (rw [if_neg (by omega)])
theorem zIw_3 {t : Int → Int} {n p : Int} (hn : n ≤ 300) (h0 : 0 ≤ p) (h : zIw t n p ≠ -1) : p + 3 ≤ zIe t n p 0 := by
  have v := zwv_3 h
  have r := (zen_r (t := t) zpL_n hn h0).1
  by_cases q : (zen zpL t n p - p).toNat < 3
  · have := zcd_3 _ t p q (zIl hn h0); omega
  · show p + 3 ≤ zen zpL t n p; omega
theorem zTk_b {w : Int} (h : -1 ≤ w ∧ w ≤ 11) : (w = -1 → zTk w = 1) ∧ (w ≠ -1 → 10 ≤ zTk w) := by
  unfold zTk
  constructor
  · intro q; rw [if_pos q]
  · intro q; rw [if_neg q]; split <;> omega
theorem zTo_v {t : Int → Int} {n s tok v e : Int} (hn : n ≤ 300) (h0 : 0 ≤ s) (hs : s < n) (h : zTo t n s tok v e) : (tok < 10 → zIw t n s = -1) ∧ (10 ≤ tok → zIw t n s ≠ -1 ∧ tok = zTk (zIw t n s) ∧ e = zIe t n s 0) := by
  have hz : zby t n s = t s := if_pos hs
  have nl : ¬ zpL (t s) → zIw t n s = -1 := fun q => by
    unfold zIw
    rw [zen_0 zpL_n hn h0 (by rw [hz]; exact q), show (s - s).toNat = 0 by omega]
    exact zwv_0
  rcases h with ⟨h1, h2, h3⟩ | ⟨h1, h2, h3, h4⟩ | ⟨h1, h2, h3, h4⟩ | ⟨h1, h2, h3, h4, h5⟩
  · omega
  · have e4 : tok = zTk (zIw t n s) := by rw [h4, h3]; rfl
    have b := zTk_b (w := zIw t n s) zwv_b
    constructor
    · intro q
      by_cases z : zIw t n s = -1
      · exact z
      · have := b.2 z; omega
    · intro q
      refine ⟨fun z => ?_, e4, h3⟩
      have := b.1 z; omega
  · have := nl (by unfold zpL zpD at *; omega)
    exact ⟨fun _ => this, fun q => by omega⟩
  · exact ⟨fun _ => nl h2, fun q => by omega⟩
theorem zTo_n {t : Int → Int} {n p tok v e : Int} {i : Nat} (hn : n ≤ 300) (h0 : 0 ≤ zIs t n p i) (h : zTo t n (zIs t n p i) tok v e) : (tok ≠ 2 → ¬ zIg t n p i) ∧ (tok = 2 → zIg t n p i ∧ v = zIv t n p i ∧ e = zIe t n p (i + 1)) := by
  have e1 : zIe t n p (i + 1) = zen zpD t n (zIs t n p i) := rfl
  have nd : ¬ zpD (zby t n (zIs t n p i)) → ¬ zIg t n p i := fun q g => by
    unfold zIg at g
    rw [e1, zen_0 zpD_n hn h0 q] at g
    omega
  rcases h with ⟨h1, h2, h3⟩ | ⟨h1, h2, h3, h4⟩ | ⟨h1, h2, h3, h4⟩ | ⟨h1, h2, h3, h4, h5⟩
  · exact ⟨fun _ => nd (by unfold zby; rw [if_neg (by omega)]; exact zpD_n), fun q => by omega⟩
  · have b := zTk_b (w := zwv (zcd t (zIs t n p i) (e - zIs t n p i).toNat)) zwv_b
    refine ⟨fun _ => nd (by unfold zby; rw [if_pos h1]; unfold zpL zpD at *; omega), fun q => ?_⟩
    by_cases z : zwv (zcd t (zIs t n p i) (e - zIs t n p i).toNat) = -1
    · have := b.1 z; omega
    · have := b.2 z; omega
  · have g1 := zen_1 (t := t) zpD_n hn h0 (show zpD (zby t n (zIs t n p i)) by unfold zby; rw [if_pos h1]; exact h2)
    rcases h4 with ⟨a, b, c⟩ | ⟨a, b⟩
    · refine ⟨fun q => absurd b q, fun _ => ⟨?_, ?_, by rw [e1]; exact h3⟩⟩
      · unfold zIg; rw [e1]; omega
      · rw [c, h3]; rfl
    · refine ⟨fun _ g => ?_, fun q => by omega⟩
      unfold zIg at g; rw [e1] at g; omega
  · exact ⟨fun _ => nd (by unfold zby; rw [if_pos h1]; exact h3), fun q => by omega⟩
theorem zTo_s {t : Int → Int} {n s tok v e : Int} (h : zTo t n s tok v e) : (tok = 3 → zby t n s = 59 ∧ e = s + 1) ∧ (tok ≠ 3 → zby t n s ≠ 59) := by
  rcases h with ⟨h1, h2, h3⟩ | ⟨h1, h2, h3, h4⟩ | ⟨h1, h2, h3, h4⟩ | ⟨h1, h2, h3, h4, h5⟩
  · exact ⟨fun q => by omega, fun _ q => by unfold zby at q; rw [if_neg (by omega)] at q; omega⟩
  · have b := zTk_b (w := zwv (zcd t s (e - s).toNat)) zwv_b
    refine ⟨fun q => ?_, fun _ q => by unfold zby at q; rw [if_pos h1] at q; unfold zpL at h2; omega⟩
    by_cases z : zwv (zcd t s (e - s).toNat) = -1
    · have := b.1 z; omega
    · have := b.2 z; omega
  · exact ⟨fun q => by omega, fun _ q => by unfold zby at q; rw [if_pos h1] at q; unfold zpD at h2; omega⟩
  · have hz : zby t n s = t s := if_pos h1
    rcases h5 with ⟨a, b⟩ | ⟨a, b⟩
    · exact ⟨fun _ => ⟨by rw [hz]; exact a, h4⟩, fun q => absurd b q⟩
    · exact ⟨fun q => by omega, fun _ => by rw [hz]; exact a⟩
/-- each number takes a byte at least -/
theorem zIe_g {t : Int → Int} {n p : Int} (hn : n ≤ 300) (p0 : 0 ≤ p) (pn : p ≤ n) : ∀ i : Nat, (∀ j : Nat, j < i → zIg t n p j) → zIe t n p 0 + (i : Int) ≤ zIe t n p i
  | 0, _ => by show zIe t n p 0 + 0 ≤ zIe t n p 0; omega
  | i + 1, h => by
    have ih := zIe_g hn p0 pn i (fun j hj => h j (by omega))
    have g := h i (by omega)
    have b := zIs_b (t := t) hn p0 pn i
    unfold zIg at g
    omega
theorem zps_b {t : Int → Int} {n : Int} (n0 : 0 ≤ n) (hn : n ≤ 300) : ∀ k : Nat, (∀ j : Nat, j < k → zps t n j < n ∧ zIf t n (zps t n j) (-1)) → 0 ≤ zps t n k ∧ zps t n k ≤ n ∧ 5 * (k : Int) ≤ zps t n k
  | 0, _ => by
    have := zen_b (t := t) zpB_n hn (Int.le_refl 0) n0
    show 0 ≤ zen zpB t n 0 ∧ zen zpB t n 0 ≤ n ∧ 5 * ((0 : Nat) : Int) ≤ zen zpB t n 0
    omega
  | k + 1, h => by
    have ih := zps_b (t := t) n0 hn k (fun j hj => h j (by omega))
    have hk := h k (by omega)
    rcases hk.2 with ⟨a, b⟩ | ⟨a, b⟩
    · omega
    · rcases b with ⟨i, i1, i2, i3, i4⟩ | ⟨b1, b2⟩
      · have := zIs_b (t := t) hn ih.1 ih.2.1 i
        have := zIe_b (t := t) hn ih.1 ih.2.1 i
        omega
      · have c := zcn_b (w := zIw t n (zps t n k))
        have s := zIs_b (t := t) hn ih.1 ih.2.1 (zcn (zIw t n (zps t n k))).toNat
        have e := zIe_b (t := t) hn ih.1 ih.2.1 (zcn (zIw t n (zps t n k))).toNat
        rcases b2 with ⟨c1, c2⟩ | ⟨c1, c2⟩
        · have g := zIe_g (t := t) hn ih.1 ih.2.1 (zcn (zIw t n (zps t n k))).toNat (fun j hj => b1 j (by omega))
          have w3 := zIw_3 (t := t) hn ih.1 a
          have lt : zIs t n (zps t n k) (zcn (zIw t n (zps t n k))).toNat < n := by
            by_cases q : zIs t n (zps t n k) (zcn (zIw t n (zps t n k))).toNat < n
            · exact q
            · unfold zby at c1; rw [if_neg q] at c1; omega
          have z := zen_b (t := t) zpB_n hn (a := zIs t n (zps t n k) (zcn (zIw t n (zps t n k))).toNat + 1) (by omega) (by omega)
          rw [zps_s]
          omega
        · omega
set_option maxRecDepth 100000 in
set_option maxHeartbeats 4000000 in
theorem k_X12_reads {l : Launch} {E : zE} {μ : zM} (hn : 0 ≤ μ 393 9 ∧ μ 393 9 ≤ 300) : Ct l E yX12_reads cX12_reads 3 (some .boolean) ({ frames := 3, cells := 0, slots := 0, locals := 69 }) [zR 393] μ (fun r ν => ∃ (k : Nat) (f : Int), zRd9 (μ 399) (μ 393 9) k f ∧ r = some (zI (zb (f = -1))) ∧ (f = -1 → ν 393 16 = (k : Int)) ∧ (f ≠ -1 → ν 393 11 = f) ∧ (∀ j : Nat, j < k → ν 400 (j : Int) = zTk (zIw (μ 399) (μ 393 9) (zps (μ 399) (μ 393 9) j)) ∧ ∀ i : Nat, (i : Int) < zcn (zIw (μ 399) (μ 393 9) (zps (μ 399) (μ 393 9) j)) → ν 401 (5 * (j : Int) + (i : Int)) = zIv (μ 399) (μ 393 9) (zps (μ 399) (μ 393 9) j) i) ∧ (∀ k, k ≠ 10 → k ≠ 11 → k ≠ 12 → k ≠ 13 → k ≠ 16 → ν 393 k = μ 393 k) ∧ (∀ x, x ≠ 393 → x ≠ 400 → x ≠ 401 → ν x = μ x)) := by
  refine Ct.of RX12 [zR 393, zU, zU] (by decide +kernel) rfl ⟨rfl, rfl⟩ rfl (Nat.le_of_ble_eq_true rfl) (fun X hX hc0 ha0 => ?_)
  subst hX
  have L14 : ∀ (m : Nat) (k : Nat) (ξ : zM), ξ 393 16 = (k : Int) → ξ 393 11 = (zps (μ 399) (μ 393 9) k) → zTo (μ 399) (μ 393 9) (zps (μ 399) (μ 393 9) k) (ξ 393 12) (ξ 393 13) (ξ 393 10) → (∀ j : Nat, j < k → (zps (μ 399) (μ 393 9) j) < μ 393 9 ∧ zIf (μ 399) (μ 393 9) (zps (μ 399) (μ 393 9) j) (-1)) → (∀ j : Nat, j < k → ξ 400 (j : Int) = zTk (zIw (μ 399) (μ 393 9) (zps (μ 399) (μ 393 9) j)) ∧ ∀ i : Nat, (i : Int) < zcn (zIw (μ 399) (μ 393 9) (zps (μ 399) (μ 393 9) j)) → ξ 401 (5 * (j : Int) + (i : Int)) = zIv (μ 399) (μ 393 9) (zps (μ 399) (μ 393 9) j) i) → (∀ k, k ≠ 10 → k ≠ 11 → k ≠ 12 → k ≠ 13 → k ≠ 16 → ξ 393 k = μ 393 k) → (∀ x, x ≠ 393 → x ≠ 400 → x ≠ 401 → ξ x = μ x) → (μ 393 9 + 1 - (k : Int)).toNat < m → MW X E cX12_reads RX12 ({ frames := 3, cells := 0, slots := 0, locals := 69 }) (some .boolean) (fun r ν => ∃ (k : Nat) (f : Int), zRd9 (μ 399) (μ 393 9) k f ∧ r = some (zI (zb (f = -1))) ∧ (f = -1 → ν 393 16 = (k : Int)) ∧ (f ≠ -1 → ν 393 11 = f) ∧ (∀ j : Nat, j < k → ν 400 (j : Int) = zTk (zIw (μ 399) (μ 393 9) (zps (μ 399) (μ 393 9) j)) ∧ ∀ i : Nat, (i : Int) < zcn (zIw (μ 399) (μ 393 9) (zps (μ 399) (μ 393 9) j)) → ν 401 (5 * (j : Int) + (i : Int)) = zIv (μ 399) (μ 393 9) (zps (μ 399) (μ 393 9) j) i) ∧ (∀ k, k ≠ 10 → k ≠ 11 → k ≠ 12 → k ≠ 13 → k ≠ 16 → ν 393 k = μ 393 k) ∧ (∀ x, x ≠ 393 → x ≠ 400 → x ≠ 401 → ν x = μ x)) 14 [zR 393, zU, zU] [] ξ := by
    intro m
    induction m with
    | zero => intro k ξ h16 h11 hto hprev hrec hk hx h3; omega
    | succ m ih =>
      intro k ξ h16 h11 hto hprev hrec hk hx h3
      have pb := zps_b (t := μ 399) hn.1 hn.2 k hprev
      have c9 : ξ 393 9 = μ 393 9 := hk 9 (by decide) (by decide) (by decide) (by decide) (by decide)
      have c399 : ξ 399 = μ 399 := hx 399 (by decide) (by decide) (by decide)
      refine z_aload_0 dX12_reads_14 ?_
      refine z_getI 12 rfl f_X12_193 zl_393 rfl dX12_reads_15 ?_
      refine z_ifeq (tgt := 122) dX12_reads_18 (by decide) (fun h_18 => ?_) (fun h_18 => ?_)
      · have hend : μ 393 9 ≤ (zps (μ 399) (μ 393 9) k) := by
          rcases hto with ⟨a, b, c⟩ | ⟨a, a2, a3, a4⟩ | ⟨a, a2, a3, a4⟩ | ⟨a, a2, a3, a4, a5⟩
          · exact a
          · have b := zTk_b (w := zwv (zcd (μ 399) (zps (μ 399) (μ 393 9) k) (ξ 393 10 - (zps (μ 399) (μ 393 9) k)).toNat)) zwv_b
            by_cases z : zwv (zcd (μ 399) (zps (μ 399) (μ 393 9) k) (ξ 393 10 - (zps (μ 399) (μ 393 9) k)).toNat) = -1
            · have := b.1 z; omega
            · have := b.2 z; omega
          · omega
          · omega
        refine z_iconst dX12_reads_122 (by decide) ?_
        exact z_zret (Or.inr rfl) dX12_reads_123 (⟨k, -1, ⟨hprev, Or.inl ⟨hend, rfl⟩⟩, by rw [zb_t rfl], fun _ => h16, fun q => absurd rfl q, hrec, hk, hx⟩)
      · have hlt : (zps (μ 399) (μ 393 9) k) < μ 393 9 := by
          rcases hto with ⟨a, b, c⟩ | ⟨a, -⟩ | ⟨a, -⟩ | ⟨a, -⟩
          · exact absurd b h_18
          · exact a
          · exact a
          · exact a
        refine z_aload_0 dX12_reads_21 ?_
        refine z_getI 12 rfl f_X12_193 zl_393 rfl dX12_reads_22 ?_
        refine z_istore_1 rfl dX12_reads_25 ?_
        refine z_iload_1 dX12_reads_26 ?_
        refine z_bipush dX12_reads_27 (by decide) ?_
        refine z_icmpge (tgt := 34) dX12_reads_29 (by decide) (fun h_29 => ?_) (fun h_29 => ?_)
        · have tv := (zTo_v hn.2 pb.1 hlt hto).2 (by omega)
          have hw1 := tv.1
          have hwb : 0 ≤ (zIw (μ 399) (μ 393 9) (zps (μ 399) (μ 393 9) k)) ∧ (zIw (μ 399) (μ 393 9) (zps (μ 399) (μ 393 9) k)) ≤ 11 := by have := zwv_b (v := zcd (μ 399) (zps (μ 399) (μ 393 9) k) (zen zpL (μ 399) (μ 393 9) (zps (μ 399) (μ 393 9) k) - (zps (μ 399) (μ 393 9) k)).toNat); unfold zIw at *; omega
          have ie0 := zIe_b (t := μ 399) hn.2 pb.1 pb.2.1 0
          rw [tv.2.1]
          have L40 : ∀ (m : Nat) (i : Nat) (ζ : zM), (i : Int) ≤ zcn (zIw (μ 399) (μ 393 9) (zps (μ 399) (μ 393 9) k)) → ζ 393 16 = (k : Int) → ζ 393 11 = (zIs (μ 399) (μ 393 9) (zps (μ 399) (μ 393 9) k) i) → zTo (μ 399) (μ 393 9) (zIs (μ 399) (μ 393 9) (zps (μ 399) (μ 393 9) k) i) (ζ 393 12) (ζ 393 13) (ζ 393 10) → (∀ j : Nat, j < i → zIg (μ 399) (μ 393 9) (zps (μ 399) (μ 393 9) k) j) → (∀ j : Nat, j < i → ζ 401 (5 * (k : Int) + (j : Int)) = zIv (μ 399) (μ 393 9) (zps (μ 399) (μ 393 9) k) j) → (∀ j : Nat, j < k → ζ 400 (j : Int) = zTk (zIw (μ 399) (μ 393 9) (zps (μ 399) (μ 393 9) j)) ∧ ∀ i : Nat, (i : Int) < zcn (zIw (μ 399) (μ 393 9) (zps (μ 399) (μ 393 9) j)) → ζ 401 (5 * (j : Int) + (i : Int)) = zIv (μ 399) (μ 393 9) (zps (μ 399) (μ 393 9) j) i) → (∀ k, k ≠ 10 → k ≠ 11 → k ≠ 12 → k ≠ 13 → k ≠ 16 → ζ 393 k = μ 393 k) → (∀ x, x ≠ 393 → x ≠ 400 → x ≠ 401 → ζ x = μ x) → zcn (zIw (μ 399) (μ 393 9) (zps (μ 399) (μ 393 9) k)) - (i : Int) < m → MW X E cX12_reads RX12 ({ frames := 3, cells := 0, slots := 0, locals := 69 }) (some .boolean) (fun r ν => ∃ (k : Nat) (f : Int), zRd9 (μ 399) (μ 393 9) k f ∧ r = some (zI (zb (f = -1))) ∧ (f = -1 → ν 393 16 = (k : Int)) ∧ (f ≠ -1 → ν 393 11 = f) ∧ (∀ j : Nat, j < k → ν 400 (j : Int) = zTk (zIw (μ 399) (μ 393 9) (zps (μ 399) (μ 393 9) j)) ∧ ∀ i : Nat, (i : Int) < zcn (zIw (μ 399) (μ 393 9) (zps (μ 399) (μ 393 9) j)) → ν 401 (5 * (j : Int) + (i : Int)) = zIv (μ 399) (μ 393 9) (zps (μ 399) (μ 393 9) j) i) ∧ (∀ k, k ≠ 10 → k ≠ 11 → k ≠ 12 → k ≠ 13 → k ≠ 16 → ν 393 k = μ 393 k) ∧ (∀ x, x ≠ 393 → x ≠ 400 → x ≠ 401 → ν x = μ x)) 40 [zR 393, zI (zTk (zIw (μ 399) (μ 393 9) (zps (μ 399) (μ 393 9) k))), zI (i : Int)] [] ζ := by
            intro m
            induction m with
            | zero => intro i ζ hi z16 z11 hto hg hnu hrz hkz hxz h4; omega
            | succ m ih2 =>
              intro i ζ hi z16 z11 hto hg hnu hrz hkz hxz h4
              have isb := zIs_b (t := μ 399) hn.2 pb.1 pb.2.1 i
              have ieb := zIe_b (t := μ 399) hn.2 pb.1 pb.2.1 i
              have ieb1 := zIe_b (t := μ 399) hn.2 pb.1 pb.2.1 (i + 1)
              have c9 : ζ 393 9 = μ 393 9 := hkz 9 (by decide) (by decide) (by decide) (by decide) (by decide)
              have c399 : ζ 399 = μ 399 := hxz 399 (by decide) (by decide) (by decide)
              have cnb := zcn_b (w := (zIw (μ 399) (μ 393 9) (zps (μ 399) (μ 393 9) k)))
              refine z_iload_2 dX12_reads_40 ?_
              refine z_iload_1 dX12_reads_41 ?_
              refine z_callS1 (k_X12_numbers (w := (zIw (μ 399) (μ 393 9) (zps (μ 399) (μ 393 9) k))) hwb) m_X12_numbers l_X12_213 (Nat.le_of_ble_eq_true rfl) ⟨Nat.le_of_ble_eq_true rfl, Nat.le_of_ble_eq_true rfl⟩ ⟨rfl, rfl⟩ dX12_reads_42 (fun r μ1 hp => ?_)
              obtain ⟨rfl, hv⟩ := hp
              replace hv := hv.symm
              subst hv
              refine z_icmpge (tgt := 85) dX12_reads_45 (by decide) (fun h_45 => ?_) (fun h_45 => ?_)
              · have hii : i = (zcn (zIw (μ 399) (μ 393 9) (zps (μ 399) (μ 393 9) k))).toNat := by omega
                refine z_aload_0 dX12_reads_85 ?_
                refine z_getI 12 rfl f_X12_193 zl_393 rfl dX12_reads_86 ?_
                refine z_iconst dX12_reads_89 (by decide) ?_
                refine z_icmpeq (tgt := 95) dX12_reads_90 (by decide) (fun h_90 => ?_) (fun h_90 => ?_)
                · refine z_aload_0 dX12_reads_95 ?_
                  refine z_getF 400 7 rfl f_X12_29 zl_393 rfl rfl dX12_reads_96 ?_
                  refine z_aload_0 dX12_reads_99 ?_
                  refine z_getI 16 rfl f_X12_207 zl_393 rfl dX12_reads_100 ?_
                  refine z_iload_1 dX12_reads_103 ?_
                  refine z_iast zl_400 (by omega) (by omega) dX12_reads_104 ?_
                  refine z_aload_0 dX12_reads_105 ?_
                  refine z_dup dX12_reads_106 rfl ?_
                  refine z_getI 16 rfl f_X12_207 zl_393 rfl dX12_reads_107 ?_
                  rw [zup_row (by decide), z16]
                  refine z_iconst dX12_reads_110 (by decide) ?_
                  refine z_iadd dX12_reads_111 (by omega) ?_
                  refine z_putI 16 rfl f_X12_207 p_12_16 zl_393 rfl rfl dX12_reads_112 ?_
                  have ts := (zTo_s hto).1 h_90
                  have hzs : zby (μ 399) (μ 393 9) (zIs (μ 399) (μ 393 9) (zps (μ 399) (μ 393 9) k) (zcn (zIw (μ 399) (μ 393 9) (zps (μ 399) (μ 393 9) k))).toNat) = 59 := by rw [← hii]; exact ts.1
                  have hltS : zIs (μ 399) (μ 393 9) (zps (μ 399) (μ 393 9) k) i < μ 393 9 := by
                    by_cases q : zIs (μ 399) (μ 393 9) (zps (μ 399) (μ 393 9) k) i < μ 393 9
                    · exact q
                    · have := ts.1; unfold zby at this; rw [if_neg q] at this; omega
                  generalize hm2 : zup (zup ζ 400 (k : Int) (zTk (zIw (μ 399) (μ 393 9) (zps (μ 399) (μ 393 9) k)))) 393 16 ((k : Int) + 1) = m2
                  replace hm2 := hm2.symm
                  have d9 : m2 393 9 = μ 393 9 := by rw [hm2, zup_ne (Or.inr (by decide)), zup_row (by decide)]; exact c9
                  have d10 : m2 393 10 = zIs (μ 399) (μ 393 9) (zps (μ 399) (μ 393 9) k) (zcn (zIw (μ 399) (μ 393 9) (zps (μ 399) (μ 393 9) k))).toNat + 1 := by rw [hm2, zup_ne (Or.inr (by decide)), zup_row (by decide), ts.2, hii]
                  have d399 : m2 399 = μ 399 := by rw [hm2, zup_row (by decide), zup_row (by decide)]; exact c399
                  refine z_aload_0 dX12_reads_115 ?_
                  refine z_callV0 (k_X12_scans (by rw [d9]; exact hn) (by rw [d9, d10, ← hii]; exact ⟨by omega, by omega⟩)) m_X12_scans zl_393 l_X12_210 (Nat.le_of_ble_eq_true rfl) ⟨Nat.le_of_ble_eq_true rfl, Nat.le_of_ble_eq_true rfl⟩ ⟨rfl, rfl⟩ dX12_reads_116 (fun r μ1 hp => ?_)
                  rw [d9, d399, d10] at hp
                  obtain ⟨rfl, z11b, ztob, zk, zx⟩ := hp
                  obtain ⟨ζ5, hζ9⟩ : ∃ z, z = μ1 := ⟨_, rfl⟩
                  subst hζ9
                  refine z_goto (tgt := 14) dX12_reads_119 (by decide) ?_
                  refine z_weak (ls' := [zR 393, zU, zU]) ⟨Or.inl rfl, Or.inr rfl, Or.inr rfl, trivial⟩ (ih (k + 1) ζ5 (by rw [zk 16 (by decide) (by decide) (by decide) (by decide), hm2, zup_eq]; omega) z11b ztob (fun j hj => by by_cases q : j = k; rw [q]; exact ⟨hlt, Or.inr ⟨hw1, Or.inr ⟨fun j hj => hg j (by omega), Or.inl ⟨hzs, rfl⟩⟩⟩⟩; exact hprev j (by omega)) (fun j hj => ?_) (fun x a b c d e => by rw [zk x a b c d, hm2, zup_ne (Or.inr e), zup_row (by decide)]; exact hkz x a b c d e) (fun x a b c => by rw [zx x a, hm2, zup_row a, zup_row b]; exact hxz x a b c) (by omega))
                  have e400 : ∀ y, ζ5 400 y = zup ζ 400 (k : Int) (zTk (zIw (μ 399) (μ 393 9) (zps (μ 399) (μ 393 9) k))) 400 y := fun y => by rw [zx 400 (by decide), hm2, zup_row (by decide)]
                  have e401 : ζ5 401 = ζ 401 := by rw [zx 401 (by decide), hm2, zup_row (by decide), zup_row (by decide)]
                  rw [e400, e401]
                  by_cases q : j = k
                  · subst q
                    exact ⟨by rw [zup_eq], fun i2 hi2 => hnu i2 (by omega)⟩
                  · rw [zup_ne (Or.inr (by omega))]; exact hrz j (by omega)
                · refine z_iconst dX12_reads_93 (by decide) ?_
                  exact z_zret (Or.inl rfl) dX12_reads_94 (⟨k, (zIs (μ 399) (μ 393 9) (zps (μ 399) (μ 393 9) k) i), ⟨hprev, Or.inr ⟨hlt, Or.inr ⟨hw1, Or.inr ⟨fun j hj => hg j (by omega), Or.inr ⟨by rw [← hii]; exact (zTo_s hto).2 h_90, by rw [← hii]⟩⟩⟩, by omega⟩⟩, by rw [zb_f (by omega)], fun q => absurd q (by omega), fun _ => z11, hrz, hkz, hxz⟩)
              · refine z_aload_0 dX12_reads_48 ?_
                refine z_getI 12 rfl f_X12_193 zl_393 rfl dX12_reads_49 ?_
                refine z_iconst dX12_reads_52 (by decide) ?_
                refine z_icmpeq (tgt := 58) dX12_reads_53 (by decide) (fun h_53 => ?_) (fun h_53 => ?_)
                · refine z_aload_0 dX12_reads_58 ?_
                  refine z_getF 401 8 rfl f_X12_32 zl_393 rfl rfl dX12_reads_59 ?_
                  refine z_iconst dX12_reads_62 (by decide) ?_
                  refine z_aload_0 dX12_reads_63 ?_
                  refine z_getI 16 rfl f_X12_207 zl_393 rfl dX12_reads_64 ?_
                  rw [z16]
                  refine z_imul dX12_reads_67 (by omega) ?_
                  refine z_iload_2 dX12_reads_68 ?_
                  refine z_iadd dX12_reads_69 (by omega) ?_
                  refine z_aload_0 dX12_reads_70 ?_
                  refine z_getI 13 rfl f_X12_204 zl_393 rfl dX12_reads_71 ?_
                  refine z_iast zl_401 (by omega) (by omega) dX12_reads_74 ?_
                  generalize hm1 : zup ζ 401 (5 * (k : Int) + (i : Int)) (ζ 393 13) = m1
                  replace hm1 := hm1.symm
                  have tn := (zTo_n hn.2 (by omega) hto).2 h_53
                  have d9 : m1 393 9 = μ 393 9 := by rw [hm1, zup_row (by decide)]; exact c9
                  have d10 : m1 393 10 = zIe (μ 399) (μ 393 9) (zps (μ 399) (μ 393 9) k) (i + 1) := by rw [hm1, zup_row (by decide)]; exact tn.2.2
                  have d399 : m1 399 = μ 399 := by rw [hm1, zup_row (by decide)]; exact c399
                  refine z_aload_0 dX12_reads_75 ?_
                  refine z_callV0 (k_X12_scans (by rw [d9]; exact hn) (by rw [d9, d10]; exact ⟨by omega, ieb1.2⟩)) m_X12_scans zl_393 l_X12_210 (Nat.le_of_ble_eq_true rfl) ⟨Nat.le_of_ble_eq_true rfl, Nat.le_of_ble_eq_true rfl⟩ ⟨rfl, rfl⟩ dX12_reads_76 (fun r μ1 hp => ?_)
                  rw [d9, d399, d10] at hp
                  obtain ⟨rfl, z11b, ztob, zk, zx⟩ := hp
                  obtain ⟨ζ4, hζ9⟩ : ∃ z, z = μ1 := ⟨_, rfl⟩
                  subst hζ9
                  refine z_iinc_2 rfl dX12_reads_79 (by omega) ?_
                  refine z_goto (tgt := 40) dX12_reads_82 (by decide) ?_
                  refine ih2 (i + 1) ζ4 (by omega) (by rw [zk 16 (by decide) (by decide) (by decide) (by decide), hm1, zup_row (by decide)]; exact z16) z11b ztob (fun j hj => by by_cases q : j = i; rw [q]; exact tn.1; exact hg j (by omega)) (fun j hj => ?_) (fun j hj => ⟨by rw [zx 400 (by decide), hm1, zup_row (by decide)]; exact (hrz j hj).1, fun i2 hi2 => by have c2 := zcn_b (w := (zIw (μ 399) (μ 393 9) (zps (μ 399) (μ 393 9) j))); rw [zx 401 (by decide), hm1, zup_ne (Or.inr (by omega))]; exact (hrz j hj).2 i2 hi2⟩) (fun x a b c d e => by rw [zk x a b c d, hm1, zup_row (by decide)]; exact hkz x a b c d e) (fun x a b c => by rw [zx x a, hm1, zup_row c]; exact hxz x a b c) (by omega)
                  rw [zx 401 (by decide), hm1]
                  by_cases q : j = i
                  · rw [q, zup_eq]; exact tn.2.1
                  · rw [zup_ne (Or.inr (by omega))]; exact hnu j (by omega)
                · refine z_iconst dX12_reads_56 (by decide) ?_
                  exact z_zret (Or.inl rfl) dX12_reads_57 (⟨k, (zIs (μ 399) (μ 393 9) (zps (μ 399) (μ 393 9) k) i), ⟨hprev, Or.inr ⟨hlt, Or.inr ⟨hw1, Or.inl ⟨i, by omega, hg, (zTo_n hn.2 (by omega) hto).1 h_53, rfl⟩⟩, by omega⟩⟩, by rw [zb_f (by omega)], fun q => absurd q (by omega), fun _ => z11, hrz, hkz, hxz⟩)
          refine z_aload_0 dX12_reads_34 ?_
          refine z_callV0 (k_X12_scans (by rw [c9]; exact hn) (by rw [c9, tv.2.2]; exact ⟨by omega, ie0.2⟩)) m_X12_scans zl_393 l_X12_210 (Nat.le_of_ble_eq_true rfl) ⟨Nat.le_of_ble_eq_true rfl, Nat.le_of_ble_eq_true rfl⟩ ⟨rfl, rfl⟩ dX12_reads_35 (fun r μ1 hp => ?_)
          rw [c9, c399, tv.2.2] at hp
          obtain ⟨rfl, z11b, ztob, zk, zx⟩ := hp
          obtain ⟨ζ, hζ9⟩ : ∃ z, z = μ1 := ⟨_, rfl⟩
          subst hζ9
          refine z_iconst dX12_reads_38 (by decide) ?_
          refine z_istore_2 rfl dX12_reads_39 ?_
          exact L40 9 0 ζ (by have := zcn_b (w := (zIw (μ 399) (μ 393 9) (zps (μ 399) (μ 393 9) k))); omega) (by rw [zk 16 (by decide) (by decide) (by decide) (by decide)]; exact h16) z11b ztob (fun j hj => by omega) (fun j hj => by omega) (fun j hj => by rw [zx 400 (by decide), zx 401 (by decide)]; exact hrec j hj) (fun x a b c d e => (zk x a b c d).trans (hk x a b c d e)) (fun x a b c => (zx x a).trans (hx x a b c)) (by have := zcn_b (w := (zIw (μ 399) (μ 393 9) (zps (μ 399) (μ 393 9) k))); omega)
        · refine z_iconst dX12_reads_32 (by decide) ?_
          exact z_zret (Or.inl rfl) dX12_reads_33 (⟨k, (zps (μ 399) (μ 393 9) k), ⟨hprev, Or.inr ⟨hlt, Or.inl ⟨(zTo_v hn.2 pb.1 hlt hto).1 h_29, rfl⟩, by omega⟩⟩, by rw [zb_f (by omega)], fun q => absurd q (by omega), fun _ => h11, hrec, hk, hx⟩)
  refine z_aload_0 dX12_reads_0 ?_
  refine z_iconst dX12_reads_1 (by decide) ?_
  refine z_putI 10 rfl f_X12_159 p_12_10 zl_393 rfl rfl dX12_reads_2 ?_
  refine z_aload_0 dX12_reads_5 ?_
  refine z_iconst dX12_reads_6 (by decide) ?_
  refine z_putI 16 rfl f_X12_207 p_12_16 zl_393 rfl rfl dX12_reads_7 ?_
  generalize hm0 : zup (zup μ 393 10 0) 393 16 0 = m0
  replace hm0 := hm0.symm
  have d9 : m0 393 9 = μ 393 9 := by rw [hm0, zup_ne (Or.inr (by decide)), zup_ne (Or.inr (by decide))]
  have d10 : m0 393 10 = 0 := by rw [hm0, zup_ne (Or.inr (by decide)), zup_eq]
  have d399 : m0 399 = μ 399 := by rw [hm0, zup_row (by decide), zup_row (by decide)]
  refine z_aload_0 dX12_reads_10 ?_
  refine z_callV0 (k_X12_scans (by rw [d9]; exact hn) (by rw [d9, d10]; exact ⟨by decide, hn.1⟩)) m_X12_scans zl_393 l_X12_210 (Nat.le_of_ble_eq_true rfl) ⟨Nat.le_of_ble_eq_true rfl, Nat.le_of_ble_eq_true rfl⟩ ⟨rfl, rfl⟩ dX12_reads_11 (fun r μ1 hp => ?_)
  rw [d9, d399, d10] at hp
  obtain ⟨rfl, z11b, ztob, zk, zx⟩ := hp
  obtain ⟨ζ, hζ9⟩ : ∃ z, z = μ1 := ⟨_, rfl⟩
  subst hζ9
  exact L14 400 0 ζ (by rw [zk 16 (by decide) (by decide) (by decide) (by decide), hm0, zup_eq]; rfl) z11b ztob (fun j hj => by omega) (fun j hj => by omega) (fun x a b c d e => by rw [zk x a b c d, hm0, zup_ne (Or.inr e), zup_ne (Or.inr a)]) (fun x a b c => by rw [zx x a, hm0, zup_row a, zup_row a]) (by omega)
