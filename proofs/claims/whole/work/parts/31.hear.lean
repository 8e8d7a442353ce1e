/-! THE NIGHT: what is heard in a slot -/
/-- of two noises the louder, of like ones the first -/
def zhr (p : Int × Int) (v w : Int) : Int × Int := if p.1 < v then (v, w) else p
theorem zhr_0 {p : Int × Int} {v w : Int} (h : v ≤ p.1) : zhr p v w = p := if_neg (by omega)
theorem zhr_1 {p : Int × Int} {v w : Int} (h : p.1 < v) : zhr p v w = (v, w) := if_pos h
theorem zhr_n {p : Int × Int} {v w : Int} : p.1 ≤ (zhr p v w).1 := by
  by_cases h : p.1 < v
  · rw [zhr_1 h]; exact Int.le_of_lt h
  · rw [zhr_0 (by omega)]; exact Int.le_refl _
def zfo (x y : Int → Int) : Nat → Int × Int → Int × Int
  | 0, p => p
  | n + 1, p => zhr (zfo x y n p) (x (n : Int)) (y (n : Int))
theorem zfo_0 {x y : Int → Int} {p : Int × Int} : zfo x y 0 p = p := rfl
theorem zfo_s {x y : Int → Int} {n : Nat} {p : Int × Int} : zfo x y (n + 1) p = zhr (zfo x y n p) (x (n : Int)) (y (n : Int)) := rfl
theorem zfo_n {x y : Int → Int} {p : Int × Int} : ∀ {n : Nat}, p.1 ≤ (zfo x y n p).1
  | 0 => Int.le_refl _
  | n + 1 => Int.le_trans (zfo_n (n := n)) zhr_n
theorem zfo_z {x y : Int → Int} {p : Int × Int} (hp : 0 ≤ p.1) : ∀ {n : Nat}, (∀ i : Nat, i < n → x (i : Int) ≤ 0) → zfo x y n p = p
  | 0, _ => rfl
  | n + 1, h => by
    rw [zfo_s, zfo_z hp (n := n) (fun i hi => h i (by omega))]
    exact zhr_0 (by have := h n (by omega); omega)
theorem zfo_c {x y x2 y2 : Int → Int} {p : Int × Int} : ∀ {n : Nat}, (∀ i : Nat, i < n → x (i : Int) = x2 (i : Int) ∧ y (i : Int) = y2 (i : Int)) → zfo x y n p = zfo x2 y2 n p
  | 0, _ => rfl
  | n + 1, h => by rw [zfo_s, zfo_s, zfo_c (n := n) (fun i hi => h i (by omega)), (h n (by omega)).1, (h n (by omega)).2]
/-- who comes or goes in a slot -/
def zWa (V : zM) (t s : Int) : Prop := V 9 s ≠ -1 ∧ (V 6 s = t ∨ V 7 s = t)
/-- heard by i, cover aside: the steps of s; the k-th sound; the snores of s -/
noncomputable def zx1 (V : zM) (t i s : Int) : Int := zif (zWa V t s ∧ s ≠ i) (zif (V 6 s = t) (zWc V (V 9 i) (V 3 2) (V 2 (V 9 s))) (zWc V (V 9 i) (V 2 (V 9 s)) (V 3 2))) 0
noncomputable def zx2 (V : zM) (t : Int) (S : zM) (i k : Int) : Int := zif (zDu V k t) (zif (V 10 k = 0) (zHs V (V 9 i) (V 11 k) (V 14 k)) (zif (V 11 k ≠ i ∧ V 9 (V 11 k) ≠ -1 ∧ (V 10 k = 2 → S 0 (V 11 k) = 1)) (zHs V (V 9 i) (V 2 (V 9 (V 11 k))) (V 14 k)) 0)) 0
noncomputable def zy2 (V : zM) (k : Int) : Int := zif (V 10 k = 0) (10 + k) (V 11 k)
/-- who snores so deep that it is heard -/
def zSn (S : zM) (t s : Int) : Prop := S 0 s = 2 ∧ 2 ≤ zDp (t - S 1 s)
noncomputable def zx3 (V : zM) (t : Int) (S : zM) (i s : Int) : Int := zif (zSn S t s ∧ s ≠ i) (zHs V (V 9 i) (V 2 (V 9 s)) (V 8 s)) 0
noncomputable def zL1 (V : zM) (t i : Int) (p : Int × Int) : Int × Int := zfo (zx1 V t i) (fun s => s) (V 3 3).toNat p
noncomputable def zL2 (V : zM) (t : Int) (S : zM) (i : Int) (p : Int × Int) : Int × Int := zfo (zx2 V t S i) (zy2 V) (V 3 4).toNat p
noncomputable def zL3 (V : zM) (t : Int) (S : zM) (i : Int) (p : Int × Int) : Int × Int := zfo (zx3 V t S i) (fun s => s) (V 3 3).toNat p
/-- the loudest that i hears in a slot, and by whom -/
noncomputable def zLd (V : zM) (t : Int) (S : zM) (i : Int) : Int × Int := zL3 V t S i (zL2 V t S i (zL1 V t i (0, -1)))
def zhm (μ : zM) (n : Nat) (p : Int × Int) : zM := zup (zup μ n 13 p.1) n 14 p.2
theorem zhm_13 {μ : zM} {n : Nat} {p : Int × Int} : zhm μ n p n 13 = p.1 := by unfold zhm; rw [zup_ne (Or.inr (by decide)), zup_eq]
theorem zhm_14 {μ : zM} {n : Nat} {p : Int × Int} : zhm μ n p n 14 = p.2 := by unfold zhm; rw [zup_eq]
theorem zhm_row {μ : zM} {n a : Nat} {p : Int × Int} (h : a ≠ n) : zhm μ n p a = μ a := by unfold zhm; rw [zup_row h, zup_row h]
theorem zhm_k {μ : zM} {n : Nat} {p : Int × Int} {k : Int} (h : k ≠ 13) (h2 : k ≠ 14) : zhm μ n p n k = μ n k := by unfold zhm; rw [zup_ne (Or.inr h2), zup_ne (Or.inr h)]
theorem zhm_2 {μ : zM} {n : Nat} {p q : Int × Int} : zhm (zhm μ n p) n q = zhm μ n q := by
  funext a j
  by_cases h : a = n
  · subst h
    by_cases h3 : j = 13
    · rw [h3, zhm_13, zhm_13]
    · by_cases h4 : j = 14
      · rw [h4, zhm_14, zhm_14]
      · rw [zhm_k h3 h4, zhm_k h3 h4, zhm_k h3 h4]
  · rw [zhm_row h, zhm_row h, zhm_row h]
theorem zhm_s {μ : zM} {n : Nat} : zhm μ n (μ n 13, μ n 14) = μ := by
  funext a j
  by_cases h : a = n
  · subst h
    by_cases h3 : j = 13
    · rw [h3, zhm_13]
    · by_cases h4 : j = 14
      · rw [h4, zhm_14]
      · rw [zhm_k h3 h4]
  · rw [zhm_row h]
/-- a night that is told of a house -/
def zNp (V : zM) (fan : Int) (μ : zM) (n h : Nat) : Prop := μ n 8 = ((h + 5 : Nat) : Int) ∧ μ n 9 = ((h + 12 : Nat) : Int) ∧ zHV μ h = V ∧ zEr V fan μ (n + 15)
set_option maxRecDepth 100000 in
set_option maxHeartbeats 4000000 in
theorem k_X4_hear {l : Launch} {E : zE} {n : Nat} {μ : zM} {v w : Int} (hn : zAt zp4 n) : Ct l E yX4_hear cX4_hear 3 none ({ frames := 0, cells := 0, slots := 0, locals := 0 }) [zR n, zI v, zI w] μ (fun r ν => r = none ∧ ν = zhm μ n (zhr (μ n 13, μ n 14) v w)) := by
  refine Ct.of RX4 [zR n, zI v, zI w] (by decide +kernel) rfl ⟨rfl, rfl⟩ rfl (Nat.le_of_ble_eq_true rfl) (fun X hX hc0 ha0 => ?_)
  subst hX
  refine z_iload_1 dX4_hear_0 ?_
  refine z_aload_0 dX4_hear_1 ?_
  refine z_getI 13 rfl f_X4_103 (hn.at 0 rfl) rfl dX4_hear_2 ?_
  refine z_icmple (tgt := 18) dX4_hear_5 (by decide) (fun h_5 => ?_) (fun h_5 => ?_)
  · exact z_vret dX4_hear_18 (by first | (rw [zhr_1 (by assumption)]; exact ⟨rfl, rfl⟩) | (rw [zhr_0 (by assumption), zhm_s]; exact ⟨rfl, rfl⟩))
  · refine z_aload_0 dX4_hear_8 ?_
    refine z_iload_1 dX4_hear_9 ?_
    refine z_putI 13 rfl f_X4_103 p_4_13 (hn.at 0 rfl) rfl rfl dX4_hear_10 ?_
    refine z_aload_0 dX4_hear_13 ?_
    refine z_iload_2 dX4_hear_14 ?_
    refine z_putI 14 rfl f_X4_117 p_4_14 (hn.at 0 rfl) rfl rfl dX4_hear_15 ?_
    exact z_vret dX4_hear_18 (by first | (rw [zhr_1 (by assumption)]; exact ⟨rfl, rfl⟩) | (rw [zhr_0 (by assumption), zhm_s]; exact ⟨rfl, rfl⟩))
