/-! THE NIGHT, PURE: kinds of a state S: 0 how, 1 since, 2 hush, 3 slept, 4 wakings, 10 who was woken (40 s + k), 11 what was seen (40 s + t) -/
noncomputable def zZc (V : zM) (t : Int) (S : zM) : zM := fun k s => match k with
  | 0 => zif (V 9 s ≠ -1 ∧ V 6 s = t) 1 (zif (V 9 s ≠ -1 ∧ V 7 s = t) 0 (S 0 s))
  | 2 => zif (V 9 s ≠ -1 ∧ V 6 s = t) 0 (S 2 s)
  | k => S k s
noncomputable def zZn (V : zM) (fan t : Int) (S : zM) (i : Int) : Int := max 0 ((zLd V t S i).1 - (fan + zCv V t))
def zZw (V : zM) (fan t : Int) (S : zM) (i : Int) : Prop := S 0 i = 2 ∧ V 4 i + 4 * zDp (t - S 1 i) ≤ zZn V fan t S i
def zZf (V : zM) (fan t : Int) (S : zM) (i : Int) : Prop := S 0 i = 1 ∧ zZn V fan t S i < V 4 i ∧ V 5 i ≤ S 2 i + 1
noncomputable def zZh (V : zM) (fan t : Int) (S : zM) (i : Int) : Int := zif (zZw V fan t S i) 1 (zif (zZf V fan t S i) 2 (S 0 i))
noncomputable def zZs (V : zM) (fan t : Int) (S : zM) (i : Int) : Int := zif (zZf V fan t S i) t (S 1 i)
noncomputable def zZl (V : zM) (fan t : Int) (S : zM) : zM := fun k x => match k with
  | 0 => zZh V fan t S x
  | 1 => zZs V fan t S x
  | 2 => zif (zZw V fan t S x) 0 (zif (S 0 x = 1) (zif (zZn V fan t S x < V 4 x) (S 2 x + 1) 0) (S 2 x))
  | 3 => S 3 x + zif (zZh V fan t S x = 2) 1 0
  | 4 => S 4 x + zif (zZw V fan t S x) 1 0
  | 10 => zif (zZw V fan t S (x / 40) ∧ x % 40 = S 4 (x / 40)) (100 * t + (zLd V t S (x / 40)).2) (S 10 x)
  | 11 => zif (x % 40 = t) (zif (zZh V fan t S (x / 40) = 2) (2 + zDp (t - zZs V fan t S (x / 40))) (zZh V fan t S (x / 40))) (S 11 x)
  | k => S k x
noncomputable def zZt (V : zM) (fan : Int) : Nat → zM
  | 0 => fun _ _ => 0
  | n + 1 => zZl V fan (n : Int) (zZc V (n : Int) (zZt V fan n))
theorem zZt_s {V : zM} {fan : Int} {n : Nat} : zZt V fan (n + 1) = zZl V fan (n : Int) (zZc V (n : Int) (zZt V fan n)) := rfl
/-- one sleeper's state is a sane one before slot t -/
def zZi (V : zM) (t : Int) (S : zM) (s : Int) : Prop := (S 0 s = 0 ∨ S 0 s = 1 ∨ S 0 s = 2) ∧ (S 0 s ≠ 0 → V 9 s ≠ -1) ∧ (S 0 s = 1 → 0 ≤ S 2 s ∧ S 2 s < V 5 s) ∧ (S 0 s = 2 → 0 ≤ S 1 s ∧ S 1 s ≤ t) ∧ (0 ≤ S 3 s ∧ S 3 s ≤ t) ∧ (0 ≤ S 4 s ∧ S 4 s ≤ t)
theorem zZc_0 {V : zM} {t : Int} {S : zM} {s : Int} : zZc V t S 0 s = zif (V 9 s ≠ -1 ∧ V 6 s = t) 1 (zif (V 9 s ≠ -1 ∧ V 7 s = t) 0 (S 0 s)) := rfl
theorem zZc_1 {V : zM} {t : Int} {S : zM} {s : Int} : zZc V t S 1 s = S 1 s := rfl
theorem zZc_2 {V : zM} {t : Int} {S : zM} {s : Int} : zZc V t S 2 s = zif (V 9 s ≠ -1 ∧ V 6 s = t) 0 (S 2 s) := rfl
theorem zZc_3 {V : zM} {t : Int} {S : zM} {s : Int} : zZc V t S 3 s = S 3 s := rfl
theorem zZc_4 {V : zM} {t : Int} {S : zM} {s : Int} : zZc V t S 4 s = S 4 s := rfl
theorem zZc_10 {V : zM} {t : Int} {S : zM} {s : Int} : zZc V t S 10 s = S 10 s := rfl
theorem zZc_11 {V : zM} {t : Int} {S : zM} {s : Int} : zZc V t S 11 s = S 11 s := rfl
theorem zZc_i {V : zM} {t : Int} {S : zM} {s : Int} (h : zZi V t S s) (ha : 1 ≤ V 5 s) : zZi V t (zZc V t S) s := by
  unfold zZi at *
  rw [zZc_0, zZc_1, zZc_2, zZc_3, zZc_4]
  by_cases g : V 9 s ≠ -1 ∧ V 6 s = t
  · rw [zif_t g, zif_t g]
    exact ⟨Or.inr (Or.inl rfl), fun _ => g.1, fun _ => ⟨by decide, by omega⟩, fun q => absurd q (by decide), h.2.2.2.2⟩
  · rw [zif_f g, zif_f g]
    by_cases u : V 9 s ≠ -1 ∧ V 7 s = t
    · rw [zif_t u]
      exact ⟨Or.inl rfl, fun q => absurd rfl q, fun q => absurd q (by decide), fun q => absurd q (by decide), h.2.2.2.2⟩
    · rw [zif_f u]; exact h
theorem zZl_i {V : zM} {fan t : Int} {S : zM} {s : Int} (h : zZi V t S s) (t0 : 0 ≤ t) (ha : 1 ≤ V 5 s) : zZi V (t + 1) (zZl V fan t S) s := by
  have e0 : zZl V fan t S 0 s = zZh V fan t S s := rfl
  have e1 : zZl V fan t S 1 s = zZs V fan t S s := rfl
  have e2 : zZl V fan t S 2 s = zif (zZw V fan t S s) 0 (zif (S 0 s = 1) (zif (zZn V fan t S s < V 4 s) (S 2 s + 1) 0) (S 2 s)) := rfl
  have e3 : zZl V fan t S 3 s = S 3 s + zif (zZh V fan t S s = 2) 1 0 := rfl
  have e4 : zZl V fan t S 4 s = S 4 s + zif (zZw V fan t S s) 1 0 := rfl
  unfold zZi at *
  rw [e0, e1, e2, e3, e4]
  obtain ⟨h0, h1, h2, h3, h4, h5⟩ := h
  have b1 : (0 : Int) ≤ zif (zZh V fan t S s = 2) 1 0 ∧ (zif (zZh V fan t S s = 2) 1 0 : Int) ≤ 1 := by
    by_cases q : zZh V fan t S s = 2
    · rw [zif_t q]; decide
    · rw [zif_f q]; decide
  have b2 : (0 : Int) ≤ zif (zZw V fan t S s) 1 0 ∧ (zif (zZw V fan t S s) 1 0 : Int) ≤ 1 := by
    by_cases q : zZw V fan t S s
    · rw [zif_t q]; decide
    · rw [zif_f q]; decide
  refine ⟨?_, ?_, ?_, ?_, by omega, by omega⟩
  · unfold zZh
    by_cases w : zZw V fan t S s
    · rw [zif_t w]; exact Or.inr (Or.inl rfl)
    · rw [zif_f w]
      by_cases f : zZf V fan t S s
      · rw [zif_t f]; exact Or.inr (Or.inr rfl)
      · rw [zif_f f]; exact h0
  · unfold zZh
    by_cases w : zZw V fan t S s
    · exact fun _ => h1 (by rw [w.1]; decide)
    · rw [zif_f w]
      by_cases f : zZf V fan t S s
      · exact fun _ => h1 (by rw [f.1]; decide)
      · rw [zif_f f]; exact h1
  · unfold zZh
    by_cases w : zZw V fan t S s
    · rw [zif_t w, zif_t w]; exact fun _ => ⟨by decide, by omega⟩
    · rw [zif_f w, zif_f w]
      by_cases f : zZf V fan t S s
      · rw [zif_t f]; exact fun q => absurd q (by decide)
      · rw [zif_f f]
        intro q
        have := h2 q
        rw [zif_t q]
        by_cases n : zZn V fan t S s < V 4 s
        · rw [zif_t n]
          have : ¬ V 5 s ≤ S 2 s + 1 := fun z => f ⟨q, n, z⟩
          omega
        · rw [zif_f n]; omega
  · unfold zZh zZs
    by_cases w : zZw V fan t S s
    · rw [zif_t w]; exact fun q => absurd q (by decide)
    · rw [zif_f w]
      by_cases f : zZf V fan t S s
      · rw [zif_t f, zif_t f]; exact fun _ => ⟨t0, by omega⟩
      · rw [zif_f f, zif_f f]; intro q; have := h3 q; omega
theorem zZt_i {V : zM} {fan : Int} {s : Int} (ha : 1 ≤ V 5 s) : ∀ n : Nat, zZi V (n : Int) (zZt V fan n) s
  | 0 => ⟨Or.inl rfl, fun q => absurd rfl q, fun q => absurd q (by show ¬ ((0 : Int) = 1); decide), fun q => absurd q (by show ¬ ((0 : Int) = 2); decide), ⟨Int.le_refl _, Int.le_refl _⟩, ⟨Int.le_refl _, Int.le_refl _⟩⟩
  | n + 1 => by
    rw [zZt_s]
    exact zZl_i (zZc_i (zZt_i ha n) ha) (by omega) ha
/-- of what is heard, the maker is one of 0 to 17 -/
theorem zhr_w {p : Int × Int} {v w : Int} (h : 0 < p.1 → 0 ≤ p.2 ∧ p.2 ≤ 17) (hw : 0 ≤ w ∧ w ≤ 17) : 0 < (zhr p v w).1 → 0 ≤ (zhr p v w).2 ∧ (zhr p v w).2 ≤ 17 := by
  by_cases q : p.1 < v
  · rw [zhr_1 q]; exact fun _ => hw
  · rw [zhr_0 (by omega)]; exact h
theorem zfo_w {x y : Int → Int} {p : Int × Int} : ∀ {n : Nat}, (0 < p.1 → 0 ≤ p.2 ∧ p.2 ≤ 17) → (∀ i : Nat, i < n → 0 < x (i : Int) → 0 ≤ y (i : Int) ∧ y (i : Int) ≤ 17) → 0 ≤ p.1 → 0 < (zfo x y n p).1 → 0 ≤ (zfo x y n p).2 ∧ (zfo x y n p).2 ≤ 17
  | 0, h, _, _ => h
  | n + 1, h, hy, h0 => by
    have h1 := zfo_w (x := x) (y := y) (n := n) h (fun i hi => hy i (by omega)) h0
    have h2 := zfo_n (x := x) (y := y) (p := p) (n := n)
    rw [zfo_s]
    by_cases q : 0 < x (n : Int)
    · exact zhr_w h1 (hy n (by omega) q)
    · rw [zhr_0 (by omega)]; exact h1
theorem zLd_n {V : zM} {t : Int} {S : zM} {i : Int} : 0 ≤ (zLd V t S i).1 := by
  unfold zLd zL1 zL2 zL3
  exact Int.le_trans (Int.le_trans (Int.le_trans (show (0 : Int) ≤ ((0, -1) : Int × Int).1 by decide) zfo_n) zfo_n) zfo_n
theorem zLd_w {V : zM} {t : Int} {S : zM} {i : Int} (ok : zOK V) : 0 < (zLd V t S i).1 → 0 ≤ (zLd V t S i).2 ∧ (zLd V t S i).2 ≤ 17 := by
  have n1 : 0 ≤ (zL1 V t i (0, -1)).1 := Int.le_trans (show (0 : Int) ≤ ((0, -1) : Int × Int).1 by decide) zfo_n
  have n2 : 0 ≤ (zL2 V t S i (zL1 V t i (0, -1))).1 := Int.le_trans n1 zfo_n
  have c3 := ok.2.1.1
  have c4 := ok.2.2.1.1
  have y2 : ∀ k : Nat, k < (V 3 4).toNat → 0 < zx2 V t S i (k : Int) → 0 ≤ zy2 V (k : Int) ∧ zy2 V (k : Int) ≤ 17 := fun k hk q => by
    have so := ok.2.2.1.2 (k : Int) (by omega) (by omega)
    unfold zy2
    by_cases z : V 10 (k : Int) = 0
    · rw [zif_t z]; omega
    · rw [zif_f z]
      unfold zx2 at q
      by_cases d : zDu V (k : Int) t
      · have d5 := d.2.2.2.2
        have := so.2.2.1 (by omega) (by omega)
        omega
      · rw [zif_f d] at q; exact absurd q (by decide)
  unfold zLd
  refine zfo_w ?_ (fun k hk _ => by show 0 ≤ (k : Int) ∧ (k : Int) ≤ 17; omega) n2
  refine zfo_w ?_ y2 n1
  exact zfo_w (fun q => absurd q (by decide)) (fun k hk _ => by show 0 ≤ (k : Int) ∧ (k : Int) ≤ 17; omega) (by decide)
/-- the worst and the good of a night -/
def zmn (f : Int → Int) : Nat → Int
  | 0 => 40
  | n + 1 => min (zmn f n) (f (n : Int))
def zWo (n : Int) (f : Int → Int) : Int := if n = 0 then 0 else zmn f n.toNat
def zGo (n : Int) (f : Int → Int) : Int := zsum f n.toNat
/-- frames of what the ears hold, of a night told of a house -/
theorem zEr_fr {V μ ν : zM} {fan : Int} {e : Nat} (h : zEr V fan μ e) (ok : zOK V) (f : ∀ a, e + 4 ≤ a → a < e + 43 → ν a = μ a) : zEr V fan ν e := by
  have c0 := ok.1.2.1
  have c4 := ok.2.2.1.1
  refine ⟨zEa_fr h.1 c0.2 (fun a a0 a1 => f a (by omega) (by omega)) (fun a a0 a1 => f a (by omega) (by omega)), zEb_fr h.2.1 c0.2 (fun a a0 a1 => f a (by omega) (by omega)) (fun a a0 a1 => f a (by omega) (by omega)), ?_, ?_, ?_⟩
  · intro t t0 t1
    rw [f (e + 34) (by omega) (by omega)]; exact h.2.2.1 t t0 t1
  · intro t t0 t1
    rw [f (e + 35) (by omega) (by omega)]; exact h.2.2.2.1 t t0 t1
  · intro i hi k l l0 l1
    rw [f (e + 26 + i) (by omega) (by omega)]; exact h.2.2.2.2 i hi k l l0 l1
theorem zNp_fr {V μ ν : zM} {fan : Int} {n h : Nat} (np : zNp V fan μ n h) (ok : zOK V) (hd : h + 22 ≤ n ∨ n + 78 ≤ h) (f8 : ν n 8 = μ n 8) (f9 : ν n 9 = μ n 9) (f : ∀ a, (a < n ∨ (n + 15 ≤ a ∧ a < n + 62) ∨ n + 78 ≤ a) → ν a = μ a) : zNp V fan ν n h := by
  refine ⟨f8.trans np.1, f9.trans np.2.1, ?_, zEr_fr np.2.2.2 ok (fun a a0 a1 => f a (by omega))⟩
  rw [← np.2.2.1]
  exact zHV_fr (a := n) (n := 78) (fun a ha => f a (by omega)) (by omega)
theorem zNp_h {V μ : zM} {fan : Int} {n h : Nat} {p : Int × Int} (np : zNp V fan μ n h) (ok : zOK V) (hd : h + 22 ≤ n ∨ n + 78 ≤ h) : zNp V fan (zhm μ n p) n h := zNp_fr np ok hd (zhm_k (by decide) (by decide)) (zhm_k (by decide) (by decide)) (fun a ha => zhm_row (by omega))
/-- one sleeper's rows in the class's night -/
def zZ1 (μ : zM) (n : Nat) (S : zM) (s : Int) : Prop := μ (n + 62) s = S 0 s ∧ μ (n + 1) s = S 3 s ∧ μ (n + 2) s = S 4 s ∧ (S 0 s = 2 → μ (n + 63) s = S 1 s) ∧ (S 0 s = 1 → μ (n + 64) s = S 2 s) ∧ ∀ k, 0 ≤ k → k < S 4 s → μ (n + 4 + s.toNat) k = S 10 (40 * s + k)
def zZd (μ : zM) (n : Nat) (S : zM) (s t : Int) : Prop := ∀ k, 0 ≤ k → k < t → μ (n + 10 + s.toNat) k = S 11 (40 * s + k)
set_option maxRecDepth 100000 in
set_option maxHeartbeats 4000000 in
theorem k_X4_listen {l : Launch} {E : zE} {S : zM} {n h : Nat} {μ : zM} {V : zM} {fan : Int} (hn : zAt zp4 n) (hh : zAt zp2 h) (hd : h + 22 ≤ n ∨ n + 78 ≤ h) (ok : zOK V) (np : zNp V fan μ n h) {i t : Int} (i0 : 0 ≤ i) (i1 : i < V 3 3) (ib : V 9 i ≠ -1) (t0 : 0 ≤ t) (t1 : t < 40) (hwa : zBt (μ n 10) (V 3 3).toNat (zWa V t)) (haw : zBt (μ n 11) (V 3 3).toNat (fun s => S 0 s = 1)) (hsn : zBt (μ n 12) (V 3 3).toNat (zSn S t)) (lie : ∀ s, 0 ≤ s → s < V 3 3 → zSn S t s → V 9 s ≠ -1) : Ct l E yX4_listen cX4_listen 5 none ({ frames := 2, cells := 0, slots := 0, locals := 48 }) [zR n, zI i, zI t] μ (fun r ν => r = none ∧ ν = zhm μ n (zLd V t S i)) := by
  refine Ct.of RX4 [zR n, zI i, zI t, zU, zU] (by decide +kernel) rfl ⟨rfl, rfl⟩ rfl (Nat.le_of_ble_eq_true rfl) (fun X hX hc0 ha0 => ?_)
  subst hX
  obtain ⟨j, rfl⟩ := Int.eq_ofNat_of_zero_le i0
  have np0 := np
  obtain ⟨h8, h9, rfl, hE⟩ := np
  obtain ⟨nb, nf, nd, npp, ns, nr⟩ := zOK_n ok
  have pc3 : zHV μ h 3 3 = μ (h + 5) 6 := rfl
  have e9 : μ (h + 11) (j : Int) = zHV μ h 9 j := (zHV_9 i0 i1).symm
  have hN : h < 420 := zl_lt (hh.at 0 rfl) (by decide)
  have nN : n < 420 := zl_lt (hn.at 0 rfl) (by decide)
  have hdu : zBt (μ (n + 50) t) (zHV μ h 3 4).toNat (fun j => zDu (zHV μ h) j t) := hE.2.2.2.1 t t0 t1
  have J77 : ∀ ξ, ξ = zhm μ n (zL2 (zHV μ h) t S (j : Int) (zL1 (zHV μ h) t (j : Int) (0, -1))) → MW X E cX4_listen RX4 ({ frames := 2, cells := 0, slots := 0, locals := 48 }) none (fun r ν => r = none ∧ ν = zhm μ n (zLd (zHV μ h) t S (j : Int))) 77 [zR n, zI (j : Int), zI t, zI (zHV μ h 9 j), zI (zxor (zshl 1 (j : Int)) (-1))] [] ξ := by
    intro ξ hξ
    have np1 : zNp (zHV μ h) fan ξ n h := by rw [hξ]; exact zNp_h np0 ok hd
    have h8 := np1.1
    have hk : ∀ k, k ≠ 13 → k ≠ 14 → ξ n k = μ n k := fun k k1 k2 => by rw [hξ]; exact zhm_k k1 k2
    have hrow : ∀ a, a ≠ n → ξ a = μ a := fun a ha => by rw [hξ]; exact zhm_row ha
    have hp : (ξ n 13, ξ n 14) = zL2 (zHV μ h) t S (j : Int) (zL1 (zHV μ h) t (j : Int) (0, -1)) := by rw [hξ, zhm_13, zhm_14]
    have h13 : 0 ≤ ξ n 13 := by rw [hξ, zhm_13]; exact (Int.le_trans (Int.le_trans (show (0 : Int) ≤ ((0, -1) : Int × Int).1 by decide) zfo_n) zfo_n)
    refine z_aload_0 dX4_listen_77 ?_
    refine z_getI 12 rfl f_X4_96 (hn.at 0 rfl) rfl dX4_listen_78 ?_
    rw [hk 12 (by decide) (by decide)]
    refine z_iload_4 dX4_listen_81 ?_
    refine z_iand dX4_listen_83 ?_
    refine z_ifeq (tgt := 99) dX4_listen_84 (by decide) (fun h_84 => ?_) (fun h_84 => ?_)
    · exact z_vret dX4_listen_99 (⟨rfl, by rw [hξ]; unfold zLd; rw [show zL3 (zHV μ h) t S (j : Int) (zL2 (zHV μ h) t S (j : Int) (zL1 (zHV μ h) t (j : Int) (0, -1))) = zL2 (zHV μ h) t S (j : Int) (zL1 (zHV μ h) t (j : Int) (0, -1)) from zfo_z (Int.le_trans (Int.le_trans (show (0 : Int) ≤ ((0, -1) : Int × Int).1 by decide) zfo_n) zfo_n) (fun s hs => Int.le_of_eq (zif_f (fun q => zBt_z (by rw [← h_84]; exact zBt_x hsn (by omega) (by omega)) hs q)))]⟩)
    · refine z_aload_0 dX4_listen_87 ?_
      refine z_iload_3 dX4_listen_88 ?_
      refine z_aload_0 dX4_listen_89 ?_
      refine z_getI 12 rfl f_X4_96 (hn.at 0 rfl) rfl dX4_listen_90 ?_
      rw [hk 12 (by decide) (by decide)]
      refine z_iload_4 dX4_listen_93 ?_
      refine z_iand dX4_listen_95 ?_
      refine z_callV2 (k_X4_listenToSnores hn hh hd ok np1 i0 i1 ib (zBt_x hsn (by omega) (by omega)) lie h13) m_X4_listenToSnores (hn.at 0 rfl) l_X4_133 (Nat.le_of_ble_eq_true rfl) ⟨Nat.le_of_ble_eq_true rfl, Nat.le_of_ble_eq_true rfl⟩ ⟨rfl, rfl⟩ dX4_listen_96 (fun r μ1 hp2 => ?_)
      obtain ⟨rfl, hv⟩ := hp2
      exact z_vret dX4_listen_99 (⟨rfl, by rw [hv, hp, hξ, zhm_2]; rfl⟩)
  have J50 : ∀ ξ, ξ = zhm μ n (zL1 (zHV μ h) t (j : Int) (0, -1)) → MW X E cX4_listen RX4 ({ frames := 2, cells := 0, slots := 0, locals := 48 }) none (fun r ν => r = none ∧ ν = zhm μ n (zLd (zHV μ h) t S (j : Int))) 50 [zR n, zI (j : Int), zI t, zI (zHV μ h 9 j), zI (zxor (zshl 1 (j : Int)) (-1))] [] ξ := by
    intro ξ hξ
    have np1 : zNp (zHV μ h) fan ξ n h := by rw [hξ]; exact zNp_h np0 ok hd
    have h8 := np1.1
    have hk : ∀ k, k ≠ 13 → k ≠ 14 → ξ n k = μ n k := fun k k1 k2 => by rw [hξ]; exact zhm_k k1 k2
    have hrow : ∀ a, a ≠ n → ξ a = μ a := fun a ha => by rw [hξ]; exact zhm_row ha
    have hp : (ξ n 13, ξ n 14) = zL1 (zHV μ h) t (j : Int) (0, -1) := by rw [hξ, zhm_13, zhm_14]
    have h13 : 0 ≤ ξ n 13 := by rw [hξ, zhm_13]; exact (Int.le_trans (show (0 : Int) ≤ ((0, -1) : Int × Int).1 by decide) zfo_n)
    have haw1 : zBt (ξ n 11) (zHV μ h 3 3).toNat (fun s => S 0 s = 1) := by rw [hk 11 (by decide) (by decide)]; exact haw
    refine z_aload_0 dX4_listen_50 ?_
    refine z_getF (n + 15) 15 rfl f_X4_29 (hn.at 0 rfl) rfl rfl dX4_listen_51 ?_
    refine z_getF (n + 50) 35 rfl f_X4_127 (hn.at 15 rfl) rfl rfl dX4_listen_54 ?_
    refine z_iload_2 dX4_listen_57 ?_
    refine z_iald (hn.at 50 rfl) (by omega) (by omega) dX4_listen_58 ?_
    rw [hrow (n + 50) (by omega)]
    refine z_ifeq (tgt := 77) dX4_listen_59 (by decide) (fun h_59 => ?_) (fun h_59 => ?_)
    · exact J77 ξ (by rw [hξ, show zL2 (zHV μ h) t S (j : Int) (zL1 (zHV μ h) t (j : Int) (0, -1)) = zL1 (zHV μ h) t (j : Int) (0, -1) from zfo_z (Int.le_trans (show (0 : Int) ≤ ((0, -1) : Int × Int).1 by decide) zfo_n) (fun s hs => Int.le_of_eq (zif_f (zBt_z (by rw [← h_59]; exact hdu) hs)))])
    · refine z_aload_0 dX4_listen_62 ?_
      refine z_iload_1 dX4_listen_63 ?_
      refine z_iload_3 dX4_listen_64 ?_
      refine z_aload_0 dX4_listen_65 ?_
      refine z_getF (n + 15) 15 rfl f_X4_29 (hn.at 0 rfl) rfl rfl dX4_listen_66 ?_
      refine z_getF (n + 50) 35 rfl f_X4_127 (hn.at 15 rfl) rfl rfl dX4_listen_69 ?_
      refine z_iload_2 dX4_listen_72 ?_
      refine z_iald (hn.at 50 rfl) (by omega) (by omega) dX4_listen_73 ?_
      rw [hrow (n + 50) (by omega)]
      refine z_callV3 (k_X4_listenToSounds hn hh hd ok np1 i0 i1 ib hdu haw1 h13) m_X4_listenToSounds (hn.at 0 rfl) l_X4_130 (Nat.le_of_ble_eq_true rfl) ⟨Nat.le_of_ble_eq_true rfl, Nat.le_of_ble_eq_true rfl⟩ ⟨rfl, rfl⟩ dX4_listen_74 (fun r μ1 hp2 => ?_)
      obtain ⟨rfl, hv⟩ := hp2
      exact J77 μ1 (by rw [hv, hp, hξ, zhm_2])
  refine z_aload_0 dX4_listen_0 ?_
  refine z_iconst dX4_listen_1 (by decide) ?_
  refine z_putI 13 rfl f_X4_103 p_4_13 (hn.at 0 rfl) rfl rfl dX4_listen_2 ?_
  refine z_aload_0 dX4_listen_5 ?_
  refine z_iconst dX4_listen_6 (by decide) ?_
  refine z_putI 14 rfl f_X4_117 p_4_14 (hn.at 0 rfl) rfl rfl dX4_listen_7 ?_
  generalize hξ : zup (zup μ n 13 0) n 14 (-1) = ξ
  replace hξ : ξ = zhm μ n (0, -1) := hξ.symm
  have np1 : zNp (zHV μ h) fan ξ n h := by rw [hξ]; exact zNp_h np0 ok hd
  have h8 := np1.1
  have hk : ∀ k, k ≠ 13 → k ≠ 14 → ξ n k = μ n k := fun k k1 k2 => by rw [hξ]; exact zhm_k k1 k2
  have hrow : ∀ a, a ≠ n → ξ a = μ a := fun a ha => by rw [hξ]; exact zhm_row ha
  have hp : (ξ n 13, ξ n 14) = (0, -1) := by rw [hξ, zhm_13, zhm_14]
  have h13 : 0 ≤ ξ n 13 := by rw [hξ, zhm_13]; exact (by decide)
  refine z_aload_0 dX4_listen_10 ?_
  refine z_getM 8 rfl (h + 5) f_X4_45 (hn.at 0 rfl) rfl h8 dX4_listen_11 ?_
  refine z_getF (h + 11) 6 rfl f_X4_84 (hh.at 5 rfl) rfl rfl dX4_listen_14 ?_
  refine z_iload_1 dX4_listen_17 ?_
  refine z_iald (hh.at 11 rfl) (by omega) (by omega) dX4_listen_18 ?_
  rw [hrow (h + 11) (by omega), e9]
  refine z_istore_3 rfl dX4_listen_19 ?_
  refine z_iconst dX4_listen_20 (by decide) ?_
  refine z_iload_1 dX4_listen_21 ?_
  refine z_ishl dX4_listen_22 ?_
  refine z_iconst dX4_listen_23 (by decide) ?_
  refine z_ixor dX4_listen_24 ?_
  refine z_istore_4 rfl dX4_listen_25 ?_
  refine z_aload_0 dX4_listen_27 ?_
  refine z_getI 10 rfl f_X4_81 (hn.at 0 rfl) rfl dX4_listen_28 ?_
  refine z_iload_4 dX4_listen_31 ?_
  rw [hk 10 (by decide) (by decide)]
  refine z_iand dX4_listen_33 ?_
  refine z_ifeq (tgt := 50) dX4_listen_34 (by decide) (fun h_34 => ?_) (fun h_34 => ?_)
  · exact J50 ξ (by rw [hξ, show zL1 (zHV μ h) t (j : Int) (0, -1) = (0, -1) from zfo_z (by decide) (fun s hs => Int.le_of_eq (zif_f (fun q => zBt_z (by rw [← h_34]; exact zBt_x hwa (by omega) (by omega)) hs q)))])
  · refine z_aload_0 dX4_listen_37 ?_
    refine z_iload_3 dX4_listen_38 ?_
    refine z_aload_0 dX4_listen_39 ?_
    refine z_getI 10 rfl f_X4_81 (hn.at 0 rfl) rfl dX4_listen_40 ?_
    refine z_iload_4 dX4_listen_43 ?_
    rw [hk 10 (by decide) (by decide)]
    refine z_iand dX4_listen_45 ?_
    refine z_iload_2 dX4_listen_46 ?_
    refine z_callV3 (k_X4_listenToSteps hn hh hd ok np1 i0 i1 ib (zBt_x hwa (by omega) (by omega)) h13) m_X4_listenToSteps (hn.at 0 rfl) l_X4_123 (Nat.le_of_ble_eq_true rfl) ⟨Nat.le_of_ble_eq_true rfl, Nat.le_of_ble_eq_true rfl⟩ ⟨rfl, rfl⟩ dX4_listen_47 (fun r μ1 hp2 => ?_)
    obtain ⟨rfl, hv⟩ := hp2
    exact J50 μ1 (by rw [hv, hp, hξ, zhm_2])
