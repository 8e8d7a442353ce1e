/-- an object when it is new, and behind its constructor -/
def zBo (c : Nat) (k : Int) : Int := match c with
  | 0 => if k = 0 then -1 else if k = 1 then -1 else if k = 2 then -1 else if k = 3 then -1 else if k = 4 then -1 else if k = 5 then -1 else if k = 6 then -1 else if k = 7 then -1 else if k = 8 then -1 else if k = 9 then -1 else 0
  | 1 => if k = 0 then -1 else if k = 1 then -1 else if k = 2 then -1 else 0
  | 2 => if k = 0 then -1 else if k = 1 then -1 else if k = 2 then -1 else if k = 3 then -1 else 0
  | 3 => if k = 3 then -1 else if k = 4 then -1 else if k = 5 then -1 else if k = 6 then -1 else if k = 7 then -1 else 0
  | 4 => if k = 0 then -1 else if k = 1 then -1 else if k = 2 then -1 else if k = 3 then -1 else if k = 4 then -1 else if k = 5 then -1 else if k = 6 then -1 else if k = 7 then -1 else if k = 8 then -1 else if k = 9 then -1 else 0
  | 5 => if k = 0 then -1 else if k = 1 then -1 else if k = 2 then -1 else if k = 3 then -1 else if k = 4 then -1 else if k = 5 then -1 else 0
  | 6 => if k = 0 then -1 else 0
  | 7 => if k = 0 then -1 else if k = 1 then -1 else if k = 2 then -1 else 0
  | 8 => if k = 0 then -1 else if k = 4 then -1 else if k = 5 then -1 else if k = 6 then -1 else 0
  | 9 => if k = 0 then -1 else if k = 1 then -1 else if k = 2 then -1 else if k = 3 then -1 else if k = 4 then -1 else 0
  | 10 => if k = 2 then -1 else if k = 3 then -1 else if k = 4 then -1 else 0
  | 11 => if k = 0 then -1 else if k = 1 then -1 else if k = 2 then -1 else if k = 3 then -1 else if k = 4 then -1 else if k = 5 then -1 else if k = 6 then -1 else if k = 7 then -1 else if k = 8 then -1 else if k = 9 then -1 else if k = 10 then -1 else 0
  | 12 => if k = 0 then -1 else if k = 1 then -1 else if k = 2 then -1 else if k = 3 then -1 else if k = 4 then -1 else if k = 8 then -1 else if k = 14 then -1 else if k = 15 then -1 else if k = 17 then -1 else if k = 19 then -1 else if k = 20 then -1 else if k = 21 then -1 else if k = 22 then -1 else if k = 23 then -1 else if k = 24 then -1 else if k = 25 then -1 else if k = 26 then -1 else if k = 27 then -1 else if k = 28 then -1 else if k = 29 then -1 else if k = 30 then -1 else if k = 34 then -1 else if k = 35 then -1 else if k = 36 then -1 else if k = 37 then -1 else if k = 38 then -1 else 0
  | _ => 0
def zFo (c x : Nat) (k : Int) : Int := match c with
  | 0 => if k = 0 then ((x + 1 : Nat) : Int) else if k = 1 then ((x + 3 : Nat) : Int) else if k = 2 then ((x + 10 : Nat) : Int) else if k = 3 then ((x + 11 : Nat) : Int) else if k = 4 then ((x + 18 : Nat) : Int) else if k = 5 then ((x + 25 : Nat) : Int) else if k = 6 then ((x + 34 : Nat) : Int) else if k = 7 then ((x + 35 : Nat) : Int) else if k = 8 then ((x + 36 : Nat) : Int) else if k = 9 then ((x + 43 : Nat) : Int) else 0
  | 1 => if k = 0 then ((x + 1 : Nat) : Int) else if k = 1 then ((x + 2 : Nat) : Int) else if k = 2 then ((x + 3 : Nat) : Int) else if k = 4 then 2 else 0
  | 2 => if k = 0 then ((x + 1 : Nat) : Int) else if k = 1 then ((x + 5 : Nat) : Int) else if k = 2 then ((x + 12 : Nat) : Int) else if k = 3 then ((x + 18 : Nat) : Int) else 0
  | 3 => if k = 3 then ((x + 1 : Nat) : Int) else if k = 4 then ((x + 48 : Nat) : Int) else if k = 5 then ((x + 50 : Nat) : Int) else if k = 6 then ((x + 51 : Nat) : Int) else if k = 7 then ((x + 52 : Nat) : Int) else 0
  | 4 => if k = 0 then ((x + 1 : Nat) : Int) else if k = 1 then ((x + 2 : Nat) : Int) else if k = 2 then ((x + 3 : Nat) : Int) else if k = 3 then ((x + 9 : Nat) : Int) else if k = 4 then ((x + 15 : Nat) : Int) else if k = 5 then ((x + 62 : Nat) : Int) else if k = 6 then ((x + 63 : Nat) : Int) else if k = 7 then ((x + 64 : Nat) : Int) else if k = 8 then ((x + 65 : Nat) : Int) else if k = 9 then ((x + 72 : Nat) : Int) else 0
  | 5 => if k = 0 then ((x + 1 : Nat) : Int) else if k = 1 then ((x + 2 : Nat) : Int) else if k = 2 then ((x + 3 : Nat) : Int) else if k = 3 then ((x + 4 : Nat) : Int) else if k = 4 then ((x + 5 : Nat) : Int) else if k = 5 then ((x + 6 : Nat) : Int) else 0
  | 6 => if k = 0 then ((x + 1 : Nat) : Int) else 0
  | 7 => if k = 0 then ((x + 1 : Nat) : Int) else if k = 1 then ((x + 2 : Nat) : Int) else if k = 2 then ((x + 3 : Nat) : Int) else 0
  | 8 => if k = 0 then ((x + 1 : Nat) : Int) else if k = 4 then ((x + 2 : Nat) : Int) else if k = 5 then ((x + 3 : Nat) : Int) else if k = 6 then ((x + 25 : Nat) : Int) else 0
  | 9 => if k = 0 then ((x + 1 : Nat) : Int) else if k = 1 then ((x + 2 : Nat) : Int) else if k = 2 then ((x + 3 : Nat) : Int) else if k = 3 then ((x + 4 : Nat) : Int) else if k = 4 then ((x + 5 : Nat) : Int) else 0
  | 10 => if k = 2 then ((x + 1 : Nat) : Int) else if k = 3 then ((x + 2 : Nat) : Int) else if k = 4 then ((x + 63 : Nat) : Int) else 0
  | 11 => if k = 0 then ((x + 1 : Nat) : Int) else if k = 1 then ((x + 23 : Nat) : Int) else if k = 2 then ((x + 45 : Nat) : Int) else if k = 3 then ((x + 46 : Nat) : Int) else if k = 4 then ((x + 47 : Nat) : Int) else if k = 5 then ((x + 111 : Nat) : Int) else if k = 6 then ((x + 189 : Nat) : Int) else if k = 7 then ((x + 292 : Nat) : Int) else if k = 8 then ((x + 345 : Nat) : Int) else if k = 9 then ((x + 347 : Nat) : Int) else if k = 10 then ((x + 348 : Nat) : Int) else if k = 12 then 1 else 0
  | 12 => if k = 0 then ((x + 1 : Nat) : Int) else if k = 1 then ((x + 2 : Nat) : Int) else if k = 2 then ((x + 3 : Nat) : Int) else if k = 3 then ((x + 4 : Nat) : Int) else if k = 4 then ((x + 5 : Nat) : Int) else if k = 6 then 1 else if k = 8 then ((x + 6 : Nat) : Int) else if k = 14 then ((x + 7 : Nat) : Int) else if k = 15 then ((x + 8 : Nat) : Int) else if k = 17 then ((x + 9 : Nat) : Int) else if k = 19 then ((x + 10 : Nat) : Int) else if k = 20 then ((x + 11 : Nat) : Int) else if k = 21 then ((x + 12 : Nat) : Int) else if k = 22 then ((x + 13 : Nat) : Int) else if k = 23 then ((x + 14 : Nat) : Int) else if k = 24 then ((x + 15 : Nat) : Int) else if k = 25 then ((x + 16 : Nat) : Int) else if k = 26 then ((x + 17 : Nat) : Int) else if k = 27 then ((x + 18 : Nat) : Int) else if k = 28 then ((x + 19 : Nat) : Int) else if k = 29 then ((x + 20 : Nat) : Int) else if k = 30 then ((x + 21 : Nat) : Int) else if k = 34 then ((x + 22 : Nat) : Int) else if k = 35 then ((x + 23 : Nat) : Int) else if k = 36 then ((x + 24 : Nat) : Int) else if k = 37 then ((x + 25 : Nat) : Int) else if k = 38 then ((x + 26 : Nat) : Int) else 0
  | _ => 0
def zBl : zM := fun x k => if (zl x).1 < 13 then zBo (zl x).1 k else if (zl x).1 = 22 then (if k < 100000 then ((x + 1 + k.toNat : Nat) : Int) else 0) else if (zl x).1 = 23 then -1 else 0
def zFi : zM := fun x k => if (zl x).1 < 13 then zFo (zl x).1 x k else if (zl x).1 = 22 then (if k < 100000 then ((x + 1 + k.toNat : Nat) : Int) else 0) else if (zl x).1 = 23 then (if k = 0 then 349 else if k = 1 then 371 else -1) else 0
theorem zBl_o {x c m : Nat} (h : zl x = (c, m)) (hc : c < 13) : zBl x = zBo c := by funext k; unfold zBl; rw [h]; exact if_pos hc
theorem zFi_o {x c m : Nat} (h : zl x = (c, m)) (hc : c < 13) : zFi x = zFo c x := by funext k; unfold zFi; rw [h]; exact if_pos hc
theorem zBl_i {x m : Nat} (h : zl x = (20, m)) : zBl x = fun _ => 0 := by funext k; unfold zBl; rw [h]; rfl
theorem zBl_z {x m : Nat} (h : zl x = (21, m)) : zBl x = fun _ => 0 := by funext k; unfold zBl; rw [h]; rfl
theorem zFi_i {x m : Nat} (h : zl x = (20, m)) : zFi x = zBl x := by rw [zBl_i h]; funext k; unfold zFi; rw [h]; rfl
theorem zFi_z {x m : Nat} (h : zl x = (21, m)) : zFi x = zBl x := by rw [zBl_z h]; funext k; unfold zFi; rw [h]; rfl
theorem zFi_r {x m : Nat} (h : zl x = (22, m)) : zFi x = zBl x := by funext k; unfold zFi zBl; rw [h]; rfl
/-- behind the constructor at h, of size S -/
def zPi (h S : Nat) (μ : zM) : zM → Nat → Prop := fun μ1 n1 => n1 = h + S ∧ ∀ x, μ1 x = if h ≤ x ∧ x < h + S then zFi x else μ x
theorem zBo_0 {k : Int} : zBo 0 k = if k = 0 then -1 else if k = 1 then -1 else if k = 2 then -1 else if k = 3 then -1 else if k = 4 then -1 else if k = 5 then -1 else if k = 6 then -1 else if k = 7 then -1 else if k = 8 then -1 else if k = 9 then -1 else 0 := rfl
theorem zFo_0 {x : Nat} {k : Int} : zFo 0 x k = if k = 0 then ((x + 1 : Nat) : Int) else if k = 1 then ((x + 3 : Nat) : Int) else if k = 2 then ((x + 10 : Nat) : Int) else if k = 3 then ((x + 11 : Nat) : Int) else if k = 4 then ((x + 18 : Nat) : Int) else if k = 5 then ((x + 25 : Nat) : Int) else if k = 6 then ((x + 34 : Nat) : Int) else if k = 7 then ((x + 35 : Nat) : Int) else if k = 8 then ((x + 36 : Nat) : Int) else if k = 9 then ((x + 43 : Nat) : Int) else 0 := rfl
theorem zBo_1 {k : Int} : zBo 1 k = if k = 0 then -1 else if k = 1 then -1 else if k = 2 then -1 else 0 := rfl
theorem zFo_1 {x : Nat} {k : Int} : zFo 1 x k = if k = 0 then ((x + 1 : Nat) : Int) else if k = 1 then ((x + 2 : Nat) : Int) else if k = 2 then ((x + 3 : Nat) : Int) else if k = 4 then 2 else 0 := rfl
theorem zBo_2 {k : Int} : zBo 2 k = if k = 0 then -1 else if k = 1 then -1 else if k = 2 then -1 else if k = 3 then -1 else 0 := rfl
theorem zFo_2 {x : Nat} {k : Int} : zFo 2 x k = if k = 0 then ((x + 1 : Nat) : Int) else if k = 1 then ((x + 5 : Nat) : Int) else if k = 2 then ((x + 12 : Nat) : Int) else if k = 3 then ((x + 18 : Nat) : Int) else 0 := rfl
theorem zBo_3 {k : Int} : zBo 3 k = if k = 3 then -1 else if k = 4 then -1 else if k = 5 then -1 else if k = 6 then -1 else if k = 7 then -1 else 0 := rfl
theorem zFo_3 {x : Nat} {k : Int} : zFo 3 x k = if k = 3 then ((x + 1 : Nat) : Int) else if k = 4 then ((x + 48 : Nat) : Int) else if k = 5 then ((x + 50 : Nat) : Int) else if k = 6 then ((x + 51 : Nat) : Int) else if k = 7 then ((x + 52 : Nat) : Int) else 0 := rfl
theorem zBo_4 {k : Int} : zBo 4 k = if k = 0 then -1 else if k = 1 then -1 else if k = 2 then -1 else if k = 3 then -1 else if k = 4 then -1 else if k = 5 then -1 else if k = 6 then -1 else if k = 7 then -1 else if k = 8 then -1 else if k = 9 then -1 else 0 := rfl
theorem zFo_4 {x : Nat} {k : Int} : zFo 4 x k = if k = 0 then ((x + 1 : Nat) : Int) else if k = 1 then ((x + 2 : Nat) : Int) else if k = 2 then ((x + 3 : Nat) : Int) else if k = 3 then ((x + 9 : Nat) : Int) else if k = 4 then ((x + 15 : Nat) : Int) else if k = 5 then ((x + 62 : Nat) : Int) else if k = 6 then ((x + 63 : Nat) : Int) else if k = 7 then ((x + 64 : Nat) : Int) else if k = 8 then ((x + 65 : Nat) : Int) else if k = 9 then ((x + 72 : Nat) : Int) else 0 := rfl
theorem zBo_5 {k : Int} : zBo 5 k = if k = 0 then -1 else if k = 1 then -1 else if k = 2 then -1 else if k = 3 then -1 else if k = 4 then -1 else if k = 5 then -1 else 0 := rfl
theorem zFo_5 {x : Nat} {k : Int} : zFo 5 x k = if k = 0 then ((x + 1 : Nat) : Int) else if k = 1 then ((x + 2 : Nat) : Int) else if k = 2 then ((x + 3 : Nat) : Int) else if k = 3 then ((x + 4 : Nat) : Int) else if k = 4 then ((x + 5 : Nat) : Int) else if k = 5 then ((x + 6 : Nat) : Int) else 0 := rfl
theorem zBo_6 {k : Int} : zBo 6 k = if k = 0 then -1 else 0 := rfl
theorem zFo_6 {x : Nat} {k : Int} : zFo 6 x k = if k = 0 then ((x + 1 : Nat) : Int) else 0 := rfl
theorem zBo_7 {k : Int} : zBo 7 k = if k = 0 then -1 else if k = 1 then -1 else if k = 2 then -1 else 0 := rfl
theorem zFo_7 {x : Nat} {k : Int} : zFo 7 x k = if k = 0 then ((x + 1 : Nat) : Int) else if k = 1 then ((x + 2 : Nat) : Int) else if k = 2 then ((x + 3 : Nat) : Int) else 0 := rfl
theorem zBo_8 {k : Int} : zBo 8 k = if k = 0 then -1 else if k = 4 then -1 else if k = 5 then -1 else if k = 6 then -1 else 0 := rfl
theorem zFo_8 {x : Nat} {k : Int} : zFo 8 x k = if k = 0 then ((x + 1 : Nat) : Int) else if k = 4 then ((x + 2 : Nat) : Int) else if k = 5 then ((x + 3 : Nat) : Int) else if k = 6 then ((x + 25 : Nat) : Int) else 0 := rfl
theorem zBo_9 {k : Int} : zBo 9 k = if k = 0 then -1 else if k = 1 then -1 else if k = 2 then -1 else if k = 3 then -1 else if k = 4 then -1 else 0 := rfl
theorem zFo_9 {x : Nat} {k : Int} : zFo 9 x k = if k = 0 then ((x + 1 : Nat) : Int) else if k = 1 then ((x + 2 : Nat) : Int) else if k = 2 then ((x + 3 : Nat) : Int) else if k = 3 then ((x + 4 : Nat) : Int) else if k = 4 then ((x + 5 : Nat) : Int) else 0 := rfl
theorem zBo_10 {k : Int} : zBo 10 k = if k = 2 then -1 else if k = 3 then -1 else if k = 4 then -1 else 0 := rfl
theorem zFo_10 {x : Nat} {k : Int} : zFo 10 x k = if k = 2 then ((x + 1 : Nat) : Int) else if k = 3 then ((x + 2 : Nat) : Int) else if k = 4 then ((x + 63 : Nat) : Int) else 0 := rfl
theorem zBo_11 {k : Int} : zBo 11 k = if k = 0 then -1 else if k = 1 then -1 else if k = 2 then -1 else if k = 3 then -1 else if k = 4 then -1 else if k = 5 then -1 else if k = 6 then -1 else if k = 7 then -1 else if k = 8 then -1 else if k = 9 then -1 else if k = 10 then -1 else 0 := rfl
theorem zFo_11 {x : Nat} {k : Int} : zFo 11 x k = if k = 0 then ((x + 1 : Nat) : Int) else if k = 1 then ((x + 23 : Nat) : Int) else if k = 2 then ((x + 45 : Nat) : Int) else if k = 3 then ((x + 46 : Nat) : Int) else if k = 4 then ((x + 47 : Nat) : Int) else if k = 5 then ((x + 111 : Nat) : Int) else if k = 6 then ((x + 189 : Nat) : Int) else if k = 7 then ((x + 292 : Nat) : Int) else if k = 8 then ((x + 345 : Nat) : Int) else if k = 9 then ((x + 347 : Nat) : Int) else if k = 10 then ((x + 348 : Nat) : Int) else if k = 12 then 1 else 0 := rfl
theorem zBo_12 {k : Int} : zBo 12 k = if k = 0 then -1 else if k = 1 then -1 else if k = 2 then -1 else if k = 3 then -1 else if k = 4 then -1 else if k = 8 then -1 else if k = 14 then -1 else if k = 15 then -1 else if k = 17 then -1 else if k = 19 then -1 else if k = 20 then -1 else if k = 21 then -1 else if k = 22 then -1 else if k = 23 then -1 else if k = 24 then -1 else if k = 25 then -1 else if k = 26 then -1 else if k = 27 then -1 else if k = 28 then -1 else if k = 29 then -1 else if k = 30 then -1 else if k = 34 then -1 else if k = 35 then -1 else if k = 36 then -1 else if k = 37 then -1 else if k = 38 then -1 else 0 := rfl
theorem zFo_12 {x : Nat} {k : Int} : zFo 12 x k = if k = 0 then ((x + 1 : Nat) : Int) else if k = 1 then ((x + 2 : Nat) : Int) else if k = 2 then ((x + 3 : Nat) : Int) else if k = 3 then ((x + 4 : Nat) : Int) else if k = 4 then ((x + 5 : Nat) : Int) else if k = 6 then 1 else if k = 8 then ((x + 6 : Nat) : Int) else if k = 14 then ((x + 7 : Nat) : Int) else if k = 15 then ((x + 8 : Nat) : Int) else if k = 17 then ((x + 9 : Nat) : Int) else if k = 19 then ((x + 10 : Nat) : Int) else if k = 20 then ((x + 11 : Nat) : Int) else if k = 21 then ((x + 12 : Nat) : Int) else if k = 22 then ((x + 13 : Nat) : Int) else if k = 23 then ((x + 14 : Nat) : Int) else if k = 24 then ((x + 15 : Nat) : Int) else if k = 25 then ((x + 16 : Nat) : Int) else if k = 26 then ((x + 17 : Nat) : Int) else if k = 27 then ((x + 18 : Nat) : Int) else if k = 28 then ((x + 19 : Nat) : Int) else if k = 29 then ((x + 20 : Nat) : Int) else if k = 30 then ((x + 21 : Nat) : Int) else if k = 34 then ((x + 22 : Nat) : Int) else if k = 35 then ((x + 23 : Nat) : Int) else if k = 36 then ((x + 24 : Nat) : Int) else if k = 37 then ((x + 25 : Nat) : Int) else if k = 38 then ((x + 26 : Nat) : Int) else 0 := rfl
set_option maxRecDepth 100000 in
set_option maxHeartbeats 4000000 in
theorem k_X6_init {l : Launch} {E : zE} {μ : zM} {h : Nat} (hz : zAt zp6 h) (hN : h + 2 ≤ zN) (hb : ∀ x, h ≤ x → μ x = zBl x) : CtI l E yX6_init cX6_init 1 ({ frames := 1, cells := 1, slots := 36, locals := 28 }) h μ (zPi h 2 μ) := by
  refine CtI.of RX6 [zR h] (by decide +kernel) rfl rfl rfl (by decide) (fun X hX => ?_)
  subst hX
  have h0 : zl h = (6, 1) := hz.at 0 rfl
  refine k_aload dX6_init_0 ?_
  refine k_obj l_X6_3 (lw_m0 27 rfl rfl) (lw_m0 28 rfl rfl) (Nat.le_of_ble_eq_true rfl) ⟨(Nat.le_of_ble_eq_true rfl), (Nat.le_of_ble_eq_true rfl)⟩ dX6_init_1 ?_
  refine k_aload dX6_init_4 ?_
  refine k_bipush dX6_init_5 (by decide) ?_
  refine k_newi (n := h + 1) (z := 36) (lw_m0 74 rfl rfl) (hz.at 1 rfl) (fun j => by (repeat (rw [zup_row (by omega)])); rw [hb (h + 1) (by omega), zBl_i (hz.at 1 rfl)]) (by decide) ⟨(Nat.le_of_ble_eq_true rfl), (Nat.le_of_ble_eq_true rfl)⟩ dX6_init_7 ?_
  refine k_putF (id := h) (j := h + 1) (ty := tyX6 0) 0 rfl f_X6_9 ⟨_, rfl, tyX6_ok 0 (by decide), rfl, rfl⟩ (hz.at 0 rfl) rfl (by omega) (by omega) rfl rfl dX6_init_9 ?_
  refine k_ret dX6_init_12 (Nat.le_of_ble_eq_true rfl) (Nat.le_of_ble_eq_true rfl) ⟨rfl, fun x => ?_⟩
  by_cases q : h ≤ x ∧ x < h + 2
  · rw [if_pos q]
    by_cases q0 : x = h
    · subst q0
      rw [zFi_o h0 (by decide)]
      funext k
      repeat (rw [zup_ap])
      rw [hb x (by omega), zBl_o h0 (by decide)]
      rw [zBo_6, zFo_6]
      by_cases e0 : k = 0
      · subst e0; simp
      simp [e0]
    · (repeat (rw [zup_row (by omega)]))
      rw [hb x q.1]
      obtain ⟨o, rfl⟩ : ∃ o, x = h + o := ⟨x - h, by omega⟩
      rcases (by omega : o = 1) with rfl
      · exact (zFi_i (hz.at 1 rfl)).symm
  · rw [if_neg q]
    (repeat (rw [zup_row (by omega)]))
set_option maxRecDepth 100000 in
set_option maxHeartbeats 4000000 in
theorem k_X1_init {l : Launch} {E : zE} {μ : zM} {h : Nat} (hz : zAt zp1 h) (hN : h + 4 ≤ zN) (hb : ∀ x, h ≤ x → μ x = zBl x) : CtI l E yX1_init cX1_init 1 ({ frames := 1, cells := 3, slots := 78, locals := 28 }) h μ (zPi h 4 μ) := by
  refine CtI.of RX1 [zR h] (by decide +kernel) rfl rfl rfl (by decide) (fun X hX => ?_)
  subst hX
  have h0 : zl h = (1, 6) := hz.at 0 rfl
  refine k_aload dX1_init_0 ?_
  refine k_obj l_X1_3 (lw_m0 27 rfl rfl) (lw_m0 28 rfl rfl) (Nat.le_of_ble_eq_true rfl) ⟨(Nat.le_of_ble_eq_true rfl), (Nat.le_of_ble_eq_true rfl)⟩ dX1_init_1 ?_
  refine k_aload dX1_init_4 ?_
  refine k_bipush dX1_init_5 (by decide) ?_
  refine k_newz (n := h + 1) (z := 36) (lw_m0 73 rfl rfl) (hz.at 1 rfl) (fun j => by (repeat (rw [zup_row (by omega)])); rw [hb (h + 1) (by omega), zBl_z (hz.at 1 rfl)]) (by decide) ⟨(Nat.le_of_ble_eq_true rfl), (Nat.le_of_ble_eq_true rfl)⟩ dX1_init_7 ?_
  refine k_putF (id := h) (j := h + 1) (ty := tyX1 0) 0 rfl f_X1_9 ⟨_, rfl, tyX1_ok 0 (by decide), rfl, rfl⟩ (hz.at 0 rfl) rfl (by omega) (by omega) rfl rfl dX1_init_9 ?_
  refine k_aload dX1_init_12 ?_
  refine k_bipush dX1_init_13 (by decide) ?_
  refine k_newi (n := h + 2) (z := 36) (lw_m0 74 rfl rfl) (hz.at 2 rfl) (fun j => by (repeat (rw [zup_row (by omega)])); rw [hb (h + 2) (by omega), zBl_i (hz.at 2 rfl)]) (by decide) ⟨(Nat.le_of_ble_eq_true rfl), (Nat.le_of_ble_eq_true rfl)⟩ dX1_init_15 ?_
  refine k_putF (id := h) (j := h + 2) (ty := tyX1 1) 1 rfl f_X1_15 ⟨_, rfl, tyX1_ok 1 (by decide), rfl, rfl⟩ (hz.at 0 rfl) rfl (by omega) (by omega) rfl rfl dX1_init_17 ?_
  refine k_aload dX1_init_20 ?_
  refine k_bipush dX1_init_21 (by decide) ?_
  refine k_newi (n := h + 3) (z := 6) (lw_m0 74 rfl rfl) (hz.at 3 rfl) (fun j => by (repeat (rw [zup_row (by omega)])); rw [hb (h + 3) (by omega), zBl_i (hz.at 3 rfl)]) (by decide) ⟨(Nat.le_of_ble_eq_true rfl), (Nat.le_of_ble_eq_true rfl)⟩ dX1_init_23 ?_
  refine k_putF (id := h) (j := h + 3) (ty := tyX1 2) 2 rfl f_X1_19 ⟨_, rfl, tyX1_ok 2 (by decide), rfl, rfl⟩ (hz.at 0 rfl) rfl (by omega) (by omega) rfl rfl dX1_init_25 ?_
  refine k_aload dX1_init_28 ?_
  refine k_iconst dX1_init_29 ?_
  refine k_putI (id := h) 3 rfl f_X1_22 p_1_3 (hz.at 0 rfl) rfl (by omega) (by omega) dX1_init_30 ?_
  refine k_aload dX1_init_33 ?_
  refine k_iconst dX1_init_34 ?_
  refine k_putI (id := h) 4 rfl f_X1_26 p_1_4 (hz.at 0 rfl) rfl (by omega) (by omega) dX1_init_35 ?_
  refine k_aload dX1_init_38 ?_
  refine k_iconst dX1_init_39 ?_
  refine k_putI (id := h) 5 rfl f_X1_29 p_1_5 (hz.at 0 rfl) rfl (by omega) (by omega) dX1_init_40 ?_
  refine k_ret dX1_init_43 (Nat.le_of_ble_eq_true rfl) (Nat.le_of_ble_eq_true rfl) ⟨rfl, fun x => ?_⟩
  by_cases q : h ≤ x ∧ x < h + 4
  · rw [if_pos q]
    by_cases q0 : x = h
    · subst q0
      rw [zFi_o h0 (by decide)]
      funext k
      repeat (rw [zup_ap])
      rw [hb x (by omega), zBl_o h0 (by decide)]
      rw [zBo_1, zFo_1]
      by_cases e0 : k = 0
      · subst e0; simp
      by_cases e1 : k = 1
      · subst e1; simp
      by_cases e2 : k = 2
      · subst e2; simp
      by_cases e3 : k = 3
      · subst e3; simp
      by_cases e4 : k = 4
      · subst e4; simp
      by_cases e5 : k = 5
      · subst e5; simp
      simp [e0, e1, e2, e3, e4, e5]
    · (repeat (rw [zup_row (by omega)]))
      rw [hb x q.1]
      obtain ⟨o, rfl⟩ : ∃ o, x = h + o := ⟨x - h, by omega⟩
      rcases (by omega : o = 1 ∨ o = 2 ∨ o = 3) with rfl | rfl | rfl
      · exact (zFi_z (hz.at 1 rfl)).symm
      · exact (zFi_i (hz.at 2 rfl)).symm
      · exact (zFi_i (hz.at 3 rfl)).symm
  · rw [if_neg q]
    (repeat (rw [zup_row (by omega)]))
set_option maxRecDepth 100000 in
set_option maxHeartbeats 4000000 in
theorem k_X5_init {l : Launch} {E : zE} {μ : zM} {h : Nat} (hz : zAt zp5 h) (hN : h + 7 ≤ zN) (hb : ∀ x, h ≤ x → μ x = zBl x) : CtI l E yX5_init cX5_init 1 ({ frames := 1, cells := 6, slots := 30, locals := 28 }) h μ (zPi h 7 μ) := by
  refine CtI.of RX5 [zR h] (by decide +kernel) rfl rfl rfl (by decide) (fun X hX => ?_)
  subst hX
  have h0 : zl h = (5, 7) := hz.at 0 rfl
  refine k_aload dX5_init_0 ?_
  refine k_obj l_X5_3 (lw_m0 27 rfl rfl) (lw_m0 28 rfl rfl) (Nat.le_of_ble_eq_true rfl) ⟨(Nat.le_of_ble_eq_true rfl), (Nat.le_of_ble_eq_true rfl)⟩ dX5_init_1 ?_
  refine k_aload dX5_init_4 ?_
  refine k_iconst dX5_init_5 ?_
  refine k_newi (n := h + 1) (z := 5) (lw_m0 74 rfl rfl) (hz.at 1 rfl) (fun j => by (repeat (rw [zup_row (by omega)])); rw [hb (h + 1) (by omega), zBl_i (hz.at 1 rfl)]) (by decide) ⟨(Nat.le_of_ble_eq_true rfl), (Nat.le_of_ble_eq_true rfl)⟩ dX5_init_6 ?_
  refine k_putF (id := h) (j := h + 1) (ty := tyX5 0) 0 rfl f_X5_9 ⟨_, rfl, tyX5_ok 0 (by decide), rfl, rfl⟩ (hz.at 0 rfl) rfl (by omega) (by omega) rfl rfl dX5_init_8 ?_
  refine k_aload dX5_init_11 ?_
  refine k_iconst dX5_init_12 ?_
  refine k_newi (n := h + 2) (z := 5) (lw_m0 74 rfl rfl) (hz.at 2 rfl) (fun j => by (repeat (rw [zup_row (by omega)])); rw [hb (h + 2) (by omega), zBl_i (hz.at 2 rfl)]) (by decide) ⟨(Nat.le_of_ble_eq_true rfl), (Nat.le_of_ble_eq_true rfl)⟩ dX5_init_13 ?_
  refine k_putF (id := h) (j := h + 2) (ty := tyX5 1) 1 rfl f_X5_15 ⟨_, rfl, tyX5_ok 1 (by decide), rfl, rfl⟩ (hz.at 0 rfl) rfl (by omega) (by omega) rfl rfl dX5_init_15 ?_
  refine k_aload dX5_init_18 ?_
  refine k_iconst dX5_init_19 ?_
  refine k_newi (n := h + 3) (z := 5) (lw_m0 74 rfl rfl) (hz.at 3 rfl) (fun j => by (repeat (rw [zup_row (by omega)])); rw [hb (h + 3) (by omega), zBl_i (hz.at 3 rfl)]) (by decide) ⟨(Nat.le_of_ble_eq_true rfl), (Nat.le_of_ble_eq_true rfl)⟩ dX5_init_20 ?_
  refine k_putF (id := h) (j := h + 3) (ty := tyX5 2) 2 rfl f_X5_18 ⟨_, rfl, tyX5_ok 2 (by decide), rfl, rfl⟩ (hz.at 0 rfl) rfl (by omega) (by omega) rfl rfl dX5_init_22 ?_
  refine k_aload dX5_init_25 ?_
  refine k_iconst dX5_init_26 ?_
  refine k_newi (n := h + 4) (z := 5) (lw_m0 74 rfl rfl) (hz.at 4 rfl) (fun j => by (repeat (rw [zup_row (by omega)])); rw [hb (h + 4) (by omega), zBl_i (hz.at 4 rfl)]) (by decide) ⟨(Nat.le_of_ble_eq_true rfl), (Nat.le_of_ble_eq_true rfl)⟩ dX5_init_27 ?_
  refine k_putF (id := h) (j := h + 4) (ty := tyX5 3) 3 rfl f_X5_21 ⟨_, rfl, tyX5_ok 3 (by decide), rfl, rfl⟩ (hz.at 0 rfl) rfl (by omega) (by omega) rfl rfl dX5_init_29 ?_
  refine k_aload dX5_init_32 ?_
  refine k_iconst dX5_init_33 ?_
  refine k_newi (n := h + 5) (z := 5) (lw_m0 74 rfl rfl) (hz.at 5 rfl) (fun j => by (repeat (rw [zup_row (by omega)])); rw [hb (h + 5) (by omega), zBl_i (hz.at 5 rfl)]) (by decide) ⟨(Nat.le_of_ble_eq_true rfl), (Nat.le_of_ble_eq_true rfl)⟩ dX5_init_34 ?_
  refine k_putF (id := h) (j := h + 5) (ty := tyX5 4) 4 rfl f_X5_24 ⟨_, rfl, tyX5_ok 4 (by decide), rfl, rfl⟩ (hz.at 0 rfl) rfl (by omega) (by omega) rfl rfl dX5_init_36 ?_
  refine k_aload dX5_init_39 ?_
  refine k_iconst dX5_init_40 ?_
  refine k_newi (n := h + 6) (z := 5) (lw_m0 74 rfl rfl) (hz.at 6 rfl) (fun j => by (repeat (rw [zup_row (by omega)])); rw [hb (h + 6) (by omega), zBl_i (hz.at 6 rfl)]) (by decide) ⟨(Nat.le_of_ble_eq_true rfl), (Nat.le_of_ble_eq_true rfl)⟩ dX5_init_41 ?_
  refine k_putF (id := h) (j := h + 6) (ty := tyX5 5) 5 rfl f_X5_27 ⟨_, rfl, tyX5_ok 5 (by decide), rfl, rfl⟩ (hz.at 0 rfl) rfl (by omega) (by omega) rfl rfl dX5_init_43 ?_
  refine k_aload dX5_init_46 ?_
  refine k_iconst dX5_init_47 ?_
  refine k_putI (id := h) 6 rfl f_X5_30 p_5_6 (hz.at 0 rfl) rfl (by omega) (by omega) dX5_init_48 ?_
  refine k_ret dX5_init_51 (Nat.le_of_ble_eq_true rfl) (Nat.le_of_ble_eq_true rfl) ⟨rfl, fun x => ?_⟩
  by_cases q : h ≤ x ∧ x < h + 7
  · rw [if_pos q]
    by_cases q0 : x = h
    · subst q0
      rw [zFi_o h0 (by decide)]
      funext k
      repeat (rw [zup_ap])
      rw [hb x (by omega), zBl_o h0 (by decide)]
      rw [zBo_5, zFo_5]
      by_cases e0 : k = 0
      · subst e0; simp
      by_cases e1 : k = 1
      · subst e1; simp
      by_cases e2 : k = 2
      · subst e2; simp
      by_cases e3 : k = 3
      · subst e3; simp
      by_cases e4 : k = 4
      · subst e4; simp
      by_cases e5 : k = 5
      · subst e5; simp
      by_cases e6 : k = 6
      · subst e6; simp
      simp [e0, e1, e2, e3, e4, e5, e6]
    · (repeat (rw [zup_row (by omega)]))
      rw [hb x q.1]
      obtain ⟨o, rfl⟩ : ∃ o, x = h + o := ⟨x - h, by omega⟩
      rcases (by omega : o = 1 ∨ o = 2 ∨ o = 3 ∨ o = 4 ∨ o = 5 ∨ o = 6) with rfl | rfl | rfl | rfl | rfl | rfl
      · exact (zFi_i (hz.at 1 rfl)).symm
      · exact (zFi_i (hz.at 2 rfl)).symm
      · exact (zFi_i (hz.at 3 rfl)).symm
      · exact (zFi_i (hz.at 4 rfl)).symm
      · exact (zFi_i (hz.at 5 rfl)).symm
      · exact (zFi_i (hz.at 6 rfl)).symm
  · rw [if_neg q]
    (repeat (rw [zup_row (by omega)]))
set_option maxRecDepth 100000 in
set_option maxHeartbeats 4000000 in
theorem k_X7_init {l : Launch} {E : zE} {μ : zM} {h : Nat} (hz : zAt zp7 h) (hN : h + 4 ≤ zN) (hb : ∀ x, h ≤ x → μ x = zBl x) : CtI l E yX7_init cX7_init 1 ({ frames := 1, cells := 3, slots := 12, locals := 28 }) h μ (zPi h 4 μ) := by
  refine CtI.of RX7 [zR h] (by decide +kernel) rfl rfl rfl (by decide) (fun X hX => ?_)
  subst hX
  have h0 : zl h = (7, 4) := hz.at 0 rfl
  refine k_aload dX7_init_0 ?_
  refine k_obj l_X7_3 (lw_m0 27 rfl rfl) (lw_m0 28 rfl rfl) (Nat.le_of_ble_eq_true rfl) ⟨(Nat.le_of_ble_eq_true rfl), (Nat.le_of_ble_eq_true rfl)⟩ dX7_init_1 ?_
  refine k_aload dX7_init_4 ?_
  refine k_iconst dX7_init_5 ?_
  refine k_newi (n := h + 1) (z := 4) (lw_m0 74 rfl rfl) (hz.at 1 rfl) (fun j => by (repeat (rw [zup_row (by omega)])); rw [hb (h + 1) (by omega), zBl_i (hz.at 1 rfl)]) (by decide) ⟨(Nat.le_of_ble_eq_true rfl), (Nat.le_of_ble_eq_true rfl)⟩ dX7_init_6 ?_
  refine k_putF (id := h) (j := h + 1) (ty := tyX7 0) 0 rfl f_X7_9 ⟨_, rfl, tyX7_ok 0 (by decide), rfl, rfl⟩ (hz.at 0 rfl) rfl (by omega) (by omega) rfl rfl dX7_init_8 ?_
  refine k_aload dX7_init_11 ?_
  refine k_iconst dX7_init_12 ?_
  refine k_newi (n := h + 2) (z := 4) (lw_m0 74 rfl rfl) (hz.at 2 rfl) (fun j => by (repeat (rw [zup_row (by omega)])); rw [hb (h + 2) (by omega), zBl_i (hz.at 2 rfl)]) (by decide) ⟨(Nat.le_of_ble_eq_true rfl), (Nat.le_of_ble_eq_true rfl)⟩ dX7_init_13 ?_
  refine k_putF (id := h) (j := h + 2) (ty := tyX7 1) 1 rfl f_X7_15 ⟨_, rfl, tyX7_ok 1 (by decide), rfl, rfl⟩ (hz.at 0 rfl) rfl (by omega) (by omega) rfl rfl dX7_init_15 ?_
  refine k_aload dX7_init_18 ?_
  refine k_iconst dX7_init_19 ?_
  refine k_newz (n := h + 3) (z := 4) (lw_m0 73 rfl rfl) (hz.at 3 rfl) (fun j => by (repeat (rw [zup_row (by omega)])); rw [hb (h + 3) (by omega), zBl_z (hz.at 3 rfl)]) (by decide) ⟨(Nat.le_of_ble_eq_true rfl), (Nat.le_of_ble_eq_true rfl)⟩ dX7_init_20 ?_
  refine k_putF (id := h) (j := h + 3) (ty := tyX7 2) 2 rfl f_X7_18 ⟨_, rfl, tyX7_ok 2 (by decide), rfl, rfl⟩ (hz.at 0 rfl) rfl (by omega) (by omega) rfl rfl dX7_init_22 ?_
  refine k_aload dX7_init_25 ?_
  refine k_iconst dX7_init_26 ?_
  refine k_putI (id := h) 3 rfl f_X7_22 p_7_3 (hz.at 0 rfl) rfl (by omega) (by omega) dX7_init_27 ?_
  refine k_ret dX7_init_30 (Nat.le_of_ble_eq_true rfl) (Nat.le_of_ble_eq_true rfl) ⟨rfl, fun x => ?_⟩
  by_cases q : h ≤ x ∧ x < h + 4
  · rw [if_pos q]
    by_cases q0 : x = h
    · subst q0
      rw [zFi_o h0 (by decide)]
      funext k
      repeat (rw [zup_ap])
      rw [hb x (by omega), zBl_o h0 (by decide)]
      rw [zBo_7, zFo_7]
      by_cases e0 : k = 0
      · subst e0; simp
      by_cases e1 : k = 1
      · subst e1; simp
      by_cases e2 : k = 2
      · subst e2; simp
      by_cases e3 : k = 3
      · subst e3; simp
      simp [e0, e1, e2, e3]
    · (repeat (rw [zup_row (by omega)]))
      rw [hb x q.1]
      obtain ⟨o, rfl⟩ : ∃ o, x = h + o := ⟨x - h, by omega⟩
      rcases (by omega : o = 1 ∨ o = 2 ∨ o = 3) with rfl | rfl | rfl
      · exact (zFi_i (hz.at 1 rfl)).symm
      · exact (zFi_i (hz.at 2 rfl)).symm
      · exact (zFi_z (hz.at 3 rfl)).symm
  · rw [if_neg q]
    (repeat (rw [zup_row (by omega)]))
set_option maxRecDepth 100000 in
set_option maxHeartbeats 4000000 in
theorem k_X9_init {l : Launch} {E : zE} {μ : zM} {h : Nat} (hz : zAt zp9 h) (hN : h + 6 ≤ zN) (hb : ∀ x, h ≤ x → μ x = zBl x) : CtI l E yX9_init cX9_init 1 ({ frames := 1, cells := 5, slots := 40, locals := 28 }) h μ (zPi h 6 μ) := by
  refine CtI.of RX9 [zR h] (by decide +kernel) rfl rfl rfl (by decide) (fun X hX => ?_)
  subst hX
  have h0 : zl h = (9, 6) := hz.at 0 rfl
  refine k_aload dX9_init_0 ?_
  refine k_obj l_X9_3 (lw_m0 27 rfl rfl) (lw_m0 28 rfl rfl) (Nat.le_of_ble_eq_true rfl) ⟨(Nat.le_of_ble_eq_true rfl), (Nat.le_of_ble_eq_true rfl)⟩ dX9_init_1 ?_
  refine k_aload dX9_init_4 ?_
  refine k_bipush dX9_init_5 (by decide) ?_
  refine k_newi (n := h + 1) (z := 8) (lw_m0 74 rfl rfl) (hz.at 1 rfl) (fun j => by (repeat (rw [zup_row (by omega)])); rw [hb (h + 1) (by omega), zBl_i (hz.at 1 rfl)]) (by decide) ⟨(Nat.le_of_ble_eq_true rfl), (Nat.le_of_ble_eq_true rfl)⟩ dX9_init_7 ?_
  refine k_putF (id := h) (j := h + 1) (ty := tyX9 0) 0 rfl f_X9_9 ⟨_, rfl, tyX9_ok 0 (by decide), rfl, rfl⟩ (hz.at 0 rfl) rfl (by omega) (by omega) rfl rfl dX9_init_9 ?_
  refine k_aload dX9_init_12 ?_
  refine k_bipush dX9_init_13 (by decide) ?_
  refine k_newi (n := h + 2) (z := 8) (lw_m0 74 rfl rfl) (hz.at 2 rfl) (fun j => by (repeat (rw [zup_row (by omega)])); rw [hb (h + 2) (by omega), zBl_i (hz.at 2 rfl)]) (by decide) ⟨(Nat.le_of_ble_eq_true rfl), (Nat.le_of_ble_eq_true rfl)⟩ dX9_init_15 ?_
  refine k_putF (id := h) (j := h + 2) (ty := tyX9 1) 1 rfl f_X9_15 ⟨_, rfl, tyX9_ok 1 (by decide), rfl, rfl⟩ (hz.at 0 rfl) rfl (by omega) (by omega) rfl rfl dX9_init_17 ?_
  refine k_aload dX9_init_20 ?_
  refine k_bipush dX9_init_21 (by decide) ?_
  refine k_newi (n := h + 3) (z := 8) (lw_m0 74 rfl rfl) (hz.at 3 rfl) (fun j => by (repeat (rw [zup_row (by omega)])); rw [hb (h + 3) (by omega), zBl_i (hz.at 3 rfl)]) (by decide) ⟨(Nat.le_of_ble_eq_true rfl), (Nat.le_of_ble_eq_true rfl)⟩ dX9_init_23 ?_
  refine k_putF (id := h) (j := h + 3) (ty := tyX9 2) 2 rfl f_X9_18 ⟨_, rfl, tyX9_ok 2 (by decide), rfl, rfl⟩ (hz.at 0 rfl) rfl (by omega) (by omega) rfl rfl dX9_init_25 ?_
  refine k_aload dX9_init_28 ?_
  refine k_bipush dX9_init_29 (by decide) ?_
  refine k_newi (n := h + 4) (z := 8) (lw_m0 74 rfl rfl) (hz.at 4 rfl) (fun j => by (repeat (rw [zup_row (by omega)])); rw [hb (h + 4) (by omega), zBl_i (hz.at 4 rfl)]) (by decide) ⟨(Nat.le_of_ble_eq_true rfl), (Nat.le_of_ble_eq_true rfl)⟩ dX9_init_31 ?_
  refine k_putF (id := h) (j := h + 4) (ty := tyX9 3) 3 rfl f_X9_21 ⟨_, rfl, tyX9_ok 3 (by decide), rfl, rfl⟩ (hz.at 0 rfl) rfl (by omega) (by omega) rfl rfl dX9_init_33 ?_
  refine k_aload dX9_init_36 ?_
  refine k_bipush dX9_init_37 (by decide) ?_
  refine k_newi (n := h + 5) (z := 8) (lw_m0 74 rfl rfl) (hz.at 5 rfl) (fun j => by (repeat (rw [zup_row (by omega)])); rw [hb (h + 5) (by omega), zBl_i (hz.at 5 rfl)]) (by decide) ⟨(Nat.le_of_ble_eq_true rfl), (Nat.le_of_ble_eq_true rfl)⟩ dX9_init_39 ?_
  refine k_putF (id := h) (j := h + 5) (ty := tyX9 4) 4 rfl f_X9_24 ⟨_, rfl, tyX9_ok 4 (by decide), rfl, rfl⟩ (hz.at 0 rfl) rfl (by omega) (by omega) rfl rfl dX9_init_41 ?_
  refine k_aload dX9_init_44 ?_
  refine k_iconst dX9_init_45 ?_
  refine k_putI (id := h) 5 rfl f_X9_27 p_9_5 (hz.at 0 rfl) rfl (by omega) (by omega) dX9_init_46 ?_
  refine k_ret dX9_init_49 (Nat.le_of_ble_eq_true rfl) (Nat.le_of_ble_eq_true rfl) ⟨rfl, fun x => ?_⟩
  by_cases q : h ≤ x ∧ x < h + 6
  · rw [if_pos q]
    by_cases q0 : x = h
    · subst q0
      rw [zFi_o h0 (by decide)]
      funext k
      repeat (rw [zup_ap])
      rw [hb x (by omega), zBl_o h0 (by decide)]
      rw [zBo_9, zFo_9]
      by_cases e0 : k = 0
      · subst e0; simp
      by_cases e1 : k = 1
      · subst e1; simp
      by_cases e2 : k = 2
      · subst e2; simp
      by_cases e3 : k = 3
      · subst e3; simp
      by_cases e4 : k = 4
      · subst e4; simp
      by_cases e5 : k = 5
      · subst e5; simp
      simp [e0, e1, e2, e3, e4, e5]
    · (repeat (rw [zup_row (by omega)]))
      rw [hb x q.1]
      obtain ⟨o, rfl⟩ : ∃ o, x = h + o := ⟨x - h, by omega⟩
      rcases (by omega : o = 1 ∨ o = 2 ∨ o = 3 ∨ o = 4 ∨ o = 5) with rfl | rfl | rfl | rfl | rfl
      · exact (zFi_i (hz.at 1 rfl)).symm
      · exact (zFi_i (hz.at 2 rfl)).symm
      · exact (zFi_i (hz.at 3 rfl)).symm
      · exact (zFi_i (hz.at 4 rfl)).symm
      · exact (zFi_i (hz.at 5 rfl)).symm
  · rw [if_neg q]
    (repeat (rw [zup_row (by omega)]))
