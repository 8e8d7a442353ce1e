/-- the memory behind the reference's making, ahead of its first call -/
def zM12 (μ : zM) : zM := zup (zup (zup (zup (zup (zup (zup (zup (zup (zup (zup (zup (zup (zup (zup (zup (zup (zup (zup (zup (zup (zup (zup (zup (zup (zup (μ) 393 0 ((394 : Nat) : Int)) 393 1 ((395 : Nat) : Int)) 393 2 ((396 : Nat) : Int)) 393 3 ((397 : Nat) : Int)) 393 4 ((398 : Nat) : Int)) 393 8 ((399 : Nat) : Int)) 393 14 ((400 : Nat) : Int)) 393 15 ((401 : Nat) : Int)) 393 17 ((402 : Nat) : Int)) 393 19 ((403 : Nat) : Int)) 393 20 ((404 : Nat) : Int)) 393 21 ((405 : Nat) : Int)) 393 22 ((406 : Nat) : Int)) 393 23 ((407 : Nat) : Int)) 393 24 ((408 : Nat) : Int)) 393 25 ((409 : Nat) : Int)) 393 26 ((410 : Nat) : Int)) 393 27 ((411 : Nat) : Int)) 393 28 ((412 : Nat) : Int)) 393 29 ((413 : Nat) : Int)) 393 30 ((414 : Nat) : Int)) 393 34 ((415 : Nat) : Int)) 393 35 ((416 : Nat) : Int)) 393 36 ((417 : Nat) : Int)) 393 37 ((418 : Nat) : Int)) 393 38 ((419 : Nat) : Int)
theorem zM12_r {μ : zM} {x : Nat} (h : x ≠ 393) : zM12 μ x = μ x := by unfold zM12; (repeat (rw [zup_row h]))
theorem zin_up {μ : zM} {a : Nat} {k v : Int} (h : ∀ id j, zin (μ id j)) (hv : zin v) : ∀ id j, zin (zup μ a k v id j) := fun id j => by
  unfold zup
  split
  · exact hv
  · exact h id j
theorem zM12_i {μ : zM} (h : ∀ id j, zin (μ id j)) : ∀ id j, zin (zM12 μ id j) := by
  unfold zM12
  (repeat (refine zin_up ?_ (by decide)))
  exact h
set_option maxRecDepth 100000 in
set_option maxHeartbeats 4000000 in
theorem zM12_w {μ : zM} : ∀ (k o : Nat), zoff 12 k = some o → zM12 μ 393 (k : Int) = ((393 + o : Nat) : Int)
  | 0, o, h => by cases (Option.some.inj (show some 1 = some o from h)); rfl
  | 1, o, h => by cases (Option.some.inj (show some 2 = some o from h)); rfl
  | 2, o, h => by cases (Option.some.inj (show some 3 = some o from h)); rfl
  | 3, o, h => by cases (Option.some.inj (show some 4 = some o from h)); rfl
  | 4, o, h => by cases (Option.some.inj (show some 5 = some o from h)); rfl
  | 5, o, h => by cases (show (none : Option Nat) = some o from h)
  | 6, o, h => by cases (show (none : Option Nat) = some o from h)
  | 7, o, h => by cases (show (none : Option Nat) = some o from h)
  | 8, o, h => by cases (Option.some.inj (show some 6 = some o from h)); rfl
  | 9, o, h => by cases (show (none : Option Nat) = some o from h)
  | 10, o, h => by cases (show (none : Option Nat) = some o from h)
  | 11, o, h => by cases (show (none : Option Nat) = some o from h)
  | 12, o, h => by cases (show (none : Option Nat) = some o from h)
  | 13, o, h => by cases (show (none : Option Nat) = some o from h)
  | 14, o, h => by cases (Option.some.inj (show some 7 = some o from h)); rfl
  | 15, o, h => by cases (Option.some.inj (show some 8 = some o from h)); rfl
  | 16, o, h => by cases (show (none : Option Nat) = some o from h)
  | 17, o, h => by cases (Option.some.inj (show some 9 = some o from h)); rfl
  | 18, o, h => by cases (show (none : Option Nat) = some o from h)
  | 19, o, h => by cases (Option.some.inj (show some 10 = some o from h)); rfl
  | 20, o, h => by cases (Option.some.inj (show some 11 = some o from h)); rfl
  | 21, o, h => by cases (Option.some.inj (show some 12 = some o from h)); rfl
  | 22, o, h => by cases (Option.some.inj (show some 13 = some o from h)); rfl
  | 23, o, h => by cases (Option.some.inj (show some 14 = some o from h)); rfl
  | 24, o, h => by cases (Option.some.inj (show some 15 = some o from h)); rfl
  | 25, o, h => by cases (Option.some.inj (show some 16 = some o from h)); rfl
  | 26, o, h => by cases (Option.some.inj (show some 17 = some o from h)); rfl
  | 27, o, h => by cases (Option.some.inj (show some 18 = some o from h)); rfl
  | 28, o, h => by cases (Option.some.inj (show some 19 = some o from h)); rfl
  | 29, o, h => by cases (Option.some.inj (show some 20 = some o from h)); rfl
  | 30, o, h => by cases (Option.some.inj (show some 21 = some o from h)); rfl
  | 31, o, h => by cases (show (none : Option Nat) = some o from h)
  | 32, o, h => by cases (show (none : Option Nat) = some o from h)
  | 33, o, h => by cases (show (none : Option Nat) = some o from h)
  | 34, o, h => by cases (Option.some.inj (show some 22 = some o from h)); rfl
  | 35, o, h => by cases (Option.some.inj (show some 23 = some o from h)); rfl
  | 36, o, h => by cases (Option.some.inj (show some 24 = some o from h)); rfl
  | 37, o, h => by cases (Option.some.inj (show some 25 = some o from h)); rfl
  | 38, o, h => by cases (Option.some.inj (show some 26 = some o from h)); rfl
  | 39, o, h => by cases (show (none : Option Nat) = some o from h)
  | 40, o, h => by cases (show (none : Option Nat) = some o from h)
  | 41, o, h => by cases (show (none : Option Nat) = some o from h)
  | k + 42, o, h => by simp [zoff, zoffs] at h
theorem zM12_5 {μ : zM} : zM12 μ 393 5 = μ 393 5 := by unfold zM12; (repeat (rw [zup_ne (Or.inr (by decide))]))
theorem zM12_7 {μ : zM} : zM12 μ 393 7 = μ 393 7 := by unfold zM12; (repeat (rw [zup_ne (Or.inr (by decide))]))
theorem zM12_9 {μ : zM} : zM12 μ 393 9 = μ 393 9 := by unfold zM12; (repeat (rw [zup_ne (Or.inr (by decide))]))
theorem zM12_18 {μ : zM} : zM12 μ 393 18 = μ 393 18 := by unfold zM12; (repeat (rw [zup_ne (Or.inr (by decide))]))
theorem zl_h395 : ∀ id : Nat, id < 420 → 395 ≤ id → (zl id).1 = 20 ∨ (zl id).1 = 21 := by decide +kernel
theorem zM12_f {μ : zM} (hl : ∀ x, x < 393 → μ x = zFi x) (hb : ∀ x, 393 ≤ x → μ x = zBl x) {x : Nat} (h3 : x ≠ 393) (h4 : x ≠ 394) (hx : x < zN) : zM12 μ x = zFi x := by
  rw [zM12_r h3]
  by_cases c : x < 393
  · exact hl x c
  · rw [hb x (by omega)]
    have hx : x < 420 := hx
    rcases zl_h395 x hx (by omega) with e | e
    · exact (zFi_i (m := (zl x).2) (by rw [← e])).symm
    · exact (zFi_z (m := (zl x).2) (by rw [← e])).symm
theorem zM12_c {μ : zM} (hl : ∀ x, x < 393 → μ x = zFi x) (hb : ∀ x, 393 ≤ x → μ x = zBl x) : zC (zM12 μ) := by
  refine zC_w (zM12_i (fun id j => ?_)) (fun x a b c => zM12_f hl hb a b c) zM12_w
  by_cases c : id < 393
  · rw [hl id c]; exact zFi_in id j
  · rw [hb id (by omega)]; exact zBl_in id j
/-- behind both constructors -/
def zP12 : zM → Nat → Prop := fun ν n => n = zN ∧ zC ν ∧ (∀ x, x ≠ 393 → x ≠ 394 → x < zN → ν x = zFi x) ∧ (∀ k, 0 ≤ k → k < 172 → ν 394 k = if k = 5 then 2 else 0) ∧ ν 393 5 = 0 ∧ ν 393 6 = 1 ∧ ν 393 7 = 0 ∧ ν 393 9 = 0 ∧ ν 393 18 = 0
set_option maxRecDepth 100000 in
set_option maxHeartbeats 4000000 in
theorem k_X12_init {l : Launch} {E : zE} {μ : zM} (hzn : zn E = zN) (hl : ∀ x, x < 393 → μ x = zFi x) (hb : ∀ x, 393 ≤ x → μ x = zBl x) : CtI l E yX12_init cX12_init 1 ({ frames := 1, cells := 26, slots := 5681, locals := 28 }) 393 μ zP12 := by
  refine CtI.of RX12 [zR 393] (by decide +kernel) rfl rfl rfl (by decide) (fun X hX => ?_)
  subst hX
  refine k_aload dX12_init_0 ?_
  refine k_obj l_X12_1 (lw_m0 27 rfl rfl) (lw_m0 28 rfl rfl) (Nat.le_of_ble_eq_true rfl) ⟨(Nat.le_of_ble_eq_true rfl), (Nat.le_of_ble_eq_true rfl)⟩ dX12_init_1 ?_
  refine k_aload dX12_init_4 ?_
  refine k_sipush dX12_init_5 (by decide) ?_
  refine k_newi (n := 394) (z := 172) (lw_m0 74 rfl rfl) zl_394 (fun j => by (repeat (rw [zup_row (by decide)])); rw [hb 394 (by decide), zBl_i zl_394]) (by decide) ⟨(Nat.le_of_ble_eq_true rfl), (Nat.le_of_ble_eq_true rfl)⟩ dX12_init_8 ?_
  refine k_putF (id := 393) (j := 394) (ty := tyX12 0) 0 rfl f_X12_7 ⟨_, rfl, tyX12_ok 0 (by decide), rfl, rfl⟩ zl_393 rfl (by decide) (by decide) rfl rfl dX12_init_10 ?_
  refine k_aload dX12_init_13 ?_
  refine k_sipush dX12_init_14 (by decide) ?_
  refine k_newi (n := 395) (z := 344) (lw_m0 74 rfl rfl) zl_395 (fun j => by (repeat (rw [zup_row (by decide)])); rw [hb 395 (by decide), zBl_i zl_395]) (by decide) ⟨(Nat.le_of_ble_eq_true rfl), (Nat.le_of_ble_eq_true rfl)⟩ dX12_init_17 ?_
  refine k_putF (id := 393) (j := 395) (ty := tyX12 1) 1 rfl f_X12_13 ⟨_, rfl, tyX12_ok 1 (by decide), rfl, rfl⟩ zl_393 rfl (by decide) (by decide) rfl rfl dX12_init_19 ?_
  refine k_aload dX12_init_22 ?_
  refine k_iconst dX12_init_23 ?_
  refine k_newz (n := 396) (z := 2) (lw_m0 73 rfl rfl) zl_396 (fun j => by (repeat (rw [zup_row (by decide)])); rw [hb 396 (by decide), zBl_z zl_396]) (by decide) ⟨(Nat.le_of_ble_eq_true rfl), (Nat.le_of_ble_eq_true rfl)⟩ dX12_init_24 ?_
  refine k_putF (id := 393) (j := 396) (ty := tyX12 2) 2 rfl f_X12_16 ⟨_, rfl, tyX12_ok 2 (by decide), rfl, rfl⟩ zl_393 rfl (by decide) (by decide) rfl rfl dX12_init_26 ?_
  refine k_aload dX12_init_29 ?_
  refine k_sipush dX12_init_30 (by decide) ?_
  refine k_newi (n := 397) (z := 172) (lw_m0 74 rfl rfl) zl_397 (fun j => by (repeat (rw [zup_row (by decide)])); rw [hb 397 (by decide), zBl_i zl_397]) (by decide) ⟨(Nat.le_of_ble_eq_true rfl), (Nat.le_of_ble_eq_true rfl)⟩ dX12_init_33 ?_
  refine k_putF (id := 393) (j := 397) (ty := tyX12 3) 3 rfl f_X12_20 ⟨_, rfl, tyX12_ok 3 (by decide), rfl, rfl⟩ zl_393 rfl (by decide) (by decide) rfl rfl dX12_init_35 ?_
  refine k_aload dX12_init_38 ?_
  refine k_iconst dX12_init_39 ?_
  refine k_newi (n := 398) (z := 3) (lw_m0 74 rfl rfl) zl_398 (fun j => by (repeat (rw [zup_row (by decide)])); rw [hb 398 (by decide), zBl_i zl_398]) (by decide) ⟨(Nat.le_of_ble_eq_true rfl), (Nat.le_of_ble_eq_true rfl)⟩ dX12_init_40 ?_
  refine k_putF (id := 393) (j := 398) (ty := tyX12 4) 4 rfl f_X12_23 ⟨_, rfl, tyX12_ok 4 (by decide), rfl, rfl⟩ zl_393 rfl (by decide) (by decide) rfl rfl dX12_init_42 ?_
  refine k_aload dX12_init_45 ?_
  refine k_sipush dX12_init_46 (by decide) ?_
  refine k_newi (n := 399) (z := 300) (lw_m0 74 rfl rfl) zl_399 (fun j => by (repeat (rw [zup_row (by decide)])); rw [hb 399 (by decide), zBl_i zl_399]) (by decide) ⟨(Nat.le_of_ble_eq_true rfl), (Nat.le_of_ble_eq_true rfl)⟩ dX12_init_49 ?_
  refine k_putF (id := 393) (j := 399) (ty := tyX12 8) 8 rfl f_X12_26 ⟨_, rfl, tyX12_ok 8 (by decide), rfl, rfl⟩ zl_393 rfl (by decide) (by decide) rfl rfl dX12_init_51 ?_
  refine k_aload dX12_init_54 ?_
  refine k_sipush dX12_init_55 (by decide) ?_
  refine k_newi (n := 400) (z := 300) (lw_m0 74 rfl rfl) zl_400 (fun j => by (repeat (rw [zup_row (by decide)])); rw [hb 400 (by decide), zBl_i zl_400]) (by decide) ⟨(Nat.le_of_ble_eq_true rfl), (Nat.le_of_ble_eq_true rfl)⟩ dX12_init_58 ?_
  refine k_putF (id := 393) (j := 400) (ty := tyX12 14) 14 rfl f_X12_29 ⟨_, rfl, tyX12_ok 14 (by decide), rfl, rfl⟩ zl_393 rfl (by decide) (by decide) rfl rfl dX12_init_60 ?_
  refine k_aload dX12_init_63 ?_
  refine k_sipush dX12_init_64 (by decide) ?_
  refine k_newi (n := 401) (z := 1500) (lw_m0 74 rfl rfl) zl_401 (fun j => by (repeat (rw [zup_row (by decide)])); rw [hb 401 (by decide), zBl_i zl_401]) (by decide) ⟨(Nat.le_of_ble_eq_true rfl), (Nat.le_of_ble_eq_true rfl)⟩ dX12_init_67 ?_
  refine k_putF (id := 393) (j := 401) (ty := tyX12 15) 15 rfl f_X12_32 ⟨_, rfl, tyX12_ok 15 (by decide), rfl, rfl⟩ zl_393 rfl (by decide) (by decide) rfl rfl dX12_init_69 ?_
  refine k_aload dX12_init_72 ?_
  refine k_sipush dX12_init_73 (by decide) ?_
  refine k_newi (n := 402) (z := 1296) (lw_m0 74 rfl rfl) zl_402 (fun j => by (repeat (rw [zup_row (by decide)])); rw [hb 402 (by decide), zBl_i zl_402]) (by decide) ⟨(Nat.le_of_ble_eq_true rfl), (Nat.le_of_ble_eq_true rfl)⟩ dX12_init_76 ?_
  refine k_putF (id := 393) (j := 402) (ty := tyX12 17) 17 rfl f_X12_35 ⟨_, rfl, tyX12_ok 17 (by decide), rfl, rfl⟩ zl_393 rfl (by decide) (by decide) rfl rfl dX12_init_78 ?_
  refine k_aload dX12_init_81 ?_
  refine k_iconst dX12_init_82 ?_
  refine k_newi (n := 403) (z := 5) (lw_m0 74 rfl rfl) zl_403 (fun j => by (repeat (rw [zup_row (by decide)])); rw [hb 403 (by decide), zBl_i zl_403]) (by decide) ⟨(Nat.le_of_ble_eq_true rfl), (Nat.le_of_ble_eq_true rfl)⟩ dX12_init_83 ?_
  refine k_putF (id := 393) (j := 403) (ty := tyX12 19) 19 rfl f_X12_38 ⟨_, rfl, tyX12_ok 19 (by decide), rfl, rfl⟩ zl_393 rfl (by decide) (by decide) rfl rfl dX12_init_85 ?_
  refine k_aload dX12_init_88 ?_
  refine k_iconst dX12_init_89 ?_
  refine k_newi (n := 404) (z := 5) (lw_m0 74 rfl rfl) zl_404 (fun j => by (repeat (rw [zup_row (by decide)])); rw [hb 404 (by decide), zBl_i zl_404]) (by decide) ⟨(Nat.le_of_ble_eq_true rfl), (Nat.le_of_ble_eq_true rfl)⟩ dX12_init_90 ?_
  refine k_putF (id := 393) (j := 404) (ty := tyX12 20) 20 rfl f_X12_41 ⟨_, rfl, tyX12_ok 20 (by decide), rfl, rfl⟩ zl_393 rfl (by decide) (by decide) rfl rfl dX12_init_92 ?_
  refine k_aload dX12_init_95 ?_
  refine k_iconst dX12_init_96 ?_
  refine k_newi (n := 405) (z := 5) (lw_m0 74 rfl rfl) zl_405 (fun j => by (repeat (rw [zup_row (by decide)])); rw [hb 405 (by decide), zBl_i zl_405]) (by decide) ⟨(Nat.le_of_ble_eq_true rfl), (Nat.le_of_ble_eq_true rfl)⟩ dX12_init_97 ?_
  refine k_putF (id := 393) (j := 405) (ty := tyX12 21) 21 rfl f_X12_44 ⟨_, rfl, tyX12_ok 21 (by decide), rfl, rfl⟩ zl_393 rfl (by decide) (by decide) rfl rfl dX12_init_99 ?_
  refine k_aload dX12_init_102 ?_
  refine k_iconst dX12_init_103 ?_
  refine k_newi (n := 406) (z := 5) (lw_m0 74 rfl rfl) zl_406 (fun j => by (repeat (rw [zup_row (by decide)])); rw [hb 406 (by decide), zBl_i zl_406]) (by decide) ⟨(Nat.le_of_ble_eq_true rfl), (Nat.le_of_ble_eq_true rfl)⟩ dX12_init_104 ?_
  refine k_putF (id := 393) (j := 406) (ty := tyX12 22) 22 rfl f_X12_47 ⟨_, rfl, tyX12_ok 22 (by decide), rfl, rfl⟩ zl_393 rfl (by decide) (by decide) rfl rfl dX12_init_106 ?_
  refine k_aload dX12_init_109 ?_
  refine k_sipush dX12_init_110 (by decide) ?_
  refine k_newi (n := 407) (z := 200) (lw_m0 74 rfl rfl) zl_407 (fun j => by (repeat (rw [zup_row (by decide)])); rw [hb 407 (by decide), zBl_i zl_407]) (by decide) ⟨(Nat.le_of_ble_eq_true rfl), (Nat.le_of_ble_eq_true rfl)⟩ dX12_init_113 ?_
  refine k_putF (id := 393) (j := 407) (ty := tyX12 23) 23 rfl f_X12_50 ⟨_, rfl, tyX12_ok 23 (by decide), rfl, rfl⟩ zl_393 rfl (by decide) (by decide) rfl rfl dX12_init_115 ?_
  refine k_aload dX12_init_118 ?_
  refine k_iconst dX12_init_119 ?_
  refine k_newi (n := 408) (z := 5) (lw_m0 74 rfl rfl) zl_408 (fun j => by (repeat (rw [zup_row (by decide)])); rw [hb 408 (by decide), zBl_i zl_408]) (by decide) ⟨(Nat.le_of_ble_eq_true rfl), (Nat.le_of_ble_eq_true rfl)⟩ dX12_init_120 ?_
  refine k_putF (id := 393) (j := 408) (ty := tyX12 24) 24 rfl f_X12_53 ⟨_, rfl, tyX12_ok 24 (by decide), rfl, rfl⟩ zl_393 rfl (by decide) (by decide) rfl rfl dX12_init_122 ?_
  refine k_aload dX12_init_125 ?_
  refine k_sipush dX12_init_126 (by decide) ?_
  refine k_newi (n := 409) (z := 200) (lw_m0 74 rfl rfl) zl_409 (fun j => by (repeat (rw [zup_row (by decide)])); rw [hb 409 (by decide), zBl_i zl_409]) (by decide) ⟨(Nat.le_of_ble_eq_true rfl), (Nat.le_of_ble_eq_true rfl)⟩ dX12_init_129 ?_
  refine k_putF (id := 393) (j := 409) (ty := tyX12 25) 25 rfl f_X12_56 ⟨_, rfl, tyX12_ok 25 (by decide), rfl, rfl⟩ zl_393 rfl (by decide) (by decide) rfl rfl dX12_init_131 ?_
  refine k_aload dX12_init_134 ?_
  refine k_sipush dX12_init_135 (by decide) ?_
  refine k_newi (n := 410) (z := 200) (lw_m0 74 rfl rfl) zl_410 (fun j => by (repeat (rw [zup_row (by decide)])); rw [hb 410 (by decide), zBl_i zl_410]) (by decide) ⟨(Nat.le_of_ble_eq_true rfl), (Nat.le_of_ble_eq_true rfl)⟩ dX12_init_138 ?_
  refine k_putF (id := 393) (j := 410) (ty := tyX12 26) 26 rfl f_X12_59 ⟨_, rfl, tyX12_ok 26 (by decide), rfl, rfl⟩ zl_393 rfl (by decide) (by decide) rfl rfl dX12_init_140 ?_
  refine k_aload dX12_init_143 ?_
  refine k_sipush dX12_init_144 (by decide) ?_
  refine k_newi (n := 411) (z := 220) (lw_m0 74 rfl rfl) zl_411 (fun j => by (repeat (rw [zup_row (by decide)])); rw [hb 411 (by decide), zBl_i zl_411]) (by decide) ⟨(Nat.le_of_ble_eq_true rfl), (Nat.le_of_ble_eq_true rfl)⟩ dX12_init_147 ?_
  refine k_putF (id := 393) (j := 411) (ty := tyX12 27) 27 rfl f_X12_62 ⟨_, rfl, tyX12_ok 27 (by decide), rfl, rfl⟩ zl_393 rfl (by decide) (by decide) rfl rfl dX12_init_149 ?_
  refine k_aload dX12_init_152 ?_
  refine k_sipush dX12_init_153 (by decide) ?_
  refine k_newi (n := 412) (z := 220) (lw_m0 74 rfl rfl) zl_412 (fun j => by (repeat (rw [zup_row (by decide)])); rw [hb 412 (by decide), zBl_i zl_412]) (by decide) ⟨(Nat.le_of_ble_eq_true rfl), (Nat.le_of_ble_eq_true rfl)⟩ dX12_init_156 ?_
  refine k_putF (id := 393) (j := 412) (ty := tyX12 28) 28 rfl f_X12_65 ⟨_, rfl, tyX12_ok 28 (by decide), rfl, rfl⟩ zl_393 rfl (by decide) (by decide) rfl rfl dX12_init_158 ?_
  refine k_aload dX12_init_161 ?_
  refine k_sipush dX12_init_162 (by decide) ?_
  refine k_newi (n := 413) (z := 220) (lw_m0 74 rfl rfl) zl_413 (fun j => by (repeat (rw [zup_row (by decide)])); rw [hb 413 (by decide), zBl_i zl_413]) (by decide) ⟨(Nat.le_of_ble_eq_true rfl), (Nat.le_of_ble_eq_true rfl)⟩ dX12_init_165 ?_
  refine k_putF (id := 393) (j := 413) (ty := tyX12 29) 29 rfl f_X12_68 ⟨_, rfl, tyX12_ok 29 (by decide), rfl, rfl⟩ zl_393 rfl (by decide) (by decide) rfl rfl dX12_init_167 ?_
  refine k_aload dX12_init_170 ?_
  refine k_sipush dX12_init_171 (by decide) ?_
  refine k_newi (n := 414) (z := 220) (lw_m0 74 rfl rfl) zl_414 (fun j => by (repeat (rw [zup_row (by decide)])); rw [hb 414 (by decide), zBl_i zl_414]) (by decide) ⟨(Nat.le_of_ble_eq_true rfl), (Nat.le_of_ble_eq_true rfl)⟩ dX12_init_174 ?_
  refine k_putF (id := 393) (j := 414) (ty := tyX12 30) 30 rfl f_X12_71 ⟨_, rfl, tyX12_ok 30 (by decide), rfl, rfl⟩ zl_393 rfl (by decide) (by decide) rfl rfl dX12_init_176 ?_
  refine k_aload dX12_init_179 ?_
  refine k_bipush dX12_init_180 (by decide) ?_
  refine k_newi (n := 415) (z := 36) (lw_m0 74 rfl rfl) zl_415 (fun j => by (repeat (rw [zup_row (by decide)])); rw [hb 415 (by decide), zBl_i zl_415]) (by decide) ⟨(Nat.le_of_ble_eq_true rfl), (Nat.le_of_ble_eq_true rfl)⟩ dX12_init_182 ?_
  refine k_putF (id := 393) (j := 415) (ty := tyX12 34) 34 rfl f_X12_74 ⟨_, rfl, tyX12_ok 34 (by decide), rfl, rfl⟩ zl_393 rfl (by decide) (by decide) rfl rfl dX12_init_184 ?_
  refine k_aload dX12_init_187 ?_
  refine k_bipush dX12_init_188 (by decide) ?_
  refine k_newi (n := 416) (z := 36) (lw_m0 74 rfl rfl) zl_416 (fun j => by (repeat (rw [zup_row (by decide)])); rw [hb 416 (by decide), zBl_i zl_416]) (by decide) ⟨(Nat.le_of_ble_eq_true rfl), (Nat.le_of_ble_eq_true rfl)⟩ dX12_init_190 ?_
  refine k_putF (id := 393) (j := 416) (ty := tyX12 35) 35 rfl f_X12_77 ⟨_, rfl, tyX12_ok 35 (by decide), rfl, rfl⟩ zl_393 rfl (by decide) (by decide) rfl rfl dX12_init_192 ?_
  refine k_aload dX12_init_195 ?_
  refine k_iconst dX12_init_196 ?_
  refine k_newi (n := 417) (z := 5) (lw_m0 74 rfl rfl) zl_417 (fun j => by (repeat (rw [zup_row (by decide)])); rw [hb 417 (by decide), zBl_i zl_417]) (by decide) ⟨(Nat.le_of_ble_eq_true rfl), (Nat.le_of_ble_eq_true rfl)⟩ dX12_init_197 ?_
  refine k_putF (id := 393) (j := 417) (ty := tyX12 36) 36 rfl f_X12_80 ⟨_, rfl, tyX12_ok 36 (by decide), rfl, rfl⟩ zl_393 rfl (by decide) (by decide) rfl rfl dX12_init_199 ?_
  refine k_aload dX12_init_202 ?_
  refine k_iconst dX12_init_203 ?_
  refine k_newi (n := 418) (z := 5) (lw_m0 74 rfl rfl) zl_418 (fun j => by (repeat (rw [zup_row (by decide)])); rw [hb 418 (by decide), zBl_i zl_418]) (by decide) ⟨(Nat.le_of_ble_eq_true rfl), (Nat.le_of_ble_eq_true rfl)⟩ dX12_init_204 ?_
  refine k_putF (id := 393) (j := 418) (ty := tyX12 37) 37 rfl f_X12_83 ⟨_, rfl, tyX12_ok 37 (by decide), rfl, rfl⟩ zl_393 rfl (by decide) (by decide) rfl rfl dX12_init_206 ?_
  refine k_aload dX12_init_209 ?_
  refine k_iconst dX12_init_210 ?_
  refine k_newi (n := 419) (z := 5) (lw_m0 74 rfl rfl) zl_419 (fun j => by (repeat (rw [zup_row (by decide)])); rw [hb 419 (by decide), zBl_i zl_419]) (by decide) ⟨(Nat.le_of_ble_eq_true rfl), (Nat.le_of_ble_eq_true rfl)⟩ dX12_init_211 ?_
  refine k_putF (id := 393) (j := 419) (ty := tyX12 38) 38 rfl f_X12_86 ⟨_, rfl, tyX12_ok 38 (by decide), rfl, rfl⟩ zl_393 rfl (by decide) (by decide) rfl rfl dX12_init_213 ?_
  refine k_aload dX12_init_216 ?_
  refine k_callV0 (μ := zM12 μ) hzn rfl (zM12_c hl hb) k_X12_begins (fun r μ1 hp => hp.1) m_X12_begins zl_393 l_X12_89 (Nat.le_of_ble_eq_true rfl) ⟨(Nat.le_of_ble_eq_true rfl), (Nat.le_of_ble_eq_true rfl)⟩ ⟨rfl, rfl⟩ ⟨(Nat.le_of_ble_eq_true rfl), (Nat.le_of_ble_eq_true rfl)⟩ dX12_init_217 (fun ν hp hc1 => ?_)
  obtain ⟨-, h394, hx9⟩ := hp
  refine k_aload dX12_init_220 ?_
  refine k_iconst dX12_init_221 ?_
  refine k_putI (id := 393) 6 rfl f_X12_92 p_12_6 zl_393 rfl (by decide) (by decide) dX12_init_222 ?_
  refine k_ret dX12_init_225 (Nat.le_of_ble_eq_true rfl) (Nat.le_of_ble_eq_true rfl) ?_
  refine ⟨rfl, zC_up hc1 (by decide) (fun k o h e => ?_) (by decide) (by decide) (fun e => by rw [zl_393] at e; cases e), fun x a b c => ?_, fun k k0 k1 => ?_, ?_, zup_eq, ?_, ?_, ?_⟩
  · have e : k = 6 := by omega
    subst e
    rw [zl_393] at h
    cases h
  · rw [zup_row a, hx9 x b]; exact zM12_f hl hb a b c
  · rw [zup_row (by decide)]; exact h394 k k0 k1
  · rw [zup_ne (Or.inr (by decide)), hx9 393 (by decide), zM12_5, hb 393 (by decide), zBl_o zl_393 (by decide)]; rfl
  · rw [zup_ne (Or.inr (by decide)), hx9 393 (by decide), zM12_7, hb 393 (by decide), zBl_o zl_393 (by decide)]; rfl
  · rw [zup_ne (Or.inr (by decide)), hx9 393 (by decide), zM12_9, hb 393 (by decide), zBl_o zl_393 (by decide)]; rfl
  · rw [zup_ne (Or.inr (by decide)), hx9 393 (by decide), zM12_18, hb 393 (by decide), zBl_o zl_393 (by decide)]; rfl
