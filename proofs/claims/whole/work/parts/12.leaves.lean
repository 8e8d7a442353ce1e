set_option maxRecDepth 100000 in
set_option maxHeartbeats 4000000 in
theorem k_X11_isIn {l : Launch} {E : zE} {v lo hi : Int} {μ : zM} : Ct l E yX11_isIn cX11_isIn 3 (some .boolean) ({ frames := 0, cells := 0, slots := 0, locals := 0 }) [zI v, zI lo, zI hi] μ (fun r ν => r = some (zI (zb (lo ≤ v ∧ v ≤ hi))) ∧ ν = μ) := by
  refine Ct.of RX11 [zI v, zI lo, zI hi] (by decide +kernel) rfl ⟨rfl, rfl⟩ rfl (Nat.le_of_ble_eq_true rfl) (fun X hX hc0 ha0 => ?_)
  subst hX
  refine z_iload_0 dX11_isIn_0 ?_
  refine z_iload_1 dX11_isIn_1 ?_
  refine z_icmplt (tgt := 14) dX11_isIn_2 (by decide) (fun h_2 => ?_) (fun h_2 => ?_)
  · refine z_iconst dX11_isIn_14 (by decide) ?_
    exact z_zret (by decide) dX11_isIn_15 (by first | exact zb_r ⟨by omega, by omega⟩ rfl | exact zb_r0 (by omega) rfl)
  · refine z_iload_0 dX11_isIn_5 ?_
    refine z_iload_2 dX11_isIn_6 ?_
    refine z_icmpgt (tgt := 14) dX11_isIn_7 (by decide) (fun h_7 => ?_) (fun h_7 => ?_)
    · refine z_iconst dX11_isIn_14 (by decide) ?_
      exact z_zret (by decide) dX11_isIn_15 (by first | exact zb_r ⟨by omega, by omega⟩ rfl | exact zb_r0 (by omega) rfl)
    · refine z_iconst dX11_isIn_10 (by decide) ?_
      refine z_goto (tgt := 15) dX11_isIn_11 (by decide) ?_
      exact z_zret (by decide) dX11_isIn_15 (by first | exact zb_r ⟨by omega, by omega⟩ rfl | exact zb_r0 (by omega) rfl)
set_option maxRecDepth 100000 in
set_option maxHeartbeats 4000000 in
theorem k_X11_isCell {l : Launch} {E : zE} {v : Int} {μ : zM} : Ct l E yX11_isCell cX11_isCell 1 (some .boolean) ({ frames := 0, cells := 0, slots := 0, locals := 0 }) [zI v] μ (fun r ν => r = some (zI (zb (0 ≤ v ∧ v < 36))) ∧ ν = μ) := by
  refine Ct.of RX11 [zI v] (by decide +kernel) rfl ⟨rfl, rfl⟩ rfl (Nat.le_of_ble_eq_true rfl) (fun X hX hc0 ha0 => ?_)
  subst hX
  refine z_iload_0 dX11_isCell_0 ?_
  refine z_iflt (tgt := 14) dX11_isCell_1 (by decide) (fun h_1 => ?_) (fun h_1 => ?_)
  · refine z_iconst dX11_isCell_14 (by decide) ?_
    exact z_zret (by decide) dX11_isCell_15 (by first | exact zb_r ⟨by omega, by omega⟩ rfl | exact zb_r0 (by omega) rfl)
  · refine z_iload_0 dX11_isCell_4 ?_
    refine z_bipush dX11_isCell_5 (by decide) ?_
    refine z_icmpge (tgt := 14) dX11_isCell_7 (by decide) (fun h_7 => ?_) (fun h_7 => ?_)
    · refine z_iconst dX11_isCell_14 (by decide) ?_
      exact z_zret (by decide) dX11_isCell_15 (by first | exact zb_r ⟨by omega, by omega⟩ rfl | exact zb_r0 (by omega) rfl)
    · refine z_iconst dX11_isCell_10 (by decide) ?_
      refine z_goto (tgt := 15) dX11_isCell_11 (by decide) ?_
      exact z_zret (by decide) dX11_isCell_15 (by first | exact zb_r ⟨by omega, by omega⟩ rfl | exact zb_r0 (by omega) rfl)
/-- what is left of a noise of v, so many steps away -/
def zFd (v d f : Int) : Int := if d = -1 then 0 else max 0 (v - f * d)
theorem zmul_b {f d F D : Int} (h0 : 0 ≤ f) (h1 : f ≤ F) (h2 : 0 ≤ d) (h3 : d ≤ D) : 0 ≤ f * d ∧ f * d ≤ F * D := ⟨Int.mul_nonneg h0 h2, Int.mul_le_mul h1 h3 h2 (by omega)⟩
/-- how deep behind so many slots -/
def zDp (x : Int) : Int := if x % 6 ≤ 3 then x % 6 else 6 - x % 6
theorem zDp_b (x : Int) : 0 ≤ zDp x ∧ zDp x ≤ 3 := by unfold zDp; split <;> omega
def zfl (μ : zM) (a : Nat) (n v : Int) : zM := fun id j => if id = a ∧ 0 ≤ j ∧ j < n then v else μ id j
theorem zfl_0 {μ : zM} {a : Nat} {v : Int} : zfl μ a 0 v = μ := by funext id j; unfold zfl; rw [if_neg (by omega)]
theorem zfl_s {μ : zM} {a : Nat} {n v : Int} (h : 0 ≤ n) : zup (zfl μ a n v) a n v = zfl μ a (n + 1) v := by
  funext id j
  unfold zup zfl
  by_cases e : id = a
  · by_cases e2 : j = n
    · rw [if_pos ⟨e, e2⟩, if_pos ⟨e, by omega, by omega⟩]
    · rw [if_neg (fun q => e2 q.2)]
      by_cases e3 : 0 ≤ j ∧ j < n
      · rw [if_pos ⟨e, e3⟩, if_pos ⟨e, by omega, by omega⟩]
      · rw [if_neg (fun q => e3 q.2), if_neg (fun q => e3 (by omega))]
  · rw [if_neg (fun q => e q.1), if_neg (fun q => e q.1), if_neg (fun q => e q.1)]
theorem zfl_at {μ : zM} {a : Nat} {n v j : Int} (h0 : 0 ≤ j) (h1 : j < n) : zfl μ a n v a j = v := if_pos ⟨rfl, h0, h1⟩
theorem zfl_ne {μ : zM} {a id : Nat} {n v : Int} (h : id ≠ a) : zfl μ a n v id = μ id := by funext j; exact if_neg (fun q => h q.1)
/-- the cell beside one -/
def zNb (c w : Int) : Int := if w = 0 then (if 6 ≤ c then c - 6 else -1) else if w = 1 then (if c % 6 < 5 then c + 1 else -1) else if w = 2 then (if c < 30 then c + 6 else -1) else (if 0 < c % 6 then c - 1 else -1)
set_option maxRecDepth 100000 in
set_option maxHeartbeats 4000000 in
theorem k_X11_faded {l : Launch} {E : zE} {v d f : Int} {μ : zM} (hv : -1000 ≤ v ∧ v ≤ 1000) (hd : -1 ≤ d ∧ d ≤ 100) (hf : 0 ≤ f ∧ f ≤ 9) : Ct l E yX11_faded cX11_faded 3 (some .int) ({ frames := 1, cells := 0, slots := 0, locals := 21 }) [zI v, zI d, zI f] μ (fun r ν => r = some (zI (zFd v d f)) ∧ ν = μ) := by
  refine Ct.of RX11 [zI v, zI d, zI f] (by decide +kernel) rfl ⟨rfl, rfl⟩ rfl (Nat.le_of_ble_eq_true rfl) (fun X hX hc0 ha0 => ?_)
  subst hX
  refine z_iload_1 dX11_faded_0 ?_
  refine z_iconst dX11_faded_1 (by decide) ?_
  refine z_icmpne (tgt := 9) dX11_faded_2 (by decide) (fun h_2 => ?_) (fun h_2 => ?_)
  · refine z_iconst dX11_faded_9 (by decide) ?_
    refine z_iload_0 dX11_faded_10 ?_
    refine z_iload_2 dX11_faded_11 ?_
    refine z_iload_1 dX11_faded_12 ?_
    refine z_imul dX11_faded_13 (by have := zmul_b hf.1 hf.2 (show 0 ≤ d by omega) hd.2; omega) ?_
    refine z_isub dX11_faded_14 (by have := zmul_b hf.1 hf.2 (show 0 ≤ d by omega) hd.2; omega) ?_
    refine z_max l_X11_188 ⟨Nat.le_of_ble_eq_true rfl, Nat.le_of_ble_eq_true rfl⟩ dX11_faded_15 ?_
    exact z_iret dX11_faded_18 (by refine ⟨?_, rfl⟩; unfold zFd; first | rw [if_pos (by omega)] | rw [if_neg (by omega)])
  · refine z_iconst dX11_faded_5 (by decide) ?_
    refine z_goto (tgt := 18) dX11_faded_6 (by decide) ?_
    exact z_iret dX11_faded_18 (by refine ⟨?_, rfl⟩; unfold zFd; first | rw [if_pos (by omega)] | rw [if_neg (by omega)])
theorem zxor_ge {a : Int} (ha : zin a) : 0 ≤ zxor a 6 ↔ 0 ≤ a := by
  have k : ∀ x : Int32, 0 ≤ x.toInt ↔ x.toBitVec.msb = false := fun x => by
    have := BitVec.msb_eq_toInt (x := x.toBitVec)
    show 0 ≤ x.toBitVec.toInt ↔ _
    rw [this]
    simp
  unfold zxor
  rw [k, Int32.toBitVec_xor, BitVec.msb_xor, show (Int32.ofInt 6).toBitVec.msb = false by decide, Bool.xor_false, ← k, zi_t ha]
theorem ztmod {a : Int} : a.tmod 6 = if 0 ≤ a then a % 6 else -((-a) % 6) := by
  split
  next h => exact Int.tmod_eq_emod_of_nonneg h
  next h =>
    have := Int.neg_tmod a 6
    rw [Int.tmod_eq_emod_of_nonneg (by omega : 0 ≤ -a)] at this
    omega
set_option maxRecDepth 100000 in
set_option maxHeartbeats 4000000 in
theorem k_J9_floorMod_7cf53 {l : Launch} {E : zE} {x : Int} {μ : zM} (hx : -1000 ≤ x ∧ x ≤ 1000) : Ct l E yJ9_floorMod_7cf53 cJ9_floorMod_7cf53 3 (some .int) ({ frames := 0, cells := 0, slots := 0, locals := 0 }) [zI x, zI 6] μ (fun r ν => r = some (zI (x % 6)) ∧ ν = μ) := by
  refine Ct.of RJ9 [zI x, zI 6, zU] (by decide +kernel) rfl ⟨rfl, rfl⟩ rfl (Nat.le_of_ble_eq_true rfl) (fun X hX hc0 ha0 => ?_)
  subst hX
  refine z_iload_0 dJ9_floorMod_7cf53_0 ?_
  refine z_iload_1 dJ9_floorMod_7cf53_1 ?_
  refine z_iremT dJ9_floorMod_7cf53_2 (by omega) ?_
  refine z_istore_2 rfl dJ9_floorMod_7cf53_3 ?_
  refine z_iload_0 dJ9_floorMod_7cf53_4 ?_
  refine z_iload_1 dJ9_floorMod_7cf53_5 ?_
  refine z_ixor dJ9_floorMod_7cf53_6 ?_
  refine z_ifge (tgt := 18) dJ9_floorMod_7cf53_7 (by decide) (fun h_7 => ?_) (fun h_7 => ?_)
  · have h_8 := (zxor_ge (a := x) ⟨by omega, by omega⟩).mp h_7
    refine z_iload_2 dJ9_floorMod_7cf53_18 ?_
    exact z_iret dJ9_floorMod_7cf53_19 (by refine ⟨?_, rfl⟩; have e := ztmod (a := x); (first | rw [if_pos (by omega)] at e | rw [if_neg (by omega)] at e); exact congrArg (fun z => (some (zI z) : Option zAV)) (by omega))
  · have h_8 : ¬ 0 ≤ x := fun q => by have := (zxor_ge (a := x) ⟨by omega, by omega⟩).mpr q; omega
    refine z_iload_2 dJ9_floorMod_7cf53_10 ?_
    refine z_ifeq (tgt := 18) dJ9_floorMod_7cf53_11 (by decide) (fun h_11 => ?_) (fun h_11 => ?_)
    · refine z_iload_2 dJ9_floorMod_7cf53_18 ?_
      exact z_iret dJ9_floorMod_7cf53_19 (by refine ⟨?_, rfl⟩; have e := ztmod (a := x); (first | rw [if_pos (by omega)] at e | rw [if_neg (by omega)] at e); exact congrArg (fun z => (some (zI z) : Option zAV)) (by omega))
    · refine z_iload_2 dJ9_floorMod_7cf53_14 ?_
      refine z_iload_1 dJ9_floorMod_7cf53_15 ?_
      refine z_iadd dJ9_floorMod_7cf53_16 (by rw [ztmod]; split <;> omega) ?_
      exact z_iret dJ9_floorMod_7cf53_17 (by refine ⟨?_, rfl⟩; have e := ztmod (a := x); (first | rw [if_pos (by omega)] at e | rw [if_neg (by omega)] at e); exact congrArg (fun z => (some (zI z) : Option zAV)) (by omega))
set_option maxRecDepth 100000 in
set_option maxHeartbeats 4000000 in
theorem k_X11_deep {l : Launch} {E : zE} {a b : Int} {μ : zM} (ha : 0 ≤ a ∧ a ≤ 100) (hb : -1 ≤ b ∧ b ≤ 100) : Ct l E yX11_deep cX11_deep 3 (some .int) ({ frames := 1, cells := 0, slots := 0, locals := 22 }) [zI a, zI b] μ (fun r ν => r = some (zI (zDp (b - a))) ∧ ν = μ) := by
  refine Ct.of RX11 [zI a, zI b, zU] (by decide +kernel) rfl ⟨rfl, rfl⟩ rfl (Nat.le_of_ble_eq_true rfl) (fun X hX hc0 ha0 => ?_)
  subst hX
  refine z_iload_1 dX11_deep_0 ?_
  refine z_iload_0 dX11_deep_1 ?_
  refine z_isub dX11_deep_2 (by omega) ?_
  refine z_bipush dX11_deep_3 (by decide) ?_
  refine z_callS2 (k_J9_floorMod_7cf53 (by omega)) m_J9_floorMod_7cf53 l_X11_339 (Nat.le_of_ble_eq_true rfl) ⟨Nat.le_of_ble_eq_true rfl, Nat.le_of_ble_eq_true rfl⟩ ⟨rfl, rfl⟩ dX11_deep_5 (fun r μ1 hp => ?_)
  obtain ⟨rfl, hv⟩ := hp
  replace hv := hv.symm
  subst hv
  refine z_istore_2 rfl dX11_deep_8 ?_
  refine z_iload_2 dX11_deep_9 ?_
  refine z_iconst dX11_deep_10 (by decide) ?_
  refine z_icmpgt (tgt := 18) dX11_deep_11 (by decide) (fun h_11 => ?_) (fun h_11 => ?_)
  · refine z_bipush dX11_deep_18 (by decide) ?_
    refine z_iload_2 dX11_deep_20 ?_
    refine z_isub dX11_deep_21 (by omega) ?_
    exact z_iret dX11_deep_22 (by refine ⟨?_, rfl⟩; unfold zDp; first | rw [if_pos (by omega)] | rw [if_neg (by omega)])
  · refine z_iload_2 dX11_deep_14 ?_
    refine z_goto (tgt := 22) dX11_deep_15 (by decide) ?_
    exact z_iret dX11_deep_22 (by refine ⟨?_, rfl⟩; unfold zDp; first | rw [if_pos (by omega)] | rw [if_neg (by omega)])
set_option maxRecDepth 100000 in
set_option maxHeartbeats 4000000 in
theorem k_J7_fill_53178 {l : Launch} {E : zE} {a n : Nat} {v : Int} {μ : zM} (ha : zl a = (20, n)) (hn : n < 5000) : Ct l E yJ7_fill_53178 cJ7_fill_53178 4 none ({ frames := 0, cells := 0, slots := 0, locals := 0 }) [zR a, zI v] μ (fun r ν => r = none ∧ ν = zfl μ a n v) := by
  refine Ct.of RJ7 [zR a, zI v, zU, zU] (by decide +kernel) rfl ⟨rfl, rfl⟩ rfl (Nat.le_of_ble_eq_true rfl) (fun X hX hc0 ha0 => ?_)
  subst hX
  have L5 : ∀ (k : Nat) (i : Int), 0 ≤ i → i ≤ n → n - i < k → MW X E cJ7_fill_53178 RJ7 ({ frames := 0, cells := 0, slots := 0, locals := 0 }) none (fun r ν => r = none ∧ ν = zfl μ a n v) 5 [zR a, zI v, zI i, zI n] [] (zfl μ a i v) := by
    intro k
    induction k with
    | zero => intro i h1 h2 h3; omega
    | succ k ih =>
      intro i h1 h2 h3
      refine z_iload_2 dJ7_fill_53178_5 ?_
      refine z_iload_3 dJ7_fill_53178_6 ?_
      refine z_icmpge (tgt := 20) dJ7_fill_53178_7 (by decide) (fun h_7 => ?_) (fun h_7 => ?_)
      · exact z_vret dJ7_fill_53178_20 (by refine ⟨rfl, ?_⟩; rw [show i = n by omega])
      · refine z_aload_0 dJ7_fill_53178_10 ?_
        refine z_iload_2 dJ7_fill_53178_11 ?_
        refine z_iload_1 dJ7_fill_53178_12 ?_
        refine z_iast ha (by omega) (by omega) dJ7_fill_53178_13 ?_
        refine z_iinc_2 rfl dJ7_fill_53178_14 (by omega) ?_
        refine z_goto (tgt := 5) dJ7_fill_53178_17 (by decide) ?_
        refine z_eqs (ih (i + 1) (by omega) (by omega) (by omega)) rfl rfl rfl (zfl_s (by omega))
  refine z_iconst dJ7_fill_53178_0 (by decide) ?_
  refine z_istore_2 rfl dJ7_fill_53178_1 ?_
  refine z_aload_0 dJ7_fill_53178_2 ?_
  refine z_alen (Or.inl ha) (by omega) dJ7_fill_53178_3 ?_
  refine z_istore_3 rfl dJ7_fill_53178_4 ?_
  refine z_eqs (L5 (n + 1) 0 (by omega) (by omega) (by omega)) rfl rfl rfl zfl_0.symm
set_option maxRecDepth 100000 in
set_option maxHeartbeats 4000000 in
theorem k_X6_beside {l : Launch} {E : zE} {c w : Int} {μ : zM} (hc : 0 ≤ c ∧ c < 36) : Ct l E yX6_beside cX6_beside 3 (some .int) ({ frames := 0, cells := 0, slots := 0, locals := 0 }) [zI c, zI w] μ (fun r ν => r = some (zI (zNb c w)) ∧ ν = μ) := by
  refine Ct.of RX6 [zI c, zI w, zU] (by decide +kernel) rfl ⟨rfl, rfl⟩ rfl (Nat.le_of_ble_eq_true rfl) (fun X hX hc0 ha0 => ?_)
  subst hX
  refine z_iload_0 dX6_beside_0 ?_
  refine z_bipush dX6_beside_1 (by decide) ?_
  refine z_irem dX6_beside_3 (by omega) (by omega) ?_
  refine z_istore_2 rfl dX6_beside_4 ?_
  refine z_iload_1 dX6_beside_5 ?_
  by_cases hs_6_0 : w = 0
  · subst hs_6_0
    refine z_tabIn (tgt := 32) dX6_beside_6 (by decide) (by decide) rfl (by decide) ?_
    refine z_iload_0 dX6_beside_32 ?_
    refine z_bipush dX6_beside_33 (by decide) ?_
    refine z_icmplt (tgt := 45) dX6_beside_35 (by decide) (fun h_35 => ?_) (fun h_35 => ?_)
    · refine z_iconst dX6_beside_45 (by decide) ?_
      exact z_iret dX6_beside_46 (⟨congrArg (fun z => (some (zI z) : Option zAV)) (by unfold zNb; repeat' split; all_goals omega), rfl⟩)
    · refine z_iload_0 dX6_beside_38 ?_
      refine z_bipush dX6_beside_39 (by decide) ?_
      refine z_isub dX6_beside_41 (by omega) ?_
      refine z_goto (tgt := 46) dX6_beside_42 (by decide) ?_
      exact z_iret dX6_beside_46 (⟨congrArg (fun z => (some (zI z) : Option zAV)) (by unfold zNb; repeat' split; all_goals omega), rfl⟩)
  by_cases hs_6_1 : w = 1
  · subst hs_6_1
    refine z_tabIn (tgt := 47) dX6_beside_6 (by decide) (by decide) rfl (by decide) ?_
    refine z_iload_2 dX6_beside_47 ?_
    refine z_iconst dX6_beside_48 (by decide) ?_
    refine z_icmpge (tgt := 58) dX6_beside_49 (by decide) (fun h_49 => ?_) (fun h_49 => ?_)
    · refine z_iconst dX6_beside_58 (by decide) ?_
      exact z_iret dX6_beside_59 (⟨congrArg (fun z => (some (zI z) : Option zAV)) (by unfold zNb; repeat' split; all_goals omega), rfl⟩)
    · refine z_iload_0 dX6_beside_52 ?_
      refine z_iconst dX6_beside_53 (by decide) ?_
      refine z_iadd dX6_beside_54 (by omega) ?_
      refine z_goto (tgt := 59) dX6_beside_55 (by decide) ?_
      exact z_iret dX6_beside_59 (⟨congrArg (fun z => (some (zI z) : Option zAV)) (by unfold zNb; repeat' split; all_goals omega), rfl⟩)
  by_cases hs_6_2 : w = 2
  · subst hs_6_2
    refine z_tabIn (tgt := 60) dX6_beside_6 (by decide) (by decide) rfl (by decide) ?_
    refine z_iload_0 dX6_beside_60 ?_
    refine z_bipush dX6_beside_61 (by decide) ?_
    refine z_icmpge (tgt := 73) dX6_beside_63 (by decide) (fun h_63 => ?_) (fun h_63 => ?_)
    · refine z_iconst dX6_beside_73 (by decide) ?_
      exact z_iret dX6_beside_74 (⟨congrArg (fun z => (some (zI z) : Option zAV)) (by unfold zNb; repeat' split; all_goals omega), rfl⟩)
    · refine z_iload_0 dX6_beside_66 ?_
      refine z_bipush dX6_beside_67 (by decide) ?_
      refine z_iadd dX6_beside_69 (by omega) ?_
      refine z_goto (tgt := 74) dX6_beside_70 (by decide) ?_
      exact z_iret dX6_beside_74 (⟨congrArg (fun z => (some (zI z) : Option zAV)) (by unfold zNb; repeat' split; all_goals omega), rfl⟩)
  refine z_tabOut (tgt := 75) dX6_beside_6 (by omega) (by decide) ?_
  refine z_iload_2 dX6_beside_75 ?_
  refine z_ifle (tgt := 85) dX6_beside_76 (by decide) (fun h_76 => ?_) (fun h_76 => ?_)
  · refine z_iconst dX6_beside_85 (by decide) ?_
    exact z_iret dX6_beside_86 (⟨congrArg (fun z => (some (zI z) : Option zAV)) (by unfold zNb; repeat' split; all_goals omega), rfl⟩)
  · refine z_iload_0 dX6_beside_79 ?_
    refine z_iconst dX6_beside_80 (by decide) ?_
    refine z_isub dX6_beside_81 (by omega) ?_
    refine z_goto (tgt := 86) dX6_beside_82 (by decide) ?_
    exact z_iret dX6_beside_86 (⟨congrArg (fun z => (some (zI z) : Option zAV)) (by unfold zNb; repeat' split; all_goals omega), rfl⟩)
