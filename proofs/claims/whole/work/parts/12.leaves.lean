set_option maxRecDepth 100000 in
set_option maxHeartbeats 4000000 in
theorem k_X11_isIn {l : Launch} {E : zE} {v lo hi : Int} {μ : zM} : Ct l E yX11_isIn cX11_isIn 3 (some .boolean) ({ frames := 0, cells := 0, slots := 0, locals := 0 }) [zI v, zI lo, zI hi] μ (fun r ν => r = some (zI (zb (lo ≤ v ∧ v ≤ hi))) ∧ ν = μ) := by
  refine Ct.of RX11 [zI v, zI lo, zI hi] (by decide) rfl ⟨rfl, rfl⟩ rfl (Nat.le_of_ble_eq_true rfl) (fun X hX hc0 ha0 => ?_)
  subst hX
  refine z_iload_0 dX11_isIn_0 ?_
  refine z_iload_1 dX11_isIn_1 ?_
  refine z_icmplt (tgt := 14) dX11_isIn_2 (by decide) (fun h_2 => ?_) (fun h_2 => ?_)
  · refine z_iconst dX11_isIn_14 (by decide) ?_
    exact z_zret (by decide) dX11_isIn_15 (by first | exact zb_r ⟨by omega, by omega⟩ rfl | exact zb_r0 (by omega) rfl)
  · refine z_iload_0 dX11_isIn_5 ?_
    refine z_iload_2 dX11_isIn_6 ?_
    refine z_icmpgt (tgt := 14) dX11_isIn_7 (by decide) (fun h_7 => ?_) (fun h_7 => ?_)
    · refine z_iconst dX11_isIn_14 (by decide) ?_
      exact z_zret (by decide) dX11_isIn_15 (by first | exact zb_r ⟨by omega, by omega⟩ rfl | exact zb_r0 (by omega) rfl)
    · refine z_iconst dX11_isIn_10 (by decide) ?_
      refine z_goto (tgt := 15) dX11_isIn_11 (by decide) ?_
      exact z_zret (by decide) dX11_isIn_15 (by first | exact zb_r ⟨by omega, by omega⟩ rfl | exact zb_r0 (by omega) rfl)
set_option maxRecDepth 100000 in
set_option maxHeartbeats 4000000 in
theorem k_X11_isCell {l : Launch} {E : zE} {v : Int} {μ : zM} : Ct l E yX11_isCell cX11_isCell 1 (some .boolean) ({ frames := 0, cells := 0, slots := 0, locals := 0 }) [zI v] μ (fun r ν => r = some (zI (zb (0 ≤ v ∧ v < 36))) ∧ ν = μ) := by
  refine Ct.of RX11 [zI v] (by decide) rfl ⟨rfl, rfl⟩ rfl (Nat.le_of_ble_eq_true rfl) (fun X hX hc0 ha0 => ?_)
  subst hX
  refine z_iload_0 dX11_isCell_0 ?_
  refine z_iflt (tgt := 14) dX11_isCell_1 (by decide) (fun h_1 => ?_) (fun h_1 => ?_)
  · refine z_iconst dX11_isCell_14 (by decide) ?_
    exact z_zret (by decide) dX11_isCell_15 (by first | exact zb_r ⟨by omega, by omega⟩ rfl | exact zb_r0 (by omega) rfl)
  · refine z_iload_0 dX11_isCell_4 ?_
    refine z_bipush dX11_isCell_5 (by decide) ?_
    refine z_icmpge (tgt := 14) dX11_isCell_7 (by decide) (fun h_7 => ?_) (fun h_7 => ?_)
    · refine z_iconst dX11_isCell_14 (by decide) ?_
      exact z_zret (by decide) dX11_isCell_15 (by first | exact zb_r ⟨by omega, by omega⟩ rfl | exact zb_r0 (by omega) rfl)
    · refine z_iconst dX11_isCell_10 (by decide) ?_
      refine z_goto (tgt := 15) dX11_isCell_11 (by decide) ?_
      exact z_zret (by decide) dX11_isCell_15 (by first | exact zb_r ⟨by omega, by omega⟩ rfl | exact zb_r0 (by omega) rfl)
