section ZMK4
variable {X : zX} {E : zE} {cc : ByteArray} {own : String} {rm : Room} {post : zM → Nat → Prop} {pc : Nat} {ls st : List zAV} {μ : zM} {n kc ks : Nat}
theorem k_iload1 {a0 : zAV} {tl : List zAV} {z : Int} (hd : decode cc pc = .ok (.iload_n 1, 1)) (kk : MK X E cc own rm post (pc + 1) (a0 :: zI z :: tl) (zI z :: st) μ n kc ks) : MK X E cc own rm post pc (a0 :: zI z :: tl) st μ n kc ks := k_stk kk (fun H locs la hC hla kk => lv_iload_n hC.1 hC.2.1 hd rfl (hla.2.2.2 1 (zI z) rfl (by intro h; cases h)) kk)
theorem k_istore1 {a0 b0 : zAV} {tl : List zAV} {z : Int} (hw : zwide a0 = false) (hd : decode cc pc = .ok (.istore_n 1, 1)) (kk : MK X E cc own rm post (pc + 1) (a0 :: zI z :: tl) st μ n kc ks) : MK X E cc own rm post pc (a0 :: b0 :: tl) (zI z :: st) μ n kc ks := fun hC hy H locs la hM hS hla =>
  lv_istore_n hC.1 hC.2.1 hd rfl (zLh_has hla) (by rw [← hla.1]; show 1 < _; simp only [List.length_cons]; omega) rfl (fun la2 hla2 => kk hC hy H locs la2 hM hS (zLh_1 (i := 1) hla (fun j w q e => by
    have : j = 0 := by omega
    subst this
    cases (Option.some.inj (show some a0 = some w from e))
    exact hw) hla2))
theorem k_iinc1 {a0 : zAV} {tl : List zAV} {m z : Int} (hw : zwide a0 = false) (hd : decode cc pc = .ok (.iinc 1 m, 3)) (kk : MK X E cc own rm post (pc + 3) (a0 :: zI (z + m) :: tl) st μ n kc ks) : MK X E cc own rm post pc (a0 :: zI z :: tl) st μ n kc ks := fun hC hy H locs la hM hS hla => by
  obtain ⟨k, hk⟩ := List.getElem?_of_mem (zpr_mem.mpr ⟨1, zI z, rfl, fun q => (by cases q), rfl⟩ : _ ∈ zpr (zad E) (a0 :: zI z :: tl) 0)
  rw [Nat.zero_add] at hk
  refine lv_iinc hC.1 hC.2.1 hd (zLh_has hla) hk (v := Int32.ofInt (z + m)) (by rw [Int32.ofInt_add]) ?_ rfl (fun la2 hla2 => kk hC hy H locs la2 hM hS (zLh_1 (i := 1) hla (fun j w q e => by
    have : j = 0 := by omega
    subst this
    cases (Option.some.inj (show some a0 = some w from e))
    exact hw) hla2))
  rw [← hla.1]
  show 1 < _
  simp only [List.length_cons]
  omega
theorem k_icmpge {a b off : Int} {tgt : Nat} (ha : zin a) (hb : zin b) (hd : decode cc pc = .ok (.if_icmp .ge off, 3)) (ht : (pc : Int) + off = (tgt : Int)) (kt : b ≤ a → MK X E cc own rm post tgt ls st μ n kc ks) (kf : a < b → MK X E cc own rm post (pc + 3) ls st μ n kc ks) : MK X E cc own rm post pc ls (zI b :: zI a :: st) μ n kc ks := fun hC hy H locs la hM hS hla => lv_icmp_ge hC.1 hC.2.1 hd ht (fun q => kt ((zi_le hb ha).mp q) hC hy H locs la hM hS hla) (fun q => kf (Int.not_le.mp fun r => q ((zi_le hb ha).mpr r)) hC hy H locs la hM hS hla)
theorem k_goto {off : Int} {tgt : Nat} (hd : decode cc pc = .ok (.goto off, 3)) (ht : (pc : Int) + off = (tgt : Int)) (kk : MK X E cc own rm post tgt ls st μ n kc ks) : MK X E cc own rm post pc ls st μ n kc ks := k_stk kk (fun H locs la hC hla kk => lv_goto hC.1 hC.2.1 hd ht kk)
theorem k_getF {id ci m9 k idx : Nat} (j : Nat) (fl : zFl own idx ci k) (hl : zl id = (ci, m9)) (hr : (zrefs ci)[k]? = some true) (hid : id < n) (hj : μ id (k : Int) = (j : Int)) (hd : decode cc pc = .ok (.getfield idx, 3)) (kk : MK X E cc own rm post (pc + 3) ls (zR j :: st) μ n kc ks) : MK X E cc own rm post pc ls (zR id :: st) μ n kc ks := fun hC hy H locs la hM hS hla => by
  obtain ⟨q, hq, hk, hw⟩ := fl
  obtain ⟨o1, -, o3, o4, o5⟩ := zcl_ok ci q hq
  exact va_get (D := zD E) (ci := ci) (C := q.1) (T := q.2.1) (N := q.2.2) hC.1 hC.2.1 hC.2.2.2.1 o1 hC.2.2.1 hC.2.2.2.2.1.1 hM.1 id (by rw [zws_at hid, zeq_o hl o5]) hq k hk (hC.2.2.2.1 _ hw) (fun _ h => h) (v := .ref (zad E j)) (by rw [zfs_at hr, Nat.zero_add, hj, zr_n]; rfl) hd (kk hC hy H locs la hM hS hla)
theorem k_anew {Z idx : Nat} (hcl : Cond.classLink own idx RX2 ∈ LW) (hl : zl n = (23, Z)) (hb : ∀ j : Nat, μ n (j : Int) = -1) (hz : Z < 10000) (hr : kc + 1 ≤ rm.cells ∧ ks + Z ≤ rm.slots) (hd : decode cc pc = .ok (.anewarray idx, 3)) (kk : MK X E cc own rm post (pc + 3) ls (zR n :: st) μ (n + 1) (kc + 1) (ks + Z)) : MK X E cc own rm post pc ls (zI (Z : Int) :: st) μ n kc ks := fun hC hy H locs la hM hS hla => by
  have hn : n < zN := zl_lt hl (by decide)
  have hcZ : (Int32.ofInt (Z : Int)).toNatClampNeg = Z := by rw [zi_c ⟨by omega, by omega⟩]; omega
  refine W.anew (C := RX2) (g := F0 X.2.2.2.2.1 pc la ((zI (Z : Int) :: st).map (zv (zad E)))) (n := Int32.ofInt (Z : Int)) (rest := st.map (zv (zad E))) hC.1 hC.2.1 hC.2.2.1 (hC.2.2.2.1 _ hcl) (va_AO.use hC.2.2.2.2.2.2.2.1.2) rfl hd rfl ?_ (by rw [hcZ]; omega) hr.1 (by rw [hcZ]; exact hr.2) (fun cA kA comp f1 f2 f3 f4 => ?_)
  · rw [← zi_0, zi_lt ⟨by omega, by omega⟩ (by decide)]; omega
  · obtain ⟨kA2, comp2, g1, g2, g3, g4⟩ := (hC.2.2.2.2.1.1.2 3 (zcs E 3, .object RX2) rfl).2
    have hc3 : cA = zcs E 3 := Option.some.inj (f1.symm.trans g4)
    rw [hcZ]
    refine W.eq (g2 := F0 X.2.2.2.2.1 (pc + 3) la ((zR n :: st).map (zv (zad E)))) (by rw [hM.2.2]; rfl) (kk hC (by rw [← Nat.add_assoc, hy, hC.2.2.2.2.2.1 (n + 1) (by omega), hC.2.2.2.2.2.1 n (by omega)]; omega) _ locs la (k9Ms hC.2.2.2.2.2.1 hn hM (hC.2.2.2.2.1.2.2.2.1 _ ?_) (by rw [Array.size_push, hM.2.2]) (fun q hq => by rw [Array.getElem?_push, if_neg (by rw [hM.2.2]; omega)]) ?_) (k9S hS (Array.size_push _) (fun q hq => by rw [Array.getElem?_push, if_neg (Nat.ne_of_lt hq)])) hla)
    · rw [← hM.2.2]; exact hS.1
    · have e9 : zeq E (zl n) (μ n) = .inl (zcs E 3, Z, .inr (.inr (.inr (.inr (fun j => zr (zad E) (μ n j)))))) := by rw [hl]; rfl
      rw [e9]
      show (H.push _)[zad E n]? = some (arrV (zcs E 3) Z (fun j => va_rf (zr (zad E) (μ n (j : Int)))))
      rw [← hM.2.2, Array.getElem?_push_size, hc3, arrV_new]
      exact congrArg some (arrV_cg (fun j _ => by rw [hb j]; rfl))
theorem k_aast {id Z v : Nat} {i : Int} (hl : zl id = (23, Z)) (hv : zl v = (2, 4)) (hid : id < n) (hvn : v < n) (hn0 : n ≤ zN) (h0 : 0 ≤ i) (h1 : i < Z) (hi : zin i) (hd : decode cc pc = .ok (.aastore, 1)) (kk : MK X E cc own rm post (pc + 1) ls st (zup μ id i (v : Int)) n kc ks) : MK X E cc own rm post pc ls (zR v :: zI i :: zR id :: st) μ n kc ks := fun hC hy H locs la hM hS hla => by
  have e9 : ∀ f : Int → Int, zeq E (zl id) f = .inl (zcs E 3, Z, .inr (.inr (.inr (.inr (fun j => zr (zad E) (f j)))))) := fun f => by rw [hl]; rfl
  refine va_astq (D := zD E) (f := fun j => zr (zad E) (μ id (j : Int))) hC.1 hC.2.1 hC.2.2.2.2.1.1 hM.1 hM.2.1 hS id 3 v 2 (r := (RX2, TX2, 4)) (by rw [zws_at hid, e9]) rfl (by rw [zws_at hvn, zeq_o hv (by decide)]) rfl (zi_in h0 h1 hi) hd (fun H1 locs1 hP1 hD1 hS1 => ?_)
  have hws : (zws E μ n).set id (zad E id, .inl (zcs E 3, Z, .inr (.inr (.inr (.inr (va_up (fun j => zr (zad E) (μ id (j : Int))) (Int32.ofInt i).toNatClampNeg (some (zad E v)))))))) = zws E (zup μ id i (v : Int)) n := by
    rw [← zws_set, e9]
    refine congrArg (fun f => (zws E μ n).set id (zad E id, .inl (zcs E 3, Z, .inr (.inr (.inr (.inr f)))))) (funext fun j => ?_)
    rw [zi_c hi]
    unfold va_up
    by_cases e : j = i.toNat
    · rw [if_pos e, show ((j : Nat) : Int) = i by omega, zup_eq, zr_n]
    · rw [if_neg e, zup_ne (Or.inr (by omega))]
  rw [hws] at hP1 hD1
  exact kW_size (fun hup => kk hC hy H1 locs1 la ⟨hP1, hD1, k9sz hC.2.2.2.2.2.1 hn0 (by omega) hP1 (by rw [← hy]; exact hup)⟩ hS1 hla)
end ZMK4
