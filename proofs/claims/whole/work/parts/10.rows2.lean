/-! FIELDS, ARRAYS, CALLS, over the light layer -/
theorem zin_n {E : zE} {id : Nat} {q : Nat × Nat} (hn : zn E = zN) (h : zl id = q) (hq : q.1 ≠ 99) : id < zn E := by rw [hn]; exact zl_lt (a := q.1) (n := q.2) (by rw [h]) hq
set_option maxRecDepth 20000 in
theorem zmx_s : Cond.static Lib.Math.max.name ∈ LW := lw_m3 29 rfl rfl
set_option maxRecDepth 20000 in
theorem zmx_c : Cond.code Lib.Math.max.name Lib.Math.max.code 2 (some .int) ∈ LW := lw_m3 30 rfl rfl
set_option maxRecDepth 20000 in
theorem zmn_s : Cond.static Lib.Math.min.name ∈ LW := lw_m3 152 rfl rfl
set_option maxRecDepth 20000 in
theorem zmn_c : Cond.code Lib.Math.min.name Lib.Math.min.code 2 (some .int) ∈ LW := lw_m3 153 rfl rfl
set_option maxRecDepth 20000 in
theorem zm_i : Cond.initialized "java/lang/Math" ∈ LW := lw_m0 20 rfl rfl
set_option maxRecDepth 20000 in
theorem zac_n : Cond.native arraycopyName ∈ LW := lw_m2 229 rfl rfl
set_option maxRecDepth 20000 in
theorem zac_s : Cond.static arraycopyName ∈ LW := lw_m2 228 rfl rfl
set_option maxRecDepth 20000 in
theorem zac_i : Cond.initialized "java/lang/System" ∈ LW := lw_m0 18 rfl rfl
theorem zcl_ok : ∀ (ci : Nat) (q : vw_C), vwCl[ci]? = some q → (∀ w ∈ u_ws q.1 q.2.1 q.2.2, w ∈ LW) ∧ (∃ ty0 : Nat → FieldType, ∀ k, k < q.2.2 → parseFieldDescriptor (q.2.1 k).2.2.1 = some (ty0 k)) ∧ (∀ a, a < q.2.2 → ∀ b, b < q.2.2 → a ≠ b → (q.2.1 a).2.1 ≠ (q.2.1 b).2.1) ∧ q.2.2 = (zrefs ci).length ∧ ci < 13
  | 0, q, h => by cases (Option.some.inj h); exact ⟨u_0, ⟨tyX0, tyX0_ok⟩, nmX0, rfl, by decide⟩
  | 1, q, h => by cases (Option.some.inj h); exact ⟨u_1, ⟨tyX1, tyX1_ok⟩, nmX1, rfl, by decide⟩
  | 2, q, h => by cases (Option.some.inj h); exact ⟨u_2, ⟨tyX2, tyX2_ok⟩, nmX2, rfl, by decide⟩
  | 3, q, h => by cases (Option.some.inj h); exact ⟨u_3, ⟨tyX3, tyX3_ok⟩, nmX3, rfl, by decide⟩
  | 4, q, h => by cases (Option.some.inj h); exact ⟨u_4, ⟨tyX4, tyX4_ok⟩, nmX4, rfl, by decide⟩
  | 5, q, h => by cases (Option.some.inj h); exact ⟨u_5, ⟨tyX5, tyX5_ok⟩, nmX5, rfl, by decide⟩
  | 6, q, h => by cases (Option.some.inj h); exact ⟨u_6, ⟨tyX6, tyX6_ok⟩, nmX6, rfl, by decide⟩
  | 7, q, h => by cases (Option.some.inj h); exact ⟨u_7, ⟨tyX7, tyX7_ok⟩, nmX7, rfl, by decide⟩
  | 8, q, h => by cases (Option.some.inj h); exact ⟨u_8, ⟨tyX8, tyX8_ok⟩, nmX8, rfl, by decide⟩
  | 9, q, h => by cases (Option.some.inj h); exact ⟨u_9, ⟨tyX9, tyX9_ok⟩, nmX9, rfl, by decide⟩
  | 10, q, h => by cases (Option.some.inj h); exact ⟨u_10, ⟨tyX10, tyX10_ok⟩, nmX10, rfl, by decide⟩
  | 11, q, h => by cases (Option.some.inj h); exact ⟨u_11, ⟨tyX11, tyX11_ok⟩, nmX11, rfl, by decide⟩
  | 12, q, h => by cases (Option.some.inj h); exact ⟨u_12, ⟨tyX12, tyX12_ok⟩, nmX12, rfl, by decide⟩
  | n + 13, q, h => by simp [vwCl] at h
/-- field k of class ci is of type ty and may be written everywhere -/
def zPl (ci k : Nat) (ty : FieldType) : Prop := ∃ q : vw_C, vwCl[ci]? = some q ∧ parseFieldDescriptor (q.2.1 k).2.2.1 = some ty ∧ (q.2.1 k).2.2.2 = false
theorem zeq_o {E : zE} {id ci n : Nat} {f : Int → Int} (h : zl id = (ci, n)) (hc : ci < 13) : zeq E (zl id) f = .inr (ci, zfs (zad E) f (zrefs ci) 0) := by rw [h]; unfold zeq; rw [if_pos hc]
theorem zeq_20 {E : zE} {id n : Nat} {f : Int → Int} (h : zl id = (20, n)) : zeq E (zl id) f = .inl (zcs E 0, n, .inl (fun j => Int32.ofInt (f j))) := by rw [h]; rfl
theorem zeq_21 {E : zE} {id n : Nat} {f : Int → Int} (h : zl id = (21, n)) : zeq E (zl id) f = .inl (zcs E 1, n, .inl (fun j => Int32.ofInt (f j))) := by rw [h]; rfl
theorem zeq_22 {E : zE} {id n : Nat} {f : Int → Int} (h : zl id = (22, n)) : zeq E (zl id) f = .inl (zcs E 2, n, .inr (.inr (.inr (.inr (fun j => zr (zad E) (f j)))))) := by rw [h]; rfl
theorem zeq_23 {E : zE} {id n : Nat} {f : Int → Int} (h : zl id = (23, n)) : zeq E (zl id) f = .inl (zcs E 3, n, .inr (.inr (.inr (.inr (fun j => zr (zad E) (f j)))))) := by rw [h]; rfl
theorem zr_n {ad : Nat → Nat} {k : Nat} : zr ad ((k : Nat) : Int) = some (ad k) := by unfold zr; rw [if_neg (by omega)]; simp
theorem zupd {f : Int → Int} {i v : Int} (h : 0 ≤ i) : upd (fun j : Nat => Int32.ofInt (f (j : Int))) i.toNat (Int32.ofInt v) = fun j : Nat => Int32.ofInt ((fun x => if x = i then v else f x) (j : Int)) := by
  funext j
  unfold upd
  by_cases e : j = i.toNat
  · rw [if_pos e]
    show _ = Int32.ofInt (if (j : Int) = i then v else f j)
    rw [if_pos (by omega)]
  · rw [if_neg e]
    show _ = Int32.ofInt (if (j : Int) = i then v else f j)
    rw [if_neg (by omega)]
theorem zup_self {μ : zM} {id : Nat} {i v : Int} : zup μ id i v id = fun x => if x = i then v else μ id x := by funext x; simp [zup]
/-- a number is put where no final, no row of rows stands -/
theorem zC_up {μ : zM} {id : Nat} {i v : Int} (hc : zC μ) (hv : zin v) (h1 : ∀ (k o : Nat), zoff (zl id).1 k = some o → i ≠ (k : Int)) (h2 : (zl id).1 ≠ 22) (h3 : (zl id).1 ≠ 23) (h4 : (zl id).1 = 21 → v = 0 ∨ v = 1) : zC (zup μ id i v) := by
  obtain ⟨c1, c2, c3, c4, c5⟩ := hc
  refine ⟨fun a j => ?_, fun a k o h => ?_, fun a j n h hj => ?_, fun a j n h hj => ?_, fun a n j h => ?_⟩
  · unfold zup; split; exact hv; exact c1 a j
  · rw [zup_ne]; exact c2 a k o h
    by_cases e : a = id
    · subst e; exact Or.inr (Ne.symm (h1 k o h))
    · exact Or.inl e
  · rw [zup_id]; exact c3 a j n h hj
    rintro rfl; exact h2 (by rw [h])
  · rw [zup_id]; exact c4 a j n h hj
    rintro rfl; exact h3 (by rw [h])
  · unfold zup
    split
    next e => exact h4 (by rw [← e.1, h])
    next => exact c5 a n j h
theorem zoff_arr {q : Nat} (h : 13 ≤ q) (k : Nat) : zoff q k = none := by
  obtain ⟨r, rfl⟩ : ∃ r, q = r + 13 := ⟨q - 13, by omega⟩
  rfl
theorem zchar_all : ∀ n : Nat, n < 256 → narrow .char (.int (Int32.ofInt (n : Int))) = .int (Int32.ofInt (n : Int)) := by decide +kernel
theorem zchar {z : Int} (h0 : 0 ≤ z) (h1 : z < 256) : narrow .char (.int (Int32.ofInt z)) = .int (Int32.ofInt z) := by
  have := zchar_all z.toNat (by omega)
  rwa [show ((z.toNat : Nat) : Int) = z by omega] at this
theorem zbyte_all : ∀ n : Nat, n < 128 → narrow .byte (.int (Int32.ofInt (n : Int))) = .int (Int32.ofInt (n : Int)) := by decide +kernel
theorem zbyte {z : Int} (h0 : 0 ≤ z) (h1 : z < 128) : narrow .byte (.int (Int32.ofInt z)) = .int (Int32.ofInt z) := by
  have := zbyte_all z.toNat (by omega)
  rwa [show ((z.toNat : Nat) : Int) = z by omega] at this
section ZR2
variable {X : zX} {E : zE} {cc : ByteArray} {own : String} {rm : Room} {ret : Option FieldType} {post : Option zAV → zM → Prop} {pc : Nat} {ls st : List zAV} {μ : zM}
theorem z_getV {id ci n k idx : Nat} {v : zAV} (fl : zFl own idx ci k) (hl : zl id = (ci, n)) (hv : ∀ (hc : zC μ), (zfs (zad E) (μ id) (zrefs ci) 0)[k]? = some (zv (zad E) v)) (hcan : zC μ → zcan v) (hd : decode cc pc = .ok (.getfield idx, 3)) (kk : MW X E cc own rm ret post (pc + 3) ls (v :: st) μ) : MW X E cc own rm ret post pc ls (zR id :: st) μ := by
  obtain ⟨q, hq, hk, hw⟩ := fl
  obtain ⟨o1, -, -, o4, o5⟩ := zcl_ok ci q hq
  refine z_stk kk (fun hs _ hc => ⟨hcan hc, hs.2⟩) (fun H locs la _ hc hC hW hS hla kk => ?_)
  have hid : id < zn E := zin_n hC.2.2.2.2.2.2.1 hl (by show ci ≠ 99; omega)
  exact va_get (D := zD E) (ci := ci) (C := q.1) (T := q.2.1) (N := q.2.2) hC.1 hC.2.1 hC.2.2.2.1 o1 hC.2.2.1 hC.2.2.2.2.1.1 hW.1 id (by rw [zws_at hid, zeq_o hl o5]) hq k hk (hC.2.2.2.1 _ hw) (fun _ h => h) (hv hc) hd kk
theorem z_getI {id ci n k idx : Nat} (kz : Int) (hkz : ((k : Nat) : Int) = kz) (fl : zFl own idx ci k) (hl : zl id = (ci, n)) (hr : (zrefs ci)[k]? = some false) (hd : decode cc pc = .ok (.getfield idx, 3)) (kk : MW X E cc own rm ret post (pc + 3) ls (zI (μ id kz) :: st) μ) : MW X E cc own rm ret post pc ls (zR id :: st) μ := by
  subst hkz
  exact z_getV (v := zI (μ id (k : Int))) fl hl (fun _ => by rw [zfs_at hr, Nat.zero_add]; rfl) (fun hc => hc.1 id k) hd kk
theorem z_getF {id ci n k idx : Nat} (j o : Nat) (hj : id + o = j) (fl : zFl own idx ci k) (hl : zl id = (ci, n)) (hr : (zrefs ci)[k]? = some true) (ho : zoff ci k = some o) (hd : decode cc pc = .ok (.getfield idx, 3)) (kk : MW X E cc own rm ret post (pc + 3) ls (zR j :: st) μ) : MW X E cc own rm ret post pc ls (zR id :: st) μ :=
  z_getV (v := zR j) fl hl (fun hc => by
    rw [zfs_at hr, Nat.zero_add, hc.2.1 id k o (by rw [hl]; exact ho), zr_n, hj]
    rfl) (fun _ => trivial) hd kk
theorem z_getM {id ci n k idx : Nat} (kz : Int) (hkz : ((k : Nat) : Int) = kz) (j : Nat) (fl : zFl own idx ci k) (hl : zl id = (ci, n)) (hr : (zrefs ci)[k]? = some true) (hj : μ id kz = (j : Int)) (hd : decode cc pc = .ok (.getfield idx, 3)) (kk : MW X E cc own rm ret post (pc + 3) ls (zR j :: st) μ) : MW X E cc own rm ret post pc ls (zR id :: st) μ := by
  subst hkz
  exact z_getV (v := zR j) fl hl (fun hc => by
    rw [zfs_at hr, Nat.zero_add, hj, zr_n]
    rfl) (fun _ => trivial) hd kk
theorem z_putV {id ci n k idx : Nat} {v : zAV} {z : Int} {ty : FieldType} (fl : zFl own idx ci k) (pl : zPl ci k ty) (hl : zl id = (ci, n)) (ho : zoff ci k = none) (hn : narrow ty (zv (zad E) v) = zv (zad E) v) (hf : fits ty (zv (zad E) v) = true) (hx : ∀ b, (zrefs ci)[k]? = some b → zv (zad E) v = if b then va_rf (zr (zad E) z) else .int (Int32.ofInt z)) (hz : zcan v → zin z) (hd : decode cc pc = .ok (.putfield idx, 3)) (kk : MW X E cc own rm ret post (pc + 3) ls st (zup μ id (k : Int) z)) : MW X E cc own rm ret post pc ls (v :: zR id :: st) μ := by
  intro hC hc hcl hs H locs la hW hS hla
  obtain ⟨q, hq, hk, hw⟩ := fl
  obtain ⟨q', hq', p1, p2⟩ := pl
  cases (Option.some.inj (hq.symm.trans hq'))
  obtain ⟨o1, ⟨ty0, o2⟩, o3, o4, o5⟩ := zcl_ok ci q hq
  have hid : id < zn E := zin_n hC.2.2.2.2.2.2.1 hl (by show ci ≠ 99; omega)
  have hat : (zws E μ (zn E))[id]? = some (zad E id, .inr (ci, zfs (zad E) (μ id) (zrefs ci) 0)) := by rw [zws_at hid, zeq_o hl o5]
  have hset : (zfs (zad E) (μ id) (zrefs ci) 0).set k (zv (zad E) v) = zfs (zad E) (zup μ id (k : Int) z id) (zrefs ci) 0 := by
    refine zfs_set (fun b hb => ?_) (fun j hj => ?_) (by rw [← o4]; exact hk)
    · rw [zup_eq]; exact hx b hb
    · exact zup_ne (Or.inr (by omega))
  have hws : (zws E μ (zn E)).set id (zad E id, .inr (ci, (zfs (zad E) (μ id) (zrefs ci) 0).set k (zv (zad E) v))) = zws E (zup μ id (k : Int) z) (zn E) := by
    rw [hset, ← zws_set, zeq_o hl o5]
  refine va_put (D := zD E) (ci := ci) (C := q.1) (T := q.2.1) (N := q.2.2) (ty := ty) hC.1 hC.2.1 hC.2.2.2.1 o1 ty0 o2 o3 hC.2.2.1 hC.2.2.2.2.1.1 hW.1 hW.2 hS id hat hq k hk (hC.2.2.2.1 _ hw) (fun _ h => h) p2 p1 hn hf (by rw [zfs_len, ← o4]; exact hk) hd (fun H1 locs1 hP1 hD1 hS1 => ?_)
  rw [hws] at hP1 hD1
  exact kk hC (zC_up hc (hz hs.1) (fun k2 o2 h2 e => by
    rw [hl] at h2
    have : k2 = k := by omega
    rw [this, ho] at h2
    cases h2) (by rw [hl]; show ci ≠ 22; omega) (by rw [hl]; show ci ≠ 23; omega) (fun e => by rw [hl] at e; have e : ci = 21 := e; omega)) hcl hs.2.2 H1 locs1 la ⟨hP1, hD1⟩ hS1 hla
theorem z_putI {id ci n k idx : Nat} {z : Int} (kz : Int) (hkz : ((k : Nat) : Int) = kz) (fl : zFl own idx ci k) (pl : zPl ci k .int) (hl : zl id = (ci, n)) (hr : (zrefs ci)[k]? = some false) (ho : zoff ci k = none) (hd : decode cc pc = .ok (.putfield idx, 3)) (kk : MW X E cc own rm ret post (pc + 3) ls st (zup μ id kz z)) : MW X E cc own rm ret post pc ls (zI z :: zR id :: st) μ := by
  subst hkz
  exact z_putV (z := z) fl pl hl ho rfl rfl (fun b hb => by rw [hr] at hb; cases hb; rfl) (fun h => h) hd kk
theorem z_putZ {id ci n k idx : Nat} {z : Int} (kz : Int) (hkz : ((k : Nat) : Int) = kz) (hz : z = 0 ∨ z = 1) (fl : zFl own idx ci k) (pl : zPl ci k .boolean) (hl : zl id = (ci, n)) (hr : (zrefs ci)[k]? = some false) (ho : zoff ci k = none) (hd : decode cc pc = .ok (.putfield idx, 3)) (kk : MW X E cc own rm ret post (pc + 3) ls st (zup μ id kz z)) : MW X E cc own rm ret post pc ls (zI z :: zR id :: st) μ := by
  subst hkz
  exact z_putV (z := z) fl pl hl ho (by rcases hz with rfl | rfl <;> rfl) (by rcases hz with rfl | rfl <;> rfl) (fun b hb => by rw [hr] at hb; cases hb; rfl) (fun h => h) hd kk
theorem z_putR {id ci n k idx j : Nat} {C : String} (kz : Int) (hkz : ((k : Nat) : Int) = kz) (hj : j < 1000000) (fl : zFl own idx ci k) (pl : zPl ci k (.object C)) (hl : zl id = (ci, n)) (hr : (zrefs ci)[k]? = some true) (ho : zoff ci k = none) (hd : decode cc pc = .ok (.putfield idx, 3)) (kk : MW X E cc own rm ret post (pc + 3) ls st (zup μ id kz (j : Int))) : MW X E cc own rm ret post pc ls (zR j :: zR id :: st) μ := by
  subst hkz
  exact z_putV (z := (j : Int)) fl pl hl ho rfl rfl (fun b hb => by rw [hr] at hb; cases hb; rw [zr_n]; rfl) (fun _ => ⟨by omega, by omega⟩) hd kk
theorem z_iald {id n : Nat} {i : Int} (hl : zl id = (20, n)) (h0 : 0 ≤ i) (h1 : i < n) (hd : decode cc pc = .ok (.iaload, 1)) (kk : MW X E cc own rm ret post (pc + 1) ls (zI (μ id i) :: st) μ) : MW X E cc own rm ret post pc ls (zI i :: zR id :: st) μ :=
  z_stk kk (fun hs _ hc => ⟨hc.1 id i, hs.2.2⟩) (fun H locs la hs hc hC hW hS hla kk => by
    have hid : id < zn E := zin_n hC.2.2.2.2.2.2.1 hl (by show _ ≠ 99; simp)
    refine va_iald (D := zD E) (f := fun j => Int32.ofInt (μ id j)) hC.1 hC.2.1 hC.2.2.2.2.1.1 hW.1 id 0 (by rw [zws_at hid, zeq_20 hl]) rfl (zi_in h0 h1 hs.1) hd ?_
    rw [zi_c hs.1]
    have e : ((i.toNat : Nat) : Int) = i := by omega
    show W _ _ _ _ _ _ _ _ _ _ _ _ _ _ _ (F0 _ _ _ (.int (Int32.ofInt (μ id ((i.toNat : Nat) : Int))) :: _))
    rw [e]
    exact kk)
theorem z_zald {id n : Nat} {i : Int} (hl : zl id = (21, n)) (h0 : 0 ≤ i) (h1 : i < n) (hd : decode cc pc = .ok (.baload, 1)) (kk : MW X E cc own rm ret post (pc + 1) ls (zI (μ id i) :: st) μ) : MW X E cc own rm ret post pc ls (zI i :: zR id :: st) μ :=
  z_stk kk (fun hs _ hc => ⟨hc.1 id i, hs.2.2⟩) (fun H locs la hs hc hC hW hS hla kk => by
    have hid : id < zn E := zin_n hC.2.2.2.2.2.2.1 hl (by show _ ≠ 99; simp)
    refine va_zald (D := zD E) (f := fun j => Int32.ofInt (μ id j)) hC.1 hC.2.1 hC.2.2.2.2.1.1 hW.1 id 1 (by rw [zws_at hid, zeq_21 hl]) rfl (zi_in h0 h1 hs.1) hd ?_
    rw [zi_c hs.1]
    have e : ((i.toNat : Nat) : Int) = i := by omega
    show W _ _ _ _ _ _ _ _ _ _ _ _ _ _ _ (F0 _ _ _ (.int (Int32.ofInt (μ id ((i.toNat : Nat) : Int))) :: _))
    rw [e]
    exact kk)
theorem z_aald {id n j q : Nat} {i : Int} (hq : (zl id = (22, n) ∧ j = id + 1 + i.toNat) ∨ (zl id = (23, n) ∧ j = id + zHa + zHb * i.toNat)) (h0 : 0 ≤ i) (h1 : i < n) (hd : decode cc pc = .ok (.aaload, 1)) (kk : MW X E cc own rm ret post (pc + 1) ls (zR j :: st) μ) : MW X E cc own rm ret post pc ls (zI i :: zR id :: st) μ :=
  z_stk kk (fun hs _ hc => ⟨trivial, hs.2.2⟩) (fun H locs la hs hc hC hW hS hla kk => by
    have hlt : i.toNat < n := by omega
    rcases hq with ⟨hl, hj⟩ | ⟨hl, hj⟩
    · have hid : id < zn E := zin_n hC.2.2.2.2.2.2.1 hl (by show _ ≠ 99; simp)
      have hat := hW.1 id _ (by rw [zws_at hid, zeq_22 hl])
      have hv := hc.2.2.1 id i.toNat n hl hlt
      refine W.aald (v := va_rf (zr (zad E) (μ id ((i.toNat : Nat) : Int)))) (ty := .array .int) hC.1 hC.2.1 hat ((hC.2.2.2.2.1.1.2 2 _ rfl).1 n (fun j => va_rf (zr (zad E) (μ id j)))) rfl (fun q => by cases q) (by show ¬ (_ < 0 ∨ (arrV _ _ _).slots.size ≤ _); rw [arrV_size]; exact zi_in h0 h1 hs.1) (by show (arrV _ _ _).slots[_]? = _; rw [zi_c hs.1, arrV_read _ _ hlt]) rfl rfl hd ?_
      rw [hv, zr_n, ← hj]
      exact kk
    · have hid : id < zn E := zin_n hC.2.2.2.2.2.2.1 hl (by show _ ≠ 99; simp)
      have hat := hW.1 id _ (by rw [zws_at hid, zeq_23 hl])
      have hv := hc.2.2.2.1 id i.toNat n hl hlt
      refine W.aald (v := va_rf (zr (zad E) (μ id ((i.toNat : Nat) : Int)))) (ty := .object RX2) hC.1 hC.2.1 hat ((hC.2.2.2.2.1.1.2 3 _ rfl).1 n (fun j => va_rf (zr (zad E) (μ id j)))) rfl (fun q => by cases q) (by show ¬ (_ < 0 ∨ (arrV _ _ _).slots.size ≤ _); rw [arrV_size]; exact zi_in h0 h1 hs.1) (by show (arrV _ _ _).slots[_]? = _; rw [zi_c hs.1, arrV_read _ _ hlt]) rfl rfl hd ?_
      rw [hv, zr_n, ← hj]
      exact kk)
theorem z_row {id n : Nat} {i : Int} (j : Nat) (hj : id + 1 + i.toNat = j) (hl : zl id = (22, n)) (h0 : 0 ≤ i) (h1 : i < n) (hd : decode cc pc = .ok (.aaload, 1)) (kk : MW X E cc own rm ret post (pc + 1) ls (zR j :: st) μ) : MW X E cc own rm ret post pc ls (zI i :: zR id :: st) μ := z_aald (q := 0) (Or.inl ⟨hl, hj.symm⟩) h0 h1 hd kk
theorem z_house {id n : Nat} {i : Int} (hl : zl id = (23, n)) (h0 : 0 ≤ i) (h1 : i < n) (hd : decode cc pc = .ok (.aaload, 1)) (kk : MW X E cc own rm ret post (pc + 1) ls (zR (id + zHa + zHb * i.toNat) :: st) μ) : MW X E cc own rm ret post pc ls (zI i :: zR id :: st) μ := z_aald (q := 0) (Or.inr ⟨hl, rfl⟩) h0 h1 hd kk
theorem z_iast {id n : Nat} {i v : Int} (hl : zl id = (20, n)) (h0 : 0 ≤ i) (h1 : i < n) (hd : decode cc pc = .ok (.iastore, 1)) (kk : MW X E cc own rm ret post (pc + 1) ls st (zup μ id i v)) : MW X E cc own rm ret post pc ls (zI v :: zI i :: zR id :: st) μ := fun hC hc hcl hs H locs la hW hS hla => by
  have hid : id < zn E := zin_n hC.2.2.2.2.2.2.1 hl (by show _ ≠ 99; simp)
  refine va_iast (D := zD E) (f := fun j => Int32.ofInt (μ id j)) hC.1 hC.2.1 hC.2.2.2.2.1.1 hW.1 hW.2 hS id 0 (by rw [zws_at hid, zeq_20 hl]) rfl (zi_in h0 h1 hs.2.1) hd (fun H1 locs1 hP1 hD1 hS1 => ?_)
  have hws : (zws E μ (zn E)).set id (zad E id, .inl (zcs E 0, n, .inl (upd (fun j => Int32.ofInt (μ id j)) (Int32.ofInt i).toNatClampNeg (Int32.ofInt v)))) = zws E (zup μ id i v) (zn E) := by
    rw [zi_c hs.2.1, zupd h0, ← zws_set, zeq_20 hl, zup_self]
  rw [hws] at hP1 hD1
  exact kk hC (zC_up hc hs.1 (fun k o h => by rw [hl, zoff_arr (by show 13 ≤ _; simp)] at h; cases h) (by rw [hl]; simp) (by rw [hl]; simp) (fun e => by rw [hl] at e; cases e)) hcl hs.2.2.2 H1 locs1 la ⟨hP1, hD1⟩ hS1 hla
theorem z_zast {id n : Nat} {i v : Int} (hv : v = 0 ∨ v = 1) (hl : zl id = (21, n)) (h0 : 0 ≤ i) (h1 : i < n) (hd : decode cc pc = .ok (.bastore, 1)) (kk : MW X E cc own rm ret post (pc + 1) ls st (zup μ id i v)) : MW X E cc own rm ret post pc ls (zI v :: zI i :: zR id :: st) μ := fun hC hc hcl hs H locs la hW hS hla => by
  have hid : id < zn E := zin_n hC.2.2.2.2.2.2.1 hl (by show _ ≠ 99; simp)
  refine va_zast (D := zD E) (f := fun j => Int32.ofInt (μ id j)) hC.1 hC.2.1 hC.2.2.2.2.1.1 hW.1 hW.2 hS id 1 (by rw [zws_at hid, zeq_21 hl]) rfl (zi_in h0 h1 hs.2.1) hd (fun H1 locs1 hP1 hD1 hS1 => ?_)
  have hws : (zws E μ (zn E)).set id (zad E id, .inl (zcs E 1, n, .inl (upd (fun j => Int32.ofInt (μ id j)) (Int32.ofInt i).toNatClampNeg (vp_nar .boolean (Int32.ofInt v))))) = zws E (zup μ id i v) (zn E) := by
    have hnar : vp_nar .boolean (Int32.ofInt v) = Int32.ofInt v := by rcases hv with rfl | rfl <;> rfl
    rw [hnar, zi_c hs.2.1, zupd h0, ← zws_set, zeq_21 hl, zup_self]
  rw [hws] at hP1 hD1
  exact kk hC (zC_up hc hs.1 (fun k o h => by rw [hl, zoff_arr (by show 13 ≤ _; simp)] at h; cases h) (by rw [hl]; simp) (by rw [hl]; simp) (fun _ => hv)) hcl hs.2.2.2 H1 locs1 la ⟨hP1, hD1⟩ hS1 hla
theorem z_alen {id n : Nat} (hl : zl id = (20, n) ∨ zl id = (21, n)) (hn : n < 10000) (hd : decode cc pc = .ok (.arraylength, 1)) (kk : MW X E cc own rm ret post (pc + 1) ls (zI (n : Int) :: st) μ) : MW X E cc own rm ret post pc ls (zR id :: st) μ :=
  z_stk kk (fun hs _ hc => ⟨⟨by omega, by omega⟩, hs.2⟩) (fun H locs la hs hc hC hW hS hla kk => by
    rcases hl with hl | hl
    · have hid : id < zn E := zin_n hC.2.2.2.2.2.2.1 hl (by show _ ≠ 99; simp)
      exact va_alen (D := zD E) (x := (n, .inl (fun j => Int32.ofInt (μ id j)))) hC.1 hC.2.1 hC.2.2.2.2.1.1 hW.1 id 0 (by rw [zws_at hid, zeq_20 hl]) rfl (Int32.ofInt_eq_ofNat).symm hd kk
    · have hid : id < zn E := zin_n hC.2.2.2.2.2.2.1 hl (by show _ ≠ 99; simp)
      exact va_alen (D := zD E) (x := (n, .inl (fun j => Int32.ofInt (μ id j)))) hC.1 hC.2.1 hC.2.2.2.2.1.1 hW.1 id 1 (by rw [zws_at hid, zeq_21 hl]) rfl (Int32.ofInt_eq_ofNat).symm hd kk)
/-- the script and the static row of numbers -/
theorem z_sld {i : Int} (h0 : 0 ≤ i) (h1 : i < zsl E) (hd : decode cc pc = .ok (.iaload, 1)) (kk : MW X E cc own rm ret post (pc + 1) ls (zI ((zsx E i.toNat).toInt) :: st) μ) : MW X E cc own rm ret post pc ls (zI i :: zR 9002 :: st) μ :=
  z_stk kk (fun hs _ hc => ⟨zi_z, hs.2.2⟩) (fun H locs la hs hc hC hW hS hla kk => by
    obtain ⟨x1, x2, x3⟩ := hC.2.2.2.2.1.2.2.2.2
    refine va_sld hC.1 hC.2.1 x1 x2 x3 hS (zi_in h0 h1 hs.1) hd ?_
    rw [zi_c hs.1]
    have e : zv (zad E) (zI (zsx E i.toNat).toInt) = .int _ := congrArg Value.int (Int32.ofInt_toInt _)
    rw [List.map_cons, e] at kk
    exact kk)
theorem z_slen (hL : zsl E < 10000) (hd : decode cc pc = .ok (.arraylength, 1)) (kk : MW X E cc own rm ret post (pc + 1) ls (zI (zsl E : Int) :: st) μ) : MW X E cc own rm ret post pc ls (zR 9002 :: st) μ :=
  z_stk kk (fun hs _ hc => ⟨⟨by omega, by omega⟩, hs.2⟩) (fun H locs la hs hc hC hW hS hla kk => by
    obtain ⟨x1, x2, x3⟩ := hC.2.2.2.2.1.2.2.2.2
    refine va_slen hC.1 hC.2.1 x1 x2 x3 hS hd ?_
    rw [← Int32.ofInt_eq_ofNat]
    exact kk)
theorem z_num {i : Int} (h0 : 0 ≤ i) (h1 : i < 12) (hd : decode cc pc = .ok (.iaload, 1)) (kk : MW X E cc own rm ret post (pc + 1) ls (zI ((zNum.getD i.toNat 0).toInt) :: st) μ) : MW X E cc own rm ret post pc ls (zI i :: zR 9001 :: st) μ :=
  z_stk kk (fun hs _ hc => ⟨zi_z, hs.2.2⟩) (fun H locs la hs hc hC hW hS hla kk => by
    have e : zv (zad E) (zI (zNum.getD i.toNat 0).toInt) = .int _ := congrArg Value.int (Int32.ofInt_toInt _)
    rw [List.map_cons, e] at kk
    exact va_ti (f := fun j => .int (zNum.getD j 0)) hC.1 hC.2.1 hC.2.2.2.2.1.2.2.1.2.1 hS (zi_in h0 h1 hs.1) (by rw [zi_c hs.1]) hd kk)
theorem z_max {idx : Nat} {a b : Int} (hl : Cond.methodLink own idx Lib.Math.max.name ∈ LW) (hroom : 1 ≤ rm.frames ∧ zcat st + 13 ≤ rm.locals) (hd : decode cc pc = .ok (.invokestatic idx, 3)) (kk : MW X E cc own rm ret post (pc + 3) ls (zI (max a b) :: st) μ) : MW X E cc own rm ret post pc ls (zI b :: zI a :: st) μ :=
  z_stk kk (fun hs _ hc => ⟨by rcases Int.le_total a b with h | h
                               · rw [Int.max_eq_right h]; exact hs.1
                               · rw [Int.max_eq_left h]; exact hs.2.1, hs.2.2⟩) (fun H locs la hs hc hC hW hS hla kk => by
    refine va_mmax hC.1 hC.2.1 hla.2.1.symm hC.2.2.1 (hC.2.2.2.1 _ hl) (hC.2.2.2.1 _ zmx_s) (hC.2.2.2.1 _ zm_i) (hC.2.2.2.1 _ zmx_c) hroom.1 (by rw [zcat_sum]; exact hroom.2) hC.2.2.2.2.2.1.1 hC.2.2.2.2.2.1.2 hd ?_
    have e : (if Int32.ofInt a < Int32.ofInt b then Int32.ofInt b else Int32.ofInt a) = Int32.ofInt (max a b) := by
      by_cases h : a < b
      · rw [if_pos ((zi_lt hs.2.1 hs.1).mpr h), Int.max_eq_right (by omega)]
      · rw [if_neg (fun q => h ((zi_lt hs.2.1 hs.1).mp q)), Int.max_eq_left (by omega)]
    rw [e]
    exact kk)
theorem z_min {idx : Nat} {a b : Int} (hl : Cond.methodLink own idx Lib.Math.min.name ∈ LW) (hroom : 1 ≤ rm.frames ∧ zcat st + 13 ≤ rm.locals) (hd : decode cc pc = .ok (.invokestatic idx, 3)) (kk : MW X E cc own rm ret post (pc + 3) ls (zI (min a b) :: st) μ) : MW X E cc own rm ret post pc ls (zI b :: zI a :: st) μ :=
  z_stk kk (fun hs _ hc => ⟨by rcases Int.le_total a b with h | h
                               · rw [Int.min_eq_left h]; exact hs.2.1
                               · rw [Int.min_eq_right h]; exact hs.1, hs.2.2⟩) (fun H locs la hs hc hC hW hS hla kk => by
    refine va_mmin hC.1 hC.2.1 hla.2.1.symm hC.2.2.1 (hC.2.2.2.1 _ hl) (hC.2.2.2.1 _ zmn_s) (hC.2.2.2.1 _ zm_i) (hC.2.2.2.1 _ zmn_c) hroom.1 (by rw [zcat_sum]; exact hroom.2) hC.2.2.2.2.2.1.1 hC.2.2.2.2.2.1.2 hd ?_
    have e : (if Int32.ofInt b < Int32.ofInt a then Int32.ofInt b else Int32.ofInt a) = Int32.ofInt (min a b) := by
      by_cases h : b < a
      · rw [if_pos ((zi_lt hs.1 hs.2.1).mpr h), Int.min_eq_right (by omega)]
      · rw [if_neg (fun q => h ((zi_lt hs.1 hs.2.1).mp q)), Int.min_eq_left (by omega)]
    rw [e]
    exact kk)
/-- System.arraycopy of n places from the first on -/
def zcp (μ : zM) (a b : Nat) (n : Int) : zM := fun id j => if id = b ∧ 0 ≤ j ∧ j < n then μ a j else μ id j
theorem zC_cp {μ : zM} {a b : Nat} {n : Int} {q : Nat × Nat} {q2 : Nat × Nat} (hc : zC μ) (ha : zl a = q) (hb : zl b = q2) (hq : (q.1 = 20 ∧ q2.1 = 20) ∨ (q.1 = 21 ∧ q2.1 = 21)) : zC (zcp μ a b n) := by
  obtain ⟨c1, c2, c3, c4, c5⟩ := hc
  have hk : (zl b).1 = 20 ∨ (zl b).1 = 21 := by rw [hb]; rcases hq with h | h; exact Or.inl h.2; exact Or.inr h.2
  refine ⟨fun x j => ?_, fun x k o h => ?_, fun x j m h hj => ?_, fun x j m h hj => ?_, fun x m j h => ?_⟩
  · unfold zcp; split; exact c1 a j; exact c1 x j
  · unfold zcp
    rw [if_neg]
    · exact c2 x k o h
    · rintro ⟨rfl, -⟩
      rcases hk with e | e <;> rw [e, zoff_arr (by decide)] at h <;> cases h
  · unfold zcp
    rw [if_neg]
    · exact c3 x j m h hj
    · rintro ⟨rfl, -⟩
      rw [h] at hk
      rcases hk with e | e <;> cases e
  · unfold zcp
    rw [if_neg]
    · exact c4 x j m h hj
    · rintro ⟨rfl, -⟩
      rw [h] at hk
      rcases hk with e | e <;> cases e
  · unfold zcp
    split
    next e =>
      obtain ⟨rfl, -⟩ := e
      rcases hq with ⟨h1, h2⟩ | ⟨h1, h2⟩
      · rw [hb] at h; rw [h] at h2; cases h2
      · exact c5 a q.2 j (by rw [ha]; exact Prod.ext h1 rfl)
    next => exact c5 x m j h
theorem zcpy_eq {f g : Int → Int} {n : Nat} : va_cpy (fun j : Nat => Int32.ofInt (f (j : Int))) (fun j : Nat => Int32.ofInt (g (j : Int))) 0 0 n = fun j : Nat => Int32.ofInt ((fun x => if 0 ≤ x ∧ x < (n : Int) then f x else g x) (j : Int)) := by
  funext j
  unfold va_cpy
  by_cases e : j < n
  · rw [if_pos ⟨Nat.zero_le _, by omega⟩]
    show _ = Int32.ofInt (if 0 ≤ (j : Int) ∧ (j : Int) < (n : Int) then f j else g j)
    rw [if_pos ⟨by omega, by omega⟩, Nat.zero_add, Nat.sub_zero]
  · rw [if_neg (by omega)]
    show _ = Int32.ofInt (if 0 ≤ (j : Int) ∧ (j : Int) < (n : Int) then f j else g j)
    rw [if_neg (by omega)]
theorem zws_set2 {E : zE} {μ ν : zM} {n id : Nat} (h : ∀ a, a ≠ id → ν a = μ a) : (zws E μ n).set id (zad E id, zeq E (zl id) (ν id)) = zws E ν n := by
  apply List.ext_getElem?
  intro i
  by_cases hi : i < n
  · rw [zws_at hi]
    by_cases e : i = id
    · subst e
      rw [List.getElem?_set_self (by simp [zws]; exact hi)]
    · rw [List.getElem?_set_ne (Ne.symm e), zws_at hi, h i e]
  · rw [List.getElem?_eq_none (by simp [zws]; omega), List.getElem?_eq_none (by simp [zws]; omega)]
theorem zcp_self {μ : zM} {a b : Nat} {n : Int} : zcp μ a b n b = fun x => if 0 ≤ x ∧ x < n then μ a x else μ b x := by funext x; simp [zcp]
theorem zcp_row {μ : zM} {a b x : Nat} {n : Int} (h : x ≠ b) : zcp μ a b n x = μ x := by funext j; simp [zcp, h]
theorem z_copy {idx a b n0 n1 : Nat} {n : Int} (hq : (zl a = (20, n0) ∧ zl b = (20, n1)) ∨ (zl a = (21, n0) ∧ zl b = (21, n1))) (h0 : 0 ≤ n) (h1 : n ≤ n0) (h2 : n ≤ n1) (hl : Cond.methodLink own idx arraycopyName ∈ LW) (hroom : 1 ≤ rm.frames ∧ zcat st + (nativeFrameWords "java/lang/System" "arraycopy" 5 + 11) ≤ rm.locals) (hd : decode cc pc = .ok (.invokestatic idx, 3)) (kk : MW X E cc own rm ret post (pc + 3) ls st (zcp μ a b n)) : MW X E cc own rm ret post pc ls (zI n :: zI 0 :: zR b :: zI 0 :: zR a :: st) μ := fun hC hc hcl hs H locs la hW hS hla => by
  have hcl0 : (0 : Int32).toNatClampNeg = 0 := rfl
  have hn := zi_c hs.1
  have e0 : Int32.ofInt 0 = 0 := rfl
  have hnn : ¬ Int32.ofInt n < 0 := fun q => by
    rw [← e0, zi_lt hs.1 (by decide)] at q
    omega
  have key : ∀ (k : Nat) (t0 : Nat) (ty : FieldType), zl a = (k, n0) → zl b = (k, n1) → (k = 20 ∧ t0 = 0 ∧ ty = .int ∨ k = 21 ∧ t0 = 1 ∧ ty = .boolean) → zW X rm H locs (F0 X.2.2.2.2.1 pc la ((zI n :: zI 0 :: zR b :: zI 0 :: zR a :: st).map (zv (zad E)))) := by
    intro k t0 ty la1 lb1 hk
    have hid : a < zn E := zin_n hC.2.2.2.2.2.2.1 la1 (by show k ≠ 99; omega)
    have hid2 : b < zn E := zin_n hC.2.2.2.2.2.2.1 lb1 (by show k ≠ 99; omega)
    have hea : zeq E (zl a) (μ a) = .inl (zcs E t0, n0, .inl (fun j => Int32.ofInt (μ a j))) := by
      rcases hk with ⟨rfl, rfl, rfl⟩ | ⟨rfl, rfl, rfl⟩
      · exact zeq_20 la1
      · exact zeq_21 la1
    have heb : ∀ f, zeq E (zl b) f = .inl (zcs E t0, n1, .inl (fun j => Int32.ofInt (f j))) := by
      rcases hk with ⟨rfl, rfl, rfl⟩ | ⟨rfl, rfl, rfl⟩
      · exact fun f => zeq_20 lb1
      · exact fun f => zeq_21 lb1
    have hty : (ztys E)[t0]? = some (zcs E t0, ty) := by rcases hk with ⟨rfl, rfl, rfl⟩ | ⟨rfl, rfl, rfl⟩ <;> rfl
    have hC0 := hC
    have hset : (zws E μ (zn E)).set b (zad E b, .inl (zcs E t0, n1, .inl (va_cpy (fun j => Int32.ofInt (μ a j)) (fun j => Int32.ofInt (μ b j)) 0 0 n.toNat))) = zws E (zcp μ a b n) (zn E) := by
      have en : n = ((n.toNat : Nat) : Int) := by omega
      rw [zcpy_eq, ← en, ← zws_set2 (ν := zcp μ a b n) (id := b) (fun x hx => zcp_row hx), heb, zcp_self]
    refine va_copyi (D := zD E) (f := fun j => Int32.ofInt (μ a j)) (g := fun j => Int32.ofInt (μ b j)) (ty := ty) (sp := 0) (dp := 0) hC.1 hC.2.1 hla.2.1.symm hC.2.2.1 (hC.2.2.2.1 _ hl) (hC.2.2.2.1 _ zac_n) (hC.2.2.2.1 _ zac_s) (hC.2.2.2.1 _ zac_i) hC.2.2.2.2.1.1 hW.1 hW.2 hS a b t0 t0 (by rw [zws_at hid, hea]) (by rw [zws_at hid2, heb]) hty hty (by rcases hk with ⟨rfl, rfl, rfl⟩ | ⟨rfl, rfl, rfl⟩ <;> rfl) (by decide) (by decide) hnn (by rw [hcl0, hn]; omega) (by rw [hcl0, hn]; omega) (fun i hi => ?_) hroom.1 (by rw [zcat_sum]; exact hroom.2) hd (fun H1 locs1 hP1 hD1 hS1 => ?_)
    · rcases hk with ⟨rfl, rfl, rfl⟩ | ⟨rfl, rfl, rfl⟩
      · rfl
      · have := hc.2.2.2.2 a n0 ((((0 : Int32).toNatClampNeg + i : Nat)) : Int) la1
        show fits .boolean (.int (Int32.ofInt _)) = true
        rcases this with e | e <;> rw [e] <;> rfl
    · rw [hcl0, hn] at hP1 hD1
      rw [hset] at hP1 hD1
      exact kk hC0 (zC_cp hc la1 lb1 (by rcases hk with ⟨rfl, -, -⟩ | ⟨rfl, -, -⟩; exact Or.inl ⟨rfl, rfl⟩; exact Or.inr ⟨rfl, rfl⟩)) hcl hs.2.2.2.2.2 H1 locs1 la ⟨hP1, hD1⟩ hS1 hla
  rcases hq with ⟨q1, q2⟩ | ⟨q1, q2⟩
  · exact key 20 0 .int q1 q2 (Or.inl ⟨rfl, rfl, rfl⟩)
  · exact key 21 1 .boolean q1 q2 (Or.inr ⟨rfl, rfl, rfl⟩)
theorem z_getNum {idx : Nat} (hl : Cond.fieldLink own idx RX10 "NUMBERS" "[I" ∈ LW) (hd : decode cc pc = .ok (.getstatic idx, 3)) (kk : MW X E cc own rm ret post (pc + 3) ls (zR 9001 :: st) μ) : MW X E cc own rm ret post pc ls st μ :=
  z_stk kk (fun hs _ hc => ⟨trivial, hs⟩) (fun H locs la hs hc hC hW hS hla kk => va_gets (v := .ref (zad E 9001)) hC.1 hC.2.1 hC.2.2.2.2.1.2.2.1.1 hS hC.2.2.1 (hC.2.2.2.1 _ hl) (fun _ h => h) hd kk)
/-- the end -/
theorem z_ret {r : Option zAV} (hv : zRv ret cc pc r) (hp : post r μ) : MW X E cc own rm ret post pc ls r.toList μ := fun hC hc hl hs H locs la hw hS _ =>
  hC.2.2.2.2.2.2.2 pc H locs la r μ hv hp hc (fun v h => by subst h; exact hs.1) hw hS

theorem z_after {H : Heap} {locs : List Loc} {la : Array Slot} {rest st0 : List Value} {a : Array Value} {post2 : Option zAV → zM → Prop} {Q : State → Prop} {cells slots : Nat} {p : Program} {l : Launch} {e : Env} {R : Room} {s : State} {m : MethodId} {args : Array Value} {below : List Frame} {meth : Method} {c : Code} (hr : va_Run p l e R s m args below meth c H locs cells slots 0 0 (F0 m pc la st0) rest (zQ E post2 a) (zA E)) (hS : va_S (zA E) s.heap H locs) (kk : ∀ (r : Option zAV) (μ1 : zM) (H1 : Heap) (locs1 : List Loc), post2 r μ1 → zC μ1 → (∀ v, r = some v → zcan v) → zWd E μ1 H1 → va_S (zA E) s.heap H1 locs1 → W p l e R s m args below meth c H1 locs1 cells slots Q (F0 m (pc + 3) la (r.toList.map (zv (zad E)) ++ rest))) : W p l e R s m args below meth c H locs cells slots Q (F0 m pc la st0) := by
  intro T hT Xs
  obtain ⟨v, st₀, t, T', L, h0, X', hL, e1, e2, ⟨⟨r, μ1, hv, hp, hc1, hcan, hw⟩, hz, hk⟩, stp⟩ := hr T hT Xs
  cases hv
  rw [h0] at hz hk
  obtain ⟨t2, a1, b1⟩ := kk r μ1 T'.heap (locs ++ L) hp hc1 hcan (by rw [e1]; exact hw)
    ⟨Nat.le_trans hS.1 (by rw [e1]; exact hz), fun q h1 h2 => by rw [e1, hk q (Nat.lt_of_lt_of_le h1 hS.1) h2]; exact hS.2.1 q h1 h2, fun q hq => by
      rcases List.mem_append.mp hq with h | h
      · exact hS.2.2 q h
      · exact hL q h⟩ T' rfl X'
  refine ⟨t2, stp t2 ?_, b1⟩
  have e9 : (r.map (zv (zad E))).toList = r.toList.map (zv (zad E)) := by cases r <;> rfl
  rw [e9]
  exact a1
theorem zKst.same {U U2 : State} (hv : U2.vm = U.vm) (hh : U2.heap = U.heap) (h : zKst E U) : zKst E U2 := by
  obtain ⟨h1, h2, ⟨r1, r2, r3, r4, r5, r6⟩, h4, x1, x2, x3⟩ := h
  have ha : U.vm.Alike U2.vm := by rw [hv]; exact Vm.Alike.refl U.vm
  refine ⟨va_K.moved ha h1, fun w hw => va_Nw.same (NW_on hw) hv.symm (h2 w hw), ⟨?_, ?_, ?_, vk_R.same hv r4, ?_, ?_⟩, ?_, ?_, ?_, x3⟩
  · rw [hh]; exact va_Z.moved ha r1
  · rw [hh]; exact va_T.moved ha r2
  · rw [hh]; exact vk_S.moved ha r3
  · rw [hh]; exact va_Z.moved ha r5
  · rw [hh]; exact zZq.moved ha r6
  · rw [hh]; exact h4
  · rw [hh]; exact va_X.moved ha x1
  · rw [hh]; exact x2
theorem zPc_blind {as : List zAV} : FrameBlind (va_Pc (as.map (zv (zad E))) (fun U => zKst E U ∧ zWd E μ U.heap)) := fun a U g mk h => ⟨h.1, zKst.same (U := U) rfl rfl h.2.1, h.2.2⟩
theorem LW_goodIn {y : MethodName} {cc2 : ByteArray} {mL : Nat} {ret2 : Option FieldType} (h : Cond.code y cc2 mL ret2 ∈ LW) : GoodIn LW (.code y cc2 mL ret2 :: LW) := fun w hw => by
  rcases List.mem_cons.mp hw with rfl | hw
  · exact ⟨h, LW_good h⟩
  · exact ⟨hw, LW_good hw⟩
theorem LW_goodV {own2 C : String} {idx : Nat} {y : MethodName} {cc2 : ByteArray} {mL : Nat} {ret2 : Option FieldType} (h : Cond.code y cc2 mL ret2 ∈ LW) (h1 : Cond.methodLink own2 idx y ∈ LW) (h2 : Cond.instanceMethod y ∈ LW) (h3 : Cond.selects C y y ∈ LW) (h4 : Cond.initialized C ∈ LW) : GoodIn LW (wsV own2 idx C y (.code y cc2 mL ret2 :: LW)) := fun w hw => by
  rcases List.mem_append.mp hw with hw | hw
  · have : w ∈ LW := by
      rcases List.mem_cons.mp hw with rfl | hw
      · exact h1
      · rcases List.mem_cons.mp hw with rfl | hw
        · exact h2
        · rcases List.mem_cons.mp hw with rfl | hw
          · exact h3
          · rcases List.mem_cons.mp hw with rfl | hw
            · exact h4
            · cases hw
    exact ⟨this, LW_good this⟩
  · exact LW_goodIn h w hw
theorem LW_goodS {own2 : String} {idx : Nat} {y : MethodName} {cc2 : ByteArray} {mL : Nat} {ret2 : Option FieldType} (h : Cond.code y cc2 mL ret2 ∈ LW) (h1 : Cond.methodLink own2 idx y ∈ LW) (h2 : Cond.static y ∈ LW) (h3 : Cond.initialized y.cls ∈ LW) : GoodIn LW (va_wsS own2 idx y (.code y cc2 mL ret2 :: LW)) := fun w hw => by
  rcases List.mem_append.mp hw with hw | hw
  · have : w ∈ LW := by
      rcases List.mem_cons.mp hw with rfl | hw
      · exact h1
      · rcases List.mem_cons.mp hw with rfl | hw
        · exact h2
        · rcases List.mem_cons.mp hw with rfl | hw
          · exact h3
          · cases hw
    exact ⟨this, LW_good this⟩
  · exact LW_goodIn h w hw
theorem zcl_rev : ∀ {a b : List zAV}, zcl (a.reverse ++ b) → zcl a ∧ zcl b
  | [], b, h => ⟨trivial, h⟩
  | x :: t, b, h => by
    rw [List.reverse_cons, List.append_assoc] at h
    obtain ⟨h1, h2⟩ := zcl_rev (a := t) (b := [x] ++ b) h
    exact ⟨⟨h2.1, h1⟩, h2.2⟩
theorem zcl_app {r : Option zAV} {b : List zAV} (h : ∀ v, r = some v → zcan v) (hb : zcl b) : zcl (r.toList ++ b) := by
  cases r with
  | none => exact hb
  | some v => exact ⟨h v rfl, hb⟩
theorem z_callV {id ci nk idx n mL2 : Nat} {y : MethodName} {cc2 : ByteArray} {ret2 : Option FieldType} {rc : Room} {as rest : List zAV} {post2 : Option zAV → zM → Prop} (hM : Ct X.2.1 E y cc2 mL2 ret2 rc (zR id :: as) μ post2) (hm : zMv y cc2 mL2 ret2 ci n) (hk : zl id = (ci, nk)) (hl : Cond.methodLink own idx y ∈ LW) (hn : as.length = n) (hcat : zcat rest ≤ 8) (hroom : rc.frames + 1 ≤ rm.frames ∧ 8 + (mL2 + 11) + rc.locals ≤ rm.locals) (hrc : rc.cells = 0 ∧ rc.slots = 0) (hd : decode cc pc = .ok (.invokevirtual idx, 3)) (kk : ∀ (r : Option zAV) (μ1 : zM), post2 r μ1 → MW X E cc own rm ret post (pc + 3) ls (r.toList ++ rest) μ1) : MW X E cc own rm ret post pc ls (as.reverse ++ zR id :: rest) μ := fun hC hc hcl hs H locs la hW hS hla => by
  obtain ⟨q, hq, m1, m2, m3, m4, m5, m6⟩ := hm
  obtain ⟨-, -, -, -, o5⟩ := zcl_ok ci q hq
  obtain ⟨hs1, hs2⟩ := zcl_rev hs
  have hM1 := hM hC.2.2.2.2.2.2.1 hc ⟨trivial, hs1⟩
  have hid : id < zn E := zin_n hC.2.2.2.2.2.2.1 hk (by show ci ≠ 99; omega)
  have cw := cwV (R := rm) (n := n) (args := X.2.2.2.2.2.1) hC.2.2.2.1 (LW_goodV (own2 := own) (idx := idx) (C := q.1) m2 hl m3 m4 m5) rfl hrc.1 hrc.2 ⟨m1, m6⟩ hroom
  have hr := va_runV (p := X.1) (l := X.2.1) (e := X.2.2.1) (below := X.2.2.2.2.2.2.1) (meth := X.2.2.2.2.2.2.2.1) (locs := locs) (cells := X.2.2.2.2.2.2.2.2.2.1) (slots := X.2.2.2.2.2.2.2.2.2.2.1) (nL := X.2.2.2.2.2.2.2.2.1.maxLocals) (b := zad E id) (As := as.map (zv (zad E))) (rest := rest.map (zv (zad E))) (g := F0 X.2.2.2.2.1 pc la ((as.reverse ++ zR id :: rest).map (zv (zad E)))) ⟨hC.1, hC.2.1, rfl, hC.2.2.1, hC.2.2.2.1⟩ hM1 cw ⟨zPc_blind, va_recv (D := zD E) (ci := ci) (q0 := id) hC.2.2.2.2.1.1 hW.1 hq (by rw [zws_at hid, zeq_o hk o5]), fun U hU hWm => ⟨rfl, zKst.next hC.2.2.2.2.1 hS hU hWm, by rw [hU]; exact hW⟩⟩ rfl (by rw [List.length_map]; exact hn) hla.2.1 (by simp [zv]) (lv_room (by rw [zcat_sum]; exact hcat)) hd hC.2.2.2.2.2.1
  refine z_after hr hS (fun r μ1 H1 locs1 hp hc1 hcan hw1 hS1 => ?_)
  have := kk r μ1 hp hC hc1 hcl (zcl_app hcan hs2.2) H1 locs1 la hw1 hS1 hla
  rw [List.map_append] at this
  exact this
theorem z_callS {idx n mL2 : Nat} {y : MethodName} {cc2 : ByteArray} {ret2 : Option FieldType} {rc : Room} {as rest : List zAV} {post2 : Option zAV → zM → Prop} (hM : Ct X.2.1 E y cc2 mL2 ret2 rc as μ post2) (hm : zMs y cc2 mL2 ret2 n) (hl : Cond.methodLink own idx y ∈ LW) (hn : as.length = n) (hcat : zcat rest ≤ 8) (hroom : rc.frames + 1 ≤ rm.frames ∧ 8 + (mL2 + 11) + rc.locals ≤ rm.locals) (hrc : rc.cells = 0 ∧ rc.slots = 0) (hd : decode cc pc = .ok (.invokestatic idx, 3)) (kk : ∀ (r : Option zAV) (μ1 : zM), post2 r μ1 → MW X E cc own rm ret post (pc + 3) ls (r.toList ++ rest) μ1) : MW X E cc own rm ret post pc ls (as.reverse ++ rest) μ := fun hC hc hcl hs H locs la hW hS hla => by
  obtain ⟨m2, m3, m5, m6⟩ := hm
  obtain ⟨hs1, hs2⟩ := zcl_rev hs
  have hM1 := hM hC.2.2.2.2.2.2.1 hc hs1
  have cw := va_cwS (R := rm) (n := n) (args := X.2.2.2.2.2.1) hC.2.2.2.1 (LW_goodS (own2 := own) (idx := idx) m2 hl m3 m5) rfl hrc.1 hrc.2 m6 hroom
  have hr := va_runS (p := X.1) (l := X.2.1) (e := X.2.2.1) (below := X.2.2.2.2.2.2.1) (meth := X.2.2.2.2.2.2.2.1) (locs := locs) (cells := X.2.2.2.2.2.2.2.2.2.1) (slots := X.2.2.2.2.2.2.2.2.2.2.1) (nL := X.2.2.2.2.2.2.2.2.1.maxLocals) (As := as.map (zv (zad E))) (rest := rest.map (zv (zad E))) (g := F0 X.2.2.2.2.1 pc la ((as.reverse ++ rest).map (zv (zad E)))) ⟨hC.1, hC.2.1, rfl, hC.2.2.1, hC.2.2.2.1⟩ hM1 cw ⟨zPc_blind, fun U hU hWm => ⟨rfl, zKst.next hC.2.2.2.2.1 hS hU hWm, by rw [hU]; exact hW⟩⟩ rfl (by rw [List.length_map]; exact hn) hla.2.1 (by simp) (lv_room (by rw [zcat_sum]; exact hcat)) hd hC.2.2.2.2.2.1
  refine z_after hr hS (fun r μ1 H1 locs1 hp hc1 hcan hw1 hS1 => ?_)
  have := kk r μ1 hp hC hc1 hcl (zcl_app hcan hs2) H1 locs1 la hw1 hS1 hla
  rw [List.map_append] at this
  exact this
theorem z_callN {host : String} {idx n mL2 : Nat} {y : MethodName} {cc2 : ByteArray} {ret2 : Option FieldType} {rc : Room} {as rest : List zAV} {post2 : Option zAV → zM → Prop} (hM : Ct X.2.1 E y cc2 mL2 ret2 rc as μ post2) (hm : zMs y cc2 mL2 ret2 n) (hl : Cond.methodLinkNest own idx y host ∈ NW) (hn : as.length = n) (hcat : zcat rest ≤ 8) (hroom : rc.frames + 1 ≤ rm.frames ∧ 8 + (mL2 + 11) + rc.locals ≤ rm.locals) (hrc : rc.cells = 0 ∧ rc.slots = 0) (hd : decode cc pc = .ok (.invokestatic idx, 3)) (kk : ∀ (r : Option zAV) (μ1 : zM), post2 r μ1 → MW X E cc own rm ret post (pc + 3) ls (r.toList ++ rest) μ1) : MW X E cc own rm ret post pc ls (as.reverse ++ rest) μ := fun hC hc hcl hs H locs la hW hS hla => by
  obtain ⟨m2, m3, m5, m6⟩ := hm
  obtain ⟨hs1, hs2⟩ := zcl_rev hs
  have hM1 := hM hC.2.2.2.2.2.2.1 hc hs1
  have cw := va_cnB (R := rm) (n := n) (args := X.2.2.2.2.2.1) hC.2.2.2.1 (LW_goodIn m2) rfl hrc.1 hrc.2 (hC.2.2.2.2.1.2.1 _ hl) (hC.2.2.2.1 _ m5) m6 hroom
  have hr := va_runSN (p := X.1) (l := X.2.1) (e := X.2.2.1) (below := X.2.2.2.2.2.2.1) (meth := X.2.2.2.2.2.2.2.1) (locs := locs) (cells := X.2.2.2.2.2.2.2.2.2.1) (slots := X.2.2.2.2.2.2.2.2.2.2.1) (nL := X.2.2.2.2.2.2.2.2.1.maxLocals) (As := as.map (zv (zad E))) (rest := rest.map (zv (zad E))) (g := F0 X.2.2.2.2.1 pc la ((as.reverse ++ rest).map (zv (zad E)))) ⟨hC.1, hC.2.1, rfl, hC.2.2.1, hC.2.2.2.1⟩ hM1 ⟨cw, hC.2.2.2.1 _ m3, trivial⟩ ⟨zPc_blind, fun U hU hWm => ⟨rfl, zKst.next hC.2.2.2.2.1 hS hU hWm, by rw [hU]; exact hW⟩⟩ rfl (by rw [List.length_map]; exact hn) hla.2.1 (by simp) (lv_room (by rw [zcat_sum]; exact hcat)) hd hC.2.2.2.2.2.1
  refine z_after hr hS (fun r μ1 H1 locs1 hp hc1 hcan hw1 hS1 => ?_)
  have := kk r μ1 hp hC hc1 hcl (zcl_app hcan hs2) H1 locs1 la hw1 hS1 hla
  rw [List.map_append] at this
  exact this
theorem z_callV0 {id ci nk idx mL2 : Nat} {y : MethodName} {cc2 : ByteArray} {ret2 : Option FieldType} {rc : Room} {rest : List zAV} {post2 : Option zAV → zM → Prop} (hM : Ct X.2.1 E y cc2 mL2 ret2 rc (zR id :: []) μ post2) (hm : zMv y cc2 mL2 ret2 ci 0) (hk : zl id = (ci, nk)) (hl : Cond.methodLink own idx y ∈ LW) (hcat : zcat rest ≤ 8) (hroom : rc.frames + 1 ≤ rm.frames ∧ 8 + (mL2 + 11) + rc.locals ≤ rm.locals) (hrc : rc.cells = 0 ∧ rc.slots = 0) (hd : decode cc pc = .ok (.invokevirtual idx, 3)) (kk : ∀ (r : Option zAV) (μ1 : zM), post2 r μ1 → MW X E cc own rm ret post (pc + 3) ls (r.toList ++ rest) μ1) : MW X E cc own rm ret post pc ls (zR id :: rest) μ := z_callV (as := []) hM hm hk hl rfl hcat hroom hrc hd kk
theorem z_callV1 {id ci nk idx mL2 : Nat} {y : MethodName} {cc2 : ByteArray} {ret2 : Option FieldType} {rc : Room} {rest : List zAV} {post2 : Option zAV → zM → Prop} {a0 : zAV} (hM : Ct X.2.1 E y cc2 mL2 ret2 rc (zR id :: [a0]) μ post2) (hm : zMv y cc2 mL2 ret2 ci 1) (hk : zl id = (ci, nk)) (hl : Cond.methodLink own idx y ∈ LW) (hcat : zcat rest ≤ 8) (hroom : rc.frames + 1 ≤ rm.frames ∧ 8 + (mL2 + 11) + rc.locals ≤ rm.locals) (hrc : rc.cells = 0 ∧ rc.slots = 0) (hd : decode cc pc = .ok (.invokevirtual idx, 3)) (kk : ∀ (r : Option zAV) (μ1 : zM), post2 r μ1 → MW X E cc own rm ret post (pc + 3) ls (r.toList ++ rest) μ1) : MW X E cc own rm ret post pc ls (a0 :: zR id :: rest) μ := z_callV (as := [a0]) hM hm hk hl rfl hcat hroom hrc hd kk
theorem z_callS1 {idx mL2 : Nat} {y : MethodName} {cc2 : ByteArray} {ret2 : Option FieldType} {rc : Room} {rest : List zAV} {post2 : Option zAV → zM → Prop} {a0 : zAV} (hM : Ct X.2.1 E y cc2 mL2 ret2 rc [a0] μ post2) (hm : zMs y cc2 mL2 ret2 1) (hl : Cond.methodLink own idx y ∈ LW) (hcat : zcat rest ≤ 8) (hroom : rc.frames + 1 ≤ rm.frames ∧ 8 + (mL2 + 11) + rc.locals ≤ rm.locals) (hrc : rc.cells = 0 ∧ rc.slots = 0) (hd : decode cc pc = .ok (.invokestatic idx, 3)) (kk : ∀ (r : Option zAV) (μ1 : zM), post2 r μ1 → MW X E cc own rm ret post (pc + 3) ls (r.toList ++ rest) μ1) : MW X E cc own rm ret post pc ls (a0 :: rest) μ := z_callS (as := [a0]) hM hm hl rfl hcat hroom hrc hd kk
theorem z_callN1 {host : String} {idx mL2 : Nat} {y : MethodName} {cc2 : ByteArray} {ret2 : Option FieldType} {rc : Room} {rest : List zAV} {post2 : Option zAV → zM → Prop} {a0 : zAV} (hM : Ct X.2.1 E y cc2 mL2 ret2 rc [a0] μ post2) (hm : zMs y cc2 mL2 ret2 1) (hl : Cond.methodLinkNest own idx y host ∈ NW) (hcat : zcat rest ≤ 8) (hroom : rc.frames + 1 ≤ rm.frames ∧ 8 + (mL2 + 11) + rc.locals ≤ rm.locals) (hrc : rc.cells = 0 ∧ rc.slots = 0) (hd : decode cc pc = .ok (.invokestatic idx, 3)) (kk : ∀ (r : Option zAV) (μ1 : zM), post2 r μ1 → MW X E cc own rm ret post (pc + 3) ls (r.toList ++ rest) μ1) : MW X E cc own rm ret post pc ls (a0 :: rest) μ := z_callN (as := [a0]) hM hm hl rfl hcat hroom hrc hd kk
theorem z_callV2 {id ci nk idx mL2 : Nat} {y : MethodName} {cc2 : ByteArray} {ret2 : Option FieldType} {rc : Room} {rest : List zAV} {post2 : Option zAV → zM → Prop} {a0 a1 : zAV} (hM : Ct X.2.1 E y cc2 mL2 ret2 rc (zR id :: [a0, a1]) μ post2) (hm : zMv y cc2 mL2 ret2 ci 2) (hk : zl id = (ci, nk)) (hl : Cond.methodLink own idx y ∈ LW) (hcat : zcat rest ≤ 8) (hroom : rc.frames + 1 ≤ rm.frames ∧ 8 + (mL2 + 11) + rc.locals ≤ rm.locals) (hrc : rc.cells = 0 ∧ rc.slots = 0) (hd : decode cc pc = .ok (.invokevirtual idx, 3)) (kk : ∀ (r : Option zAV) (μ1 : zM), post2 r μ1 → MW X E cc own rm ret post (pc + 3) ls (r.toList ++ rest) μ1) : MW X E cc own rm ret post pc ls (a1 :: a0 :: zR id :: rest) μ := z_callV (as := [a0, a1]) hM hm hk hl rfl hcat hroom hrc hd kk
theorem z_callS2 {idx mL2 : Nat} {y : MethodName} {cc2 : ByteArray} {ret2 : Option FieldType} {rc : Room} {rest : List zAV} {post2 : Option zAV → zM → Prop} {a0 a1 : zAV} (hM : Ct X.2.1 E y cc2 mL2 ret2 rc [a0, a1] μ post2) (hm : zMs y cc2 mL2 ret2 2) (hl : Cond.methodLink own idx y ∈ LW) (hcat : zcat rest ≤ 8) (hroom : rc.frames + 1 ≤ rm.frames ∧ 8 + (mL2 + 11) + rc.locals ≤ rm.locals) (hrc : rc.cells = 0 ∧ rc.slots = 0) (hd : decode cc pc = .ok (.invokestatic idx, 3)) (kk : ∀ (r : Option zAV) (μ1 : zM), post2 r μ1 → MW X E cc own rm ret post (pc + 3) ls (r.toList ++ rest) μ1) : MW X E cc own rm ret post pc ls (a1 :: a0 :: rest) μ := z_callS (as := [a0, a1]) hM hm hl rfl hcat hroom hrc hd kk
theorem z_callN2 {host : String} {idx mL2 : Nat} {y : MethodName} {cc2 : ByteArray} {ret2 : Option FieldType} {rc : Room} {rest : List zAV} {post2 : Option zAV → zM → Prop} {a0 a1 : zAV} (hM : Ct X.2.1 E y cc2 mL2 ret2 rc [a0, a1] μ post2) (hm : zMs y cc2 mL2 ret2 2) (hl : Cond.methodLinkNest own idx y host ∈ NW) (hcat : zcat rest ≤ 8) (hroom : rc.frames + 1 ≤ rm.frames ∧ 8 + (mL2 + 11) + rc.locals ≤ rm.locals) (hrc : rc.cells = 0 ∧ rc.slots = 0) (hd : decode cc pc = .ok (.invokestatic idx, 3)) (kk : ∀ (r : Option zAV) (μ1 : zM), post2 r μ1 → MW X E cc own rm ret post (pc + 3) ls (r.toList ++ rest) μ1) : MW X E cc own rm ret post pc ls (a1 :: a0 :: rest) μ := z_callN (as := [a0, a1]) hM hm hl rfl hcat hroom hrc hd kk
theorem z_callV3 {id ci nk idx mL2 : Nat} {y : MethodName} {cc2 : ByteArray} {ret2 : Option FieldType} {rc : Room} {rest : List zAV} {post2 : Option zAV → zM → Prop} {a0 a1 a2 : zAV} (hM : Ct X.2.1 E y cc2 mL2 ret2 rc (zR id :: [a0, a1, a2]) μ post2) (hm : zMv y cc2 mL2 ret2 ci 3) (hk : zl id = (ci, nk)) (hl : Cond.methodLink own idx y ∈ LW) (hcat : zcat rest ≤ 8) (hroom : rc.frames + 1 ≤ rm.frames ∧ 8 + (mL2 + 11) + rc.locals ≤ rm.locals) (hrc : rc.cells = 0 ∧ rc.slots = 0) (hd : decode cc pc = .ok (.invokevirtual idx, 3)) (kk : ∀ (r : Option zAV) (μ1 : zM), post2 r μ1 → MW X E cc own rm ret post (pc + 3) ls (r.toList ++ rest) μ1) : MW X E cc own rm ret post pc ls (a2 :: a1 :: a0 :: zR id :: rest) μ := z_callV (as := [a0, a1, a2]) hM hm hk hl rfl hcat hroom hrc hd kk
theorem z_callS3 {idx mL2 : Nat} {y : MethodName} {cc2 : ByteArray} {ret2 : Option FieldType} {rc : Room} {rest : List zAV} {post2 : Option zAV → zM → Prop} {a0 a1 a2 : zAV} (hM : Ct X.2.1 E y cc2 mL2 ret2 rc [a0, a1, a2] μ post2) (hm : zMs y cc2 mL2 ret2 3) (hl : Cond.methodLink own idx y ∈ LW) (hcat : zcat rest ≤ 8) (hroom : rc.frames + 1 ≤ rm.frames ∧ 8 + (mL2 + 11) + rc.locals ≤ rm.locals) (hrc : rc.cells = 0 ∧ rc.slots = 0) (hd : decode cc pc = .ok (.invokestatic idx, 3)) (kk : ∀ (r : Option zAV) (μ1 : zM), post2 r μ1 → MW X E cc own rm ret post (pc + 3) ls (r.toList ++ rest) μ1) : MW X E cc own rm ret post pc ls (a2 :: a1 :: a0 :: rest) μ := z_callS (as := [a0, a1, a2]) hM hm hl rfl hcat hroom hrc hd kk
theorem z_callN3 {host : String} {idx mL2 : Nat} {y : MethodName} {cc2 : ByteArray} {ret2 : Option FieldType} {rc : Room} {rest : List zAV} {post2 : Option zAV → zM → Prop} {a0 a1 a2 : zAV} (hM : Ct X.2.1 E y cc2 mL2 ret2 rc [a0, a1, a2] μ post2) (hm : zMs y cc2 mL2 ret2 3) (hl : Cond.methodLinkNest own idx y host ∈ NW) (hcat : zcat rest ≤ 8) (hroom : rc.frames + 1 ≤ rm.frames ∧ 8 + (mL2 + 11) + rc.locals ≤ rm.locals) (hrc : rc.cells = 0 ∧ rc.slots = 0) (hd : decode cc pc = .ok (.invokestatic idx, 3)) (kk : ∀ (r : Option zAV) (μ1 : zM), post2 r μ1 → MW X E cc own rm ret post (pc + 3) ls (r.toList ++ rest) μ1) : MW X E cc own rm ret post pc ls (a2 :: a1 :: a0 :: rest) μ := z_callN (as := [a0, a1, a2]) hM hm hl rfl hcat hroom hrc hd kk
theorem z_callV4 {id ci nk idx mL2 : Nat} {y : MethodName} {cc2 : ByteArray} {ret2 : Option FieldType} {rc : Room} {rest : List zAV} {post2 : Option zAV → zM → Prop} {a0 a1 a2 a3 : zAV} (hM : Ct X.2.1 E y cc2 mL2 ret2 rc (zR id :: [a0, a1, a2, a3]) μ post2) (hm : zMv y cc2 mL2 ret2 ci 4) (hk : zl id = (ci, nk)) (hl : Cond.methodLink own idx y ∈ LW) (hcat : zcat rest ≤ 8) (hroom : rc.frames + 1 ≤ rm.frames ∧ 8 + (mL2 + 11) + rc.locals ≤ rm.locals) (hrc : rc.cells = 0 ∧ rc.slots = 0) (hd : decode cc pc = .ok (.invokevirtual idx, 3)) (kk : ∀ (r : Option zAV) (μ1 : zM), post2 r μ1 → MW X E cc own rm ret post (pc + 3) ls (r.toList ++ rest) μ1) : MW X E cc own rm ret post pc ls (a3 :: a2 :: a1 :: a0 :: zR id :: rest) μ := z_callV (as := [a0, a1, a2, a3]) hM hm hk hl rfl hcat hroom hrc hd kk
theorem z_callS4 {idx mL2 : Nat} {y : MethodName} {cc2 : ByteArray} {ret2 : Option FieldType} {rc : Room} {rest : List zAV} {post2 : Option zAV → zM → Prop} {a0 a1 a2 a3 : zAV} (hM : Ct X.2.1 E y cc2 mL2 ret2 rc [a0, a1, a2, a3] μ post2) (hm : zMs y cc2 mL2 ret2 4) (hl : Cond.methodLink own idx y ∈ LW) (hcat : zcat rest ≤ 8) (hroom : rc.frames + 1 ≤ rm.frames ∧ 8 + (mL2 + 11) + rc.locals ≤ rm.locals) (hrc : rc.cells = 0 ∧ rc.slots = 0) (hd : decode cc pc = .ok (.invokestatic idx, 3)) (kk : ∀ (r : Option zAV) (μ1 : zM), post2 r μ1 → MW X E cc own rm ret post (pc + 3) ls (r.toList ++ rest) μ1) : MW X E cc own rm ret post pc ls (a3 :: a2 :: a1 :: a0 :: rest) μ := z_callS (as := [a0, a1, a2, a3]) hM hm hl rfl hcat hroom hrc hd kk
theorem z_callN4 {host : String} {idx mL2 : Nat} {y : MethodName} {cc2 : ByteArray} {ret2 : Option FieldType} {rc : Room} {rest : List zAV} {post2 : Option zAV → zM → Prop} {a0 a1 a2 a3 : zAV} (hM : Ct X.2.1 E y cc2 mL2 ret2 rc [a0, a1, a2, a3] μ post2) (hm : zMs y cc2 mL2 ret2 4) (hl : Cond.methodLinkNest own idx y host ∈ NW) (hcat : zcat rest ≤ 8) (hroom : rc.frames + 1 ≤ rm.frames ∧ 8 + (mL2 + 11) + rc.locals ≤ rm.locals) (hrc : rc.cells = 0 ∧ rc.slots = 0) (hd : decode cc pc = .ok (.invokestatic idx, 3)) (kk : ∀ (r : Option zAV) (μ1 : zM), post2 r μ1 → MW X E cc own rm ret post (pc + 3) ls (r.toList ++ rest) μ1) : MW X E cc own rm ret post pc ls (a3 :: a2 :: a1 :: a0 :: rest) μ := z_callN (as := [a0, a1, a2, a3]) hM hm hl rfl hcat hroom hrc hd kk
theorem z_callV5 {id ci nk idx mL2 : Nat} {y : MethodName} {cc2 : ByteArray} {ret2 : Option FieldType} {rc : Room} {rest : List zAV} {post2 : Option zAV → zM → Prop} {a0 a1 a2 a3 a4 : zAV} (hM : Ct X.2.1 E y cc2 mL2 ret2 rc (zR id :: [a0, a1, a2, a3, a4]) μ post2) (hm : zMv y cc2 mL2 ret2 ci 5) (hk : zl id = (ci, nk)) (hl : Cond.methodLink own idx y ∈ LW) (hcat : zcat rest ≤ 8) (hroom : rc.frames + 1 ≤ rm.frames ∧ 8 + (mL2 + 11) + rc.locals ≤ rm.locals) (hrc : rc.cells = 0 ∧ rc.slots = 0) (hd : decode cc pc = .ok (.invokevirtual idx, 3)) (kk : ∀ (r : Option zAV) (μ1 : zM), post2 r μ1 → MW X E cc own rm ret post (pc + 3) ls (r.toList ++ rest) μ1) : MW X E cc own rm ret post pc ls (a4 :: a3 :: a2 :: a1 :: a0 :: zR id :: rest) μ := z_callV (as := [a0, a1, a2, a3, a4]) hM hm hk hl rfl hcat hroom hrc hd kk
theorem z_callS5 {idx mL2 : Nat} {y : MethodName} {cc2 : ByteArray} {ret2 : Option FieldType} {rc : Room} {rest : List zAV} {post2 : Option zAV → zM → Prop} {a0 a1 a2 a3 a4 : zAV} (hM : Ct X.2.1 E y cc2 mL2 ret2 rc [a0, a1, a2, a3, a4] μ post2) (hm : zMs y cc2 mL2 ret2 5) (hl : Cond.methodLink own idx y ∈ LW) (hcat : zcat rest ≤ 8) (hroom : rc.frames + 1 ≤ rm.frames ∧ 8 + (mL2 + 11) + rc.locals ≤ rm.locals) (hrc : rc.cells = 0 ∧ rc.slots = 0) (hd : decode cc pc = .ok (.invokestatic idx, 3)) (kk : ∀ (r : Option zAV) (μ1 : zM), post2 r μ1 → MW X E cc own rm ret post (pc + 3) ls (r.toList ++ rest) μ1) : MW X E cc own rm ret post pc ls (a4 :: a3 :: a2 :: a1 :: a0 :: rest) μ := z_callS (as := [a0, a1, a2, a3, a4]) hM hm hl rfl hcat hroom hrc hd kk
theorem z_callN5 {host : String} {idx mL2 : Nat} {y : MethodName} {cc2 : ByteArray} {ret2 : Option FieldType} {rc : Room} {rest : List zAV} {post2 : Option zAV → zM → Prop} {a0 a1 a2 a3 a4 : zAV} (hM : Ct X.2.1 E y cc2 mL2 ret2 rc [a0, a1, a2, a3, a4] μ post2) (hm : zMs y cc2 mL2 ret2 5) (hl : Cond.methodLinkNest own idx y host ∈ NW) (hcat : zcat rest ≤ 8) (hroom : rc.frames + 1 ≤ rm.frames ∧ 8 + (mL2 + 11) + rc.locals ≤ rm.locals) (hrc : rc.cells = 0 ∧ rc.slots = 0) (hd : decode cc pc = .ok (.invokestatic idx, 3)) (kk : ∀ (r : Option zAV) (μ1 : zM), post2 r μ1 → MW X E cc own rm ret post (pc + 3) ls (r.toList ++ rest) μ1) : MW X E cc own rm ret post pc ls (a4 :: a3 :: a2 :: a1 :: a0 :: rest) μ := z_callN (as := [a0, a1, a2, a3, a4]) hM hm hl rfl hcat hroom hrc hd kk

theorem z_vret (hd : decode cc pc = .ok (.return_, 1)) (hp : post none μ) : MW X E cc own rm none post pc ls [] μ := z_ret (r := none) (Or.inl ⟨rfl, rfl, hd⟩) hp
theorem z_iret {z : Int} (hd : decode cc pc = .ok (.ireturn, 1)) (hp : post (some (zI z)) μ) : MW X E cc own rm (some .int) post pc ls [zI z] μ := z_ret (r := some (zI z)) (Or.inr (Or.inl ⟨rfl, z, rfl, hd⟩)) hp
theorem z_zret {z : Int} (hz : z = 0 ∨ z = 1) (hd : decode cc pc = .ok (.ireturn, 1)) (hp : post (some (zI z)) μ) : MW X E cc own rm (some .boolean) post pc ls [zI z] μ := z_ret (r := some (zI z)) (Or.inr (Or.inr (Or.inl ⟨rfl, z, hz, rfl, hd⟩))) hp
theorem z_lret {z : Int} (hd : decode cc pc = .ok (.lreturn, 1)) (hp : post (some (zL z)) μ) : MW X E cc own rm (some .long) post pc ls [zL z] μ := z_ret (r := some (zL z)) (Or.inr (Or.inr (Or.inr (Or.inl ⟨rfl, z, rfl, hd⟩)))) hp
theorem z_cret {z : Int} (h0 : 0 ≤ z) (h1 : z < 256) (hd : decode cc pc = .ok (.ireturn, 1)) (hp : post (some (zI z)) μ) : MW X E cc own rm (some .char) post pc ls [zI z] μ := z_ret (r := some (zI z)) (Or.inr (Or.inr (Or.inr (Or.inr (Or.inl ⟨rfl, z, h0, h1, rfl, hd⟩))))) hp
theorem z_bret {z : Int} (h0 : 0 ≤ z) (h1 : z < 128) (hd : decode cc pc = .ok (.ireturn, 1)) (hp : post (some (zI z)) μ) : MW X E cc own rm (some .byte) post pc ls [zI z] μ := z_ret (r := some (zI z)) (Or.inr (Or.inr (Or.inr (Or.inr (Or.inr ⟨rfl, z, h0, h1, rfl, hd⟩))))) hp
/-- the locals at the entry -/
def zent : List zAV → Nat → List zAV
  | [], n => List.replicate n zU
  | v :: t, n => if zwide v then v :: zU :: zent t (n - 2) else v :: zent t (n - 1)
theorem zent_args {ad : Nat → Nat} : ∀ {as : List zAV} {n k i : Nat} {v : zAV}, (zent as n)[i]? = some v → v ≠ zU → (k + i, zv ad v) ∈ lv_args k (as.map (zv ad))
  | [], n, k, i, v, h, hu => by
    have : v = zU := by
      have := List.mem_of_getElem? h
      exact List.eq_of_mem_replicate this
    exact absurd this hu
  | a :: t, n, k, i, v, h, hu => by
    show _ ∈ (k, zv ad a) :: lv_args (if (zv ad a).category = 2 then k + 2 else k + 1) (t.map (zv ad))
    cases hw : zwide a
    · rw [show zent (a :: t) n = a :: zent t (n - 1) by simp [zent, hw]] at h
      rw [if_neg (by rw [zv_cat1 hw]; decide)]
      cases i with
      | zero => cases (Option.some.inj (h : some a = some v)); exact List.mem_cons_self
      | succ i =>
        have := zent_args (ad := ad) (as := t) (n := n - 1) (k := k + 1) (i := i) h hu
        rw [show k + (i + 1) = k + 1 + i by omega]
        exact List.mem_cons_of_mem _ this
    · rw [show zent (a :: t) n = a :: zU :: zent t (n - 2) by simp [zent, hw]] at h
      rw [if_pos (zv_cat2 hw)]
      match i, h with
      | 0, h => cases (Option.some.inj (h : some a = some v)); exact List.mem_cons_self
      | 1, h => cases (Option.some.inj (h : some zU = some v)); exact absurd rfl hu
      | i + 2, h =>
        have := zent_args (ad := ad) (as := t) (n := n - 2) (k := k + 2) (i := i) h hu
        rw [show k + (i + 2) = k + 2 + i by omega]
        exact List.mem_cons_of_mem _ this
theorem zent_cl : ∀ {as : List zAV} {n : Nat}, zcl as → zcl (zent as n)
  | [], 0, _ => trivial
  | [], n + 1, h => ⟨trivial, zent_cl (as := []) (n := n) h⟩
  | a :: t, n, h => by
    unfold zent
    split
    · exact ⟨h.1, trivial, zent_cl h.2⟩
    · exact ⟨h.1, zent_cl h.2⟩
theorem zent_sl {ad : Nat → Nat} : ∀ (as : List zAV), (lg_sl (as.map (zv ad))).length = zcat as
  | [] => rfl
  | a :: t => by
    have ih := zent_sl (ad := ad) t
    unfold lg_sl at ih ⊢
    rw [List.map_cons, List.flatMap_cons, List.length_append, ih]
    cases hw : zwide a
    · rw [if_neg (by rw [zv_cat1 hw]; decide)]; simp [zcat, hw]
    · rw [if_pos (zv_cat2 hw)]; simp [zcat, hw]
theorem zent_len : ∀ {as : List zAV} {n : Nat}, zcat as ≤ n → (zent as n).length = n
  | [], n, _ => by simp [zent]
  | a :: t, n, h => by
    cases hw : zwide a
    · have h2 : 1 + zcat t ≤ n := by simpa [zcat, hw] using h
      rw [show zent (a :: t) n = a :: zent t (n - 1) by simp [zent, hw], List.length_cons, zent_len (by omega)]
      omega
    · have h2 : 2 + zcat t ≤ n := by simpa [zcat, hw] using h
      rw [show zent (a :: t) n = a :: zU :: zent t (n - 2) by simp [zent, hw], List.length_cons, List.length_cons, zent_len (by omega)]
      omega
theorem zMet_ofF {l : Launch} {y : MethodName} {ws ws' : List Cond} {Pc : Array Value → State → Prop} {Qc : Array Value → State → Outcome → State → Prop} {mc ms : Nat} {free : Addr → Prop} {maxL : Nat}
    (hy : plainFor y = true) (hw : ws = Cond.code y cc maxL ret :: ws')
    (body : ∀ p e s m args below meth c s₁, BodyLoose p l y (headSpec ws rm) cc maxL ret e s m args below meth c s₁ → c.maxLocals = maxL → Pc args s →
      W p l e (headSpec ws rm).room s m args below meth c s.heap [] 0 0 (MQ below Qc args s mc ms free) (entryFrame m args maxL)) : Met l y ws rm Pc Qc mc ms free := by
  refine MetFree.of_bodySF (code := cc) (maxLocals := maxL) (ret := ret) hy ?_ ?_
  · intro args s m h hn
    obtain ⟨meth, c, h1, h2, h3, h4, h5, h6, -, -⟩ := Cond.code_spec hn (atoms_spec (ws := ws) h _ (by rw [hw]; exact List.mem_cons_self))
    exact ⟨meth, c, h1, h2, h3, h4, h5, h6⟩
  · intro p e s m args below meth c s₁ B hml hP _
    have hh0 : s₁.heap = s.heap := by rw [B.state]; rfl
    obtain ⟨t, a1, o, b1, b2, b3⟩ := body p e s m args below meth c s₁ B hml hP s₁ hh0 (Stand.of_body B)
    exact ⟨t, o, a1, b1, b2, ⟨b3.1, b3.2⟩⟩
/-- a contract out of the walk from the method's entry -/
theorem Ct.of {l : Launch} {y : MethodName} {mL : Nat} {as : List zAV} (own : String) (ls : List zAV) (hy : plainFor y = true) (hown : y.cls = own) (hrm : rm.cells = 0 ∧ rm.slots = 0) (hls : zent as mL = ls) (hcat : zcat as ≤ mL) (h : ∀ X : zX, X.2.1 = l → zC μ → zcl as → MW X E cc own rm ret post 0 ls [] μ) : Ct l E y cc mL ret rm as μ post := by
  intro hn hc hcl
  subst hown
  refine zMet_ofF (cc := cc) (maxL := mL) (ret := ret) hy rfl ?_
  intro p e s m args below meth c s₁ B hml hv
  obtain ⟨rfl, hK, hw⟩ := hv
  have hts := atoms_spec (ws := .code y cc mL ret :: LW) B.pre
  have hl := lv_entry (as.map (zv (zad E))) (n := mL) (by rw [zent_sl]; exact hcat)
  rw [lg_entry_eq]
  generalize (lg_sl (as.map (zv (zad E))) ++ List.replicate (mL - (lg_sl (as.map (zv (zad E)))).length) Slot.unset).toArray = la at hl ⊢
  refine h (p, l, e, s, m, (as.map (zv (zad E))).toArray, below, meth, c, 0, 0, MQ below (zQ E post) (as.map (zv (zad E))).toArray s 0 0 (zA E)) rfl hc hcl ?_ hc (by rw [← hls]; exact zent_cl hcl) trivial s.heap [] la hw va_S.rf ?_
  · refine ⟨B.exec, B.bytes, findClass_of_methodNamed B.named, fun w hw => hts w (List.mem_cons_of_mem _ hw), hK, ⟨by rw [hrm.1]; exact Nat.le_refl 0, by rw [hrm.2]; exact Nat.le_refl 0⟩, hn, ?_⟩
    intro pc H locs la r ν hv hp hcν hcan hwν hS
    have hlocks := B.notSynchronized
    have hq : ∀ t : State, t.heap = H → s.WarmedH t.vm → zQ E post (as.map (zv (zad E))).toArray s (.returned (r.map (zv (zad E)))) t := fun t ht _ => ⟨⟨r, ν, rfl, hp, hcν, hcan, by rw [ht]; exact hwν⟩, hS.F ht⟩
    rcases hv with ⟨e1, rfl, hd⟩ | ⟨e1, z, rfl, hd⟩ | ⟨e1, z, hz, rfl, hd⟩ | ⟨e1, z, rfl, hd⟩ | ⟨e1, z, z0, z1, rfl, hd⟩ | ⟨e1, z, z0, z1, rfl, hd⟩
    · exact W.vret B.exec B.bytes (B.returns.trans e1) hq hS.2.2 hd hlocks
    · exact W.iret B.exec B.bytes (B.returns.trans e1) hq hS.2.2 hd hlocks
    · exact W.zret B.exec B.bytes (B.returns.trans e1) (by rcases hz with rfl | rfl <;> rfl) hq hS.2.2 hd hlocks
    · exact W.lret B.exec B.bytes (B.returns.trans e1) hq hS.2.2 hd hlocks
    · exact W.zret B.exec B.bytes (B.returns.trans e1) (zchar z0 z1) hq hS.2.2 hd hlocks
    · exact W.zret B.exec B.bytes (B.returns.trans e1) (zbyte z0 z1) hq hS.2.2 hd hlocks
  · refine ⟨by rw [← hls, zent_len hcat]; exact hml.symm, hl.1.trans hml.symm, hl.2.1, fun i v hi hu => ?_⟩
    rw [← hls] at hi
    have := hl.2.2 _ (zent_args (ad := zad E) (k := 0) hi hu)
    rw [Nat.zero_add] at this
    exact this
end ZR2
