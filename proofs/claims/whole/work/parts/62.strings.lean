theorem fS_9 : Cond.fieldLink RJ0 9 "java/lang/String" "value" "[B" ∈ LW := lw_m6 128 rfl rfl
theorem fS_15 : Cond.fieldLink RJ0 15 "java/lang/String" "coder" "B" ∈ LW := lw_m6 129 rfl rfl
theorem fS_38 : Cond.fieldLink RJ0 38 "java/lang/String" "COMPACT_STRINGS" "Z" ∈ LW := lw_m2 149 rfl rfl
theorem fS_1053 : Cond.fieldLink RJ0 1053 "jdk/internal/util/Preconditions" "SIOOBE_FORMATTER" "Ljava/util/function/BiFunction;" ∈ LW := lw_m2 165 rfl rfl
theorem l_J0_335 : Cond.methodLink RJ0 335 yJ0_coder_7d493 ∈ LW := lw_m2 145 rfl rfl
theorem l_J0_492 : Cond.methodLink RJ0 492 yJ0_isLatin1_aae02 ∈ LW := lw_m2 155 rfl rfl
theorem l_J0_495 : Cond.methodLink RJ0 495 yJ1_charAt_3b067 ∈ LW := lw_m2 159 rfl rfl
theorem l_J1_9 : Cond.methodLink RJ1 9 yJ0_checkIndex_df160 ∈ LW := lw_m2 162 rfl rfl
theorem l_J0_1059 : Cond.methodLink RJ0 1059 yJ3_checkIndex_8e157 ∈ LW := lw_m2 167 rfl rfl
/-- an instance method of String -/
def zMw (y : MethodName) (cc : ByteArray) (mL : Nat) (ret : Option FieldType) (n : Nat) : Prop := y.cls = "java/lang/String" ∧ Cond.code y cc mL ret ∈ LW ∧ Cond.instanceMethod y ∈ LW ∧ Cond.selects "java/lang/String" y y ∈ LW ∧ Cond.initialized "java/lang/String" ∈ LW ∧ zOk y n
theorem m_J0_length_8abf5 : zMw yJ0_length_8abf5 cJ0_length_8abf5 1 (some .int) 0 := ⟨rfl, lw_m2 144 rfl rfl, lw_m2 142 rfl rfl, lw_m2 143 rfl rfl, lw_m0 14 rfl rfl, ⟨by decide +kernel, by decide +kernel, by decide +kernel⟩⟩
theorem m_J0_charAt_5068e : zMw yJ0_charAt_5068e cJ0_charAt_5068e 2 (some .char) 1 := ⟨rfl, lw_m2 154 rfl rfl, lw_m2 152 rfl rfl, lw_m2 153 rfl rfl, lw_m0 14 rfl rfl, ⟨by decide +kernel, by decide +kernel, by decide +kernel⟩⟩
theorem m_J0_coder_7d493 : zMw yJ0_coder_7d493 cJ0_coder_7d493 1 (some .byte) 0 := ⟨rfl, lw_m2 148 rfl rfl, lw_m2 146 rfl rfl, lw_m2 147 rfl rfl, lw_m0 14 rfl rfl, ⟨by decide +kernel, by decide +kernel, by decide +kernel⟩⟩
theorem m_J0_isLatin1_aae02 : zMw yJ0_isLatin1_aae02 cJ0_isLatin1_aae02 1 (some .boolean) 0 := ⟨rfl, lw_m2 158 rfl rfl, lw_m2 156 rfl rfl, lw_m2 157 rfl rfl, lw_m0 14 rfl rfl, ⟨by decide +kernel, by decide +kernel, by decide +kernel⟩⟩
theorem zi2c : ∀ k : Nat, k < 128 → ((Int32.ofInt (k : Int)).toUInt32 % 65536).toInt32 = Int32.ofInt (k : Int) := by decide +kernel
theorem zand255 : ∀ k : Nat, k < 128 → zand (k : Int) 255 = (k : Int) := by decide +kernel
section ZSTR
variable {X : zX} {E : zE} {cc : ByteArray} {own : String} {rm : Room} {ret : Option FieldType} {post : Option zAV → zM → Prop} {pc : Nat} {ls st : List zAV} {μ : zM}
theorem z_ldcS (ho : own = RX10) (hd : decode cc pc = .ok (.ldc 59, 2)) (kk : MW X E cc own rm ret post (pc + 2) ls (zR 9000 :: st) μ) : MW X E cc own rm ret post pc ls st μ := by
  subst ho
  exact z_stk kk (fun hs _ _ => ⟨trivial, hs⟩) (fun H locs la hs hc hC hW hS hla kk => va_ldcS hC.1 hC.2.1 hC.2.2.1 hC.2.2.2.2.1.2.2.1.2.2.2.1 hd kk)
theorem z_i2c {z : Int} (h0 : 0 ≤ z) (h1 : z < 128) (hd : decode cc pc = .ok (.i2c, 1)) (kk : MW X E cc own rm ret post (pc + 1) ls (zI z :: st) μ) : MW X E cc own rm ret post pc ls (zI z :: st) μ :=
  z_stk kk (fun hs _ _ => hs) (fun H locs la hs hc hC hW hS hla kk => lv_i2c hC.1 hC.2.1 hd (by have := zi2c z.toNat (by omega); rw [show ((z.toNat : Nat) : Int) = z by omega] at this; exact this) kk)
theorem z_fval {idx : Nat} (hl : Cond.fieldLink own idx "java/lang/String" "value" "[B" ∈ LW) (hd : decode cc pc = .ok (.getfield idx, 3)) (kk : MW X E cc own rm ret post (pc + 3) ls (zR 9003 :: st) μ) : MW X E cc own rm ret post pc ls (zR 9000 :: st) μ :=
  z_stk kk (fun hs _ _ => ⟨trivial, hs.2⟩) (fun H locs la hs hc hC hW hS hla kk => vk_getf (v := .ref (zad E 9003)) hC.1 hC.2.1 (hC.2.2.2.2.1.2.2.1.2.2.1.1 0 (by decide)).2.2.1 hS hC.2.2.1 (hC.2.2.2.1 _ hl) (fun _ h => h) hd kk)
theorem z_fcod {idx : Nat} (hl : Cond.fieldLink own idx "java/lang/String" "coder" "B" ∈ LW) (hd : decode cc pc = .ok (.getfield idx, 3)) (kk : MW X E cc own rm ret post (pc + 3) ls (zI 0 :: st) μ) : MW X E cc own rm ret post pc ls (zR 9000 :: st) μ :=
  z_stk kk (fun hs _ _ => ⟨⟨by decide, by decide⟩, hs.2⟩) (fun H locs la hs hc hC hW hS hla kk => vk_getf (v := .int 0) hC.1 hC.2.1 (hC.2.2.2.2.1.2.2.1.2.2.1.1 0 (by decide)).2.1 hS hC.2.2.1 (hC.2.2.2.1 _ hl) (fun _ h => h) hd kk)
theorem z_gcom {idx : Nat} (hl : Cond.fieldLink own idx "java/lang/String" "COMPACT_STRINGS" "Z" ∈ LW) (hd : decode cc pc = .ok (.getstatic idx, 3)) (kk : MW X E cc own rm ret post (pc + 3) ls (zI 1 :: st) μ) : MW X E cc own rm ret post pc ls st μ :=
  z_stk kk (fun hs _ _ => ⟨⟨by decide, by decide⟩, hs⟩) (fun H locs la hs hc hC hW hS hla kk => va_gets (v := .int 1) hC.1 hC.2.1 hC.2.2.2.2.1.2.2.1.2.2.2.2.1 hS hC.2.2.1 (hC.2.2.2.1 _ hl) (fun _ h => h) hd kk)
theorem z_gsio {idx : Nat} (hl : Cond.fieldLink own idx "jdk/internal/util/Preconditions" "SIOOBE_FORMATTER" "Ljava/util/function/BiFunction;" ∈ LW) (hd : decode cc pc = .ok (.getstatic idx, 3)) (kk1 : MW X E cc own rm ret post (pc + 3) ls (zU :: st) μ) (kk2 : MW X E cc own rm ret post (pc + 3) ls (zR 9004 :: st) μ) : MW X E cc own rm ret post pc ls st μ := fun hC hc hcl hs H locs la hw hS hla => by
  rcases hC.2.2.2.2.1.2.2.1.2.2.2.2.2 with q | q
  · exact z_stk kk1 (fun hs _ _ => ⟨trivial, hs⟩) (fun H locs la hs hc hC hW hS hla kk => va_gets (v := .null) hC.1 hC.2.1 q hS hC.2.2.1 (hC.2.2.2.1 _ hl) (fun _ h => h) hd kk) hC hc hcl hs H locs la hw hS hla
  · exact z_stk kk2 (fun hs _ _ => ⟨trivial, hs⟩) (fun H locs la hs hc hC hW hS hla kk => va_gets (v := .ref (zad E 9004)) hC.1 hC.2.1 q hS hC.2.2.1 (hC.2.2.2.1 _ hl) (fun _ h => h) hd kk) hC hc hcl hs H locs la hw hS hla
theorem z_blen (hd : decode cc pc = .ok (.arraylength, 1)) (kk : MW X E cc own rm ret post (pc + 1) ls (zI 65 :: st) μ) : MW X E cc own rm ret post pc ls (zR 9003 :: st) μ :=
  z_stk kk (fun hs _ _ => ⟨⟨by decide, by decide⟩, hs.2⟩) (fun H locs la hs hc hC hW hS hla kk => va_tlen (v := Int32.ofInt 65) hC.1 hC.2.1 (hC.2.2.2.2.1.2.2.1.2.2.1.1 0 (by decide)).2.2.2 hS rfl hd kk)
theorem z_bld {i : Int} (h0 : 0 ≤ i) (h1 : i < 65) (hd : decode cc pc = .ok (.baload, 1)) (kk : MW X E cc own rm ret post (pc + 1) ls (zI (zwt i.toNat) :: st) μ) : MW X E cc own rm ret post pc ls (zI i :: zR 9003 :: st) μ :=
  z_stk kk (fun hs _ _ => ⟨zi_z, hs.2.2⟩) (fun H locs la hs hc hC hW hS hla kk => by
    have e : zv (zad E) (zI (zwt i.toNat)) = .int _ := congrArg Value.int (Int32.ofInt_toInt _)
    rw [List.map_cons, e] at kk
    exact va_tb (f := fun j => .int (([zWt].getD 0 []).getD j 0)) hC.1 hC.2.1 (hC.2.2.2.2.1.2.2.1.2.2.1.1 0 (by decide)).2.2.2 hS (zi_in (n := 65) h0 h1 hs.1) (by rw [zi_c hs.1]; rfl) hd kk)
theorem z_callW {idx n mL2 : Nat} {y : MethodName} {cc2 : ByteArray} {ret2 : Option FieldType} {rc : Room} {as rest : List zAV} {post2 : Option zAV → zM → Prop} (hM : Ct X.2.1 E y cc2 mL2 ret2 rc (zR 9000 :: as) μ post2) (hm : zMw y cc2 mL2 ret2 n) (hl : Cond.methodLink own idx y ∈ LW) (hn : as.length = n) (hcat : zcat rest ≤ 8) (hroom : rc.frames + 1 ≤ rm.frames ∧ 8 + (mL2 + 11) + rc.locals ≤ rm.locals) (hrc : rc.cells = 0 ∧ rc.slots = 0) (hd : decode cc pc = .ok (.invokevirtual idx, 3)) (kk : ∀ (r : Option zAV) (μ1 : zM), post2 r μ1 → MW X E cc own rm ret post (pc + 3) ls (r.toList ++ rest) μ1) : MW X E cc own rm ret post pc ls (as.reverse ++ zR 9000 :: rest) μ := fun hC hc hcl hs H locs la hW hS hla => by
  obtain ⟨m1, m2, m3, m4, m5, m6⟩ := hm
  obtain ⟨hs1, hs2⟩ := zcl_rev hs
  have hM1 := hM hC.2.2.2.2.2.2.1 hc ⟨trivial, hs1⟩
  have cw := cwV (R := rm) (n := n) (args := X.2.2.2.2.2.1) hC.2.2.2.1 (LW_goodV (own2 := own) (idx := idx) (C := "java/lang/String") m2 hl m3 m4 m5) rfl hrc.1 hrc.2 ⟨m1, m6⟩ hroom
  have hcv := vk_recv (i := 0) hC.2.2.2.2.1.2.2.1.2.2.1 (by decide) hS
  have hr := va_runV (p := X.1) (l := X.2.1) (e := X.2.2.1) (below := X.2.2.2.2.2.2.1) (meth := X.2.2.2.2.2.2.2.1) (locs := locs) (cells := X.2.2.2.2.2.2.2.2.2.1) (slots := X.2.2.2.2.2.2.2.2.2.2.1) (nL := X.2.2.2.2.2.2.2.2.1.maxLocals) (b := zad E 9000) (As := as.map (zv (zad E))) (rest := rest.map (zv (zad E))) (g := F0 X.2.2.2.2.1 pc la ((as.reverse ++ zR 9000 :: rest).map (zv (zad E)))) ⟨hC.1, hC.2.1, rfl, hC.2.2.1, hC.2.2.2.1⟩ hM1 cw ⟨zPc_blind, hcv, fun U hU hWm => ⟨rfl, zKst.next hC.2.2.2.2.1 hS hU hWm, by rw [hU]; exact hW⟩⟩ rfl (by rw [List.length_map]; exact hn) hla.2.1 (by simp [zv]) (lv_room (by rw [zcat_sum]; exact hcat)) hd hC.2.2.2.2.2.1
  refine z_after hr hS (fun r μ1 H1 locs1 hp hc1 hcan hw1 hS1 => ?_)
  have := kk r μ1 hp hC hc1 hcl (zcl_app hcan hs2.2) H1 locs1 la hw1 hS1 hla
  rw [List.map_append] at this
  exact this
theorem z_callW0 {idx mL2 : Nat} {y : MethodName} {cc2 : ByteArray} {ret2 : Option FieldType} {rc : Room} {rest : List zAV} {post2 : Option zAV → zM → Prop} (hM : Ct X.2.1 E y cc2 mL2 ret2 rc [zR 9000] μ post2) (hm : zMw y cc2 mL2 ret2 0) (hl : Cond.methodLink own idx y ∈ LW) (hcat : zcat rest ≤ 8) (hroom : rc.frames + 1 ≤ rm.frames ∧ 8 + (mL2 + 11) + rc.locals ≤ rm.locals) (hrc : rc.cells = 0 ∧ rc.slots = 0) (hd : decode cc pc = .ok (.invokevirtual idx, 3)) (kk : ∀ (r : Option zAV) (μ1 : zM), post2 r μ1 → MW X E cc own rm ret post (pc + 3) ls (r.toList ++ rest) μ1) : MW X E cc own rm ret post pc ls (zR 9000 :: rest) μ := z_callW (as := []) hM hm hl rfl hcat hroom hrc hd kk
theorem z_callW1 {idx mL2 : Nat} {y : MethodName} {cc2 : ByteArray} {ret2 : Option FieldType} {rc : Room} {rest : List zAV} {post2 : Option zAV → zM → Prop} {a0 : zAV} (hM : Ct X.2.1 E y cc2 mL2 ret2 rc (zR 9000 :: [a0]) μ post2) (hm : zMw y cc2 mL2 ret2 1) (hl : Cond.methodLink own idx y ∈ LW) (hcat : zcat rest ≤ 8) (hroom : rc.frames + 1 ≤ rm.frames ∧ 8 + (mL2 + 11) + rc.locals ≤ rm.locals) (hrc : rc.cells = 0 ∧ rc.slots = 0) (hd : decode cc pc = .ok (.invokevirtual idx, 3)) (kk : ∀ (r : Option zAV) (μ1 : zM), post2 r μ1 → MW X E cc own rm ret post (pc + 3) ls (r.toList ++ rest) μ1) : MW X E cc own rm ret post pc ls (a0 :: zR 9000 :: rest) μ := z_callW (as := [a0]) hM hm hl rfl hcat hroom hrc hd kk
end ZSTR
set_option maxRecDepth 100000 in
set_option maxHeartbeats 4000000 in
theorem k_J0_coder_7d493 {l : Launch} {E : zE} {μ : zM} : Ct l E yJ0_coder_7d493 cJ0_coder_7d493 1 (some .byte) ({ frames := 0, cells := 0, slots := 0, locals := 0 }) [zR 9000] μ (fun r ν => r = some (zI 0) ∧ ν = μ) := by
  refine Ct.of RJ0 [zR 9000] (by decide +kernel) rfl ⟨rfl, rfl⟩ rfl (Nat.le_of_ble_eq_true rfl) (fun X hX hc0 ha0 => ?_)
  subst hX
  refine z_gcom fS_38 dJ0_coder_7d493_0 ?_
  refine z_ifeq (tgt := 13) dJ0_coder_7d493_3 (by decide) (fun h_3 => ?_) (fun h_3 => ?_)
  · exact absurd h_3 (by decide)
  · refine z_aload_0 dJ0_coder_7d493_6 ?_
    refine z_fcod fS_15 dJ0_coder_7d493_7 ?_
    refine z_goto (tgt := 14) dJ0_coder_7d493_10 (by decide) ?_
    exact z_bret (by omega) (by omega) dJ0_coder_7d493_14 (⟨rfl, rfl⟩)
set_option maxRecDepth 100000 in
set_option maxHeartbeats 4000000 in
theorem k_J0_isLatin1_aae02 {l : Launch} {E : zE} {μ : zM} : Ct l E yJ0_isLatin1_aae02 cJ0_isLatin1_aae02 1 (some .boolean) ({ frames := 0, cells := 0, slots := 0, locals := 0 }) [zR 9000] μ (fun r ν => r = some (zI (zb True)) ∧ ν = μ) := by
  refine Ct.of RJ0 [zR 9000] (by decide +kernel) rfl ⟨rfl, rfl⟩ rfl (Nat.le_of_ble_eq_true rfl) (fun X hX hc0 ha0 => ?_)
  subst hX
  refine z_gcom fS_38 dJ0_isLatin1_aae02_0 ?_
  refine z_ifeq (tgt := 17) dJ0_isLatin1_aae02_3 (by decide) (fun h_3 => ?_) (fun h_3 => ?_)
  · exact absurd h_3 (by decide)
  · refine z_aload_0 dJ0_isLatin1_aae02_6 ?_
    refine z_fcod fS_15 dJ0_isLatin1_aae02_7 ?_
    refine z_ifne (tgt := 17) dJ0_isLatin1_aae02_10 (by decide) (fun h_10 => ?_) (fun h_10 => ?_)
    · exact absurd h_10 (by decide)
    · refine z_iconst dJ0_isLatin1_aae02_13 (by decide) ?_
      refine z_goto (tgt := 18) dJ0_isLatin1_aae02_14 (by decide) ?_
      exact z_zret (by decide) dJ0_isLatin1_aae02_18 (⟨by rw [zb_t trivial], rfl⟩)
set_option maxRecDepth 100000 in
set_option maxHeartbeats 4000000 in
theorem k_J0_length_8abf5 {l : Launch} {E : zE} {μ : zM} : Ct l E yJ0_length_8abf5 cJ0_length_8abf5 1 (some .int) ({ frames := 1, cells := 0, slots := 0, locals := 40 }) [zR 9000] μ (fun r ν => r = some (zI 65) ∧ ν = μ) := by
  refine Ct.of RJ0 [zR 9000] (by decide +kernel) rfl ⟨rfl, rfl⟩ rfl (Nat.le_of_ble_eq_true rfl) (fun X hX hc0 ha0 => ?_)
  subst hX
  refine z_aload_0 dJ0_length_8abf5_0 ?_
  refine z_fval fS_9 dJ0_length_8abf5_1 ?_
  refine z_blen dJ0_length_8abf5_4 ?_
  refine z_aload_0 dJ0_length_8abf5_5 ?_
  refine z_callW0 (k_J0_coder_7d493) m_J0_coder_7d493 l_J0_335 (Nat.le_of_ble_eq_true rfl) ⟨Nat.le_of_ble_eq_true rfl, Nat.le_of_ble_eq_true rfl⟩ ⟨rfl, rfl⟩ dJ0_length_8abf5_6 (fun r μ1 hp => ?_)
  obtain ⟨rfl, rfl⟩ := hp
  refine z_ishr dJ0_length_8abf5_9 ?_
  exact z_iret dJ0_length_8abf5_10 (by refine ⟨?_, rfl⟩; rw [show zshr 65 0 = 65 by decide])
set_option maxRecDepth 100000 in
set_option maxHeartbeats 4000000 in
theorem k_J3_checkIndex_8e157a {l : Launch} {E : zE} {μ : zM} {i n : Int} (hi : 0 ≤ i ∧ i < n) : Ct l E yJ3_checkIndex_8e157 cJ3_checkIndex_8e157 3 (some .int) ({ frames := 0, cells := 0, slots := 0, locals := 0 }) [zI i, zI n, zU] μ (fun r ν => r = some (zI i) ∧ ν = μ) := by
  refine Ct.of RJ3 [zI i, zI n, zU] (by decide +kernel) rfl ⟨rfl, rfl⟩ rfl (Nat.le_of_ble_eq_true rfl) (fun X hX hc0 ha0 => ?_)
  subst hX
  refine z_iload_0 dJ3_checkIndex_8e157_0 ?_
  refine z_iflt (tgt := 9) dJ3_checkIndex_8e157_1 (by decide) (fun h_1 => ?_) (fun h_1 => ?_)
  · exact absurd h_1 (by omega)
  · refine z_iload_0 dJ3_checkIndex_8e157_4 ?_
    refine z_iload_1 dJ3_checkIndex_8e157_5 ?_
    refine z_icmplt (tgt := 16) dJ3_checkIndex_8e157_6 (by decide) (fun h_6 => ?_) (fun h_6 => ?_)
    · refine z_iload_0 dJ3_checkIndex_8e157_16 ?_
      exact z_iret dJ3_checkIndex_8e157_17 (⟨rfl, rfl⟩)
    · exact absurd h_6 (by omega)
set_option maxRecDepth 100000 in
set_option maxHeartbeats 4000000 in
theorem k_J3_checkIndex_8e157b {l : Launch} {E : zE} {μ : zM} {i n : Int} (hi : 0 ≤ i ∧ i < n) : Ct l E yJ3_checkIndex_8e157 cJ3_checkIndex_8e157 3 (some .int) ({ frames := 0, cells := 0, slots := 0, locals := 0 }) [zI i, zI n, zR 9004] μ (fun r ν => r = some (zI i) ∧ ν = μ) := by
  refine Ct.of RJ3 [zI i, zI n, zR 9004] (by decide +kernel) rfl ⟨rfl, rfl⟩ rfl (Nat.le_of_ble_eq_true rfl) (fun X hX hc0 ha0 => ?_)
  subst hX
  refine z_iload_0 dJ3_checkIndex_8e157_0 ?_
  refine z_iflt (tgt := 9) dJ3_checkIndex_8e157_1 (by decide) (fun h_1 => ?_) (fun h_1 => ?_)
  · exact absurd h_1 (by omega)
  · refine z_iload_0 dJ3_checkIndex_8e157_4 ?_
    refine z_iload_1 dJ3_checkIndex_8e157_5 ?_
    refine z_icmplt (tgt := 16) dJ3_checkIndex_8e157_6 (by decide) (fun h_6 => ?_) (fun h_6 => ?_)
    · refine z_iload_0 dJ3_checkIndex_8e157_16 ?_
      exact z_iret dJ3_checkIndex_8e157_17 (⟨rfl, rfl⟩)
    · exact absurd h_6 (by omega)
set_option maxRecDepth 100000 in
set_option maxHeartbeats 4000000 in
theorem k_J0_checkIndex_df160 {l : Launch} {E : zE} {μ : zM} {i n : Int} (hi : 0 ≤ i ∧ i < n) : Ct l E yJ0_checkIndex_df160 cJ0_checkIndex_df160 2 none ({ frames := 1, cells := 0, slots := 0, locals := 22 }) [zI i, zI n] μ (fun r ν => r = none ∧ ν = μ) := by
  refine Ct.of RJ0 [zI i, zI n] (by decide +kernel) rfl ⟨rfl, rfl⟩ rfl (Nat.le_of_ble_eq_true rfl) (fun X hX hc0 ha0 => ?_)
  subst hX
  refine z_iload_0 dJ0_checkIndex_df160_0 ?_
  refine z_iload_1 dJ0_checkIndex_df160_1 ?_
  refine z_gsio fS_1053 dJ0_checkIndex_df160_2 ?_ ?_
  · refine z_callS3 (k_J3_checkIndex_8e157a hi) m_J3_checkIndex_8e157 l_J0_1059 (Nat.le_of_ble_eq_true rfl) ⟨Nat.le_of_ble_eq_true rfl, Nat.le_of_ble_eq_true rfl⟩ ⟨rfl, rfl⟩ dJ0_checkIndex_df160_5 (fun r μ1 hp => ?_)
    obtain ⟨rfl, rfl⟩ := hp
    refine z_pop dJ0_checkIndex_df160_8 rfl ?_
    exact z_vret dJ0_checkIndex_df160_9 (⟨rfl, rfl⟩)
  · refine z_callS3 (k_J3_checkIndex_8e157b hi) m_J3_checkIndex_8e157 l_J0_1059 (Nat.le_of_ble_eq_true rfl) ⟨Nat.le_of_ble_eq_true rfl, Nat.le_of_ble_eq_true rfl⟩ ⟨rfl, rfl⟩ dJ0_checkIndex_df160_5 (fun r μ1 hp => ?_)
    obtain ⟨rfl, rfl⟩ := hp
    refine z_pop dJ0_checkIndex_df160_8 rfl ?_
    exact z_vret dJ0_checkIndex_df160_9 (⟨rfl, rfl⟩)
set_option maxRecDepth 100000 in
set_option maxHeartbeats 4000000 in
theorem k_J1_charAt_3b067 {l : Launch} {E : zE} {μ : zM} {i : Int} (hi : 0 ≤ i ∧ i < 65) : Ct l E yJ1_charAt_3b067 cJ1_charAt_3b067 2 (some .char) ({ frames := 2, cells := 0, slots := 0, locals := 43 }) [zR 9003, zI i] μ (fun r ν => r = some (zI (zwt i.toNat)) ∧ ν = μ) := by
  refine Ct.of RJ1 [zR 9003, zI i] (by decide +kernel) rfl ⟨rfl, rfl⟩ rfl (Nat.le_of_ble_eq_true rfl) (fun X hX hc0 ha0 => ?_)
  subst hX
  have wb := zwt_b i.toNat (by omega)
  refine z_iload_1 dJ1_charAt_3b067_0 ?_
  refine z_aload_0 dJ1_charAt_3b067_1 ?_
  refine z_blen dJ1_charAt_3b067_2 ?_
  refine z_callS2 (k_J0_checkIndex_df160 hi) m_J0_checkIndex_df160 l_J1_9 (Nat.le_of_ble_eq_true rfl) ⟨Nat.le_of_ble_eq_true rfl, Nat.le_of_ble_eq_true rfl⟩ ⟨rfl, rfl⟩ dJ1_charAt_3b067_3 (fun r μ1 hp => ?_)
  obtain ⟨rfl, rfl⟩ := hp
  refine z_aload_0 dJ1_charAt_3b067_6 ?_
  refine z_iload_1 dJ1_charAt_3b067_7 ?_
  refine z_bld (by omega) (by omega) dJ1_charAt_3b067_8 ?_
  refine z_sipush dJ1_charAt_3b067_9 (by decide) ?_
  refine z_iand dJ1_charAt_3b067_12 ?_
  rw [show zand (zwt i.toNat) 255 = zwt i.toNat by have := zand255 (zwt i.toNat).toNat (by omega); rw [show (((zwt i.toNat).toNat : Nat) : Int) = zwt i.toNat by omega] at this; exact this]
  refine z_i2c (by omega) (by omega) dJ1_charAt_3b067_13 ?_
  exact z_cret (by omega) (by omega) dJ1_charAt_3b067_14 (⟨rfl, rfl⟩)
set_option maxRecDepth 100000 in
set_option maxHeartbeats 4000000 in
theorem k_J0_charAt_5068e {l : Launch} {E : zE} {μ : zM} {i : Int} (hi : 0 ≤ i ∧ i < 65) : Ct l E yJ0_charAt_5068e cJ0_charAt_5068e 2 (some .char) ({ frames := 3, cells := 0, slots := 0, locals := 110 }) [zR 9000, zI i] μ (fun r ν => r = some (zI (zwt i.toNat)) ∧ ν = μ) := by
  refine Ct.of RJ0 [zR 9000, zI i] (by decide +kernel) rfl ⟨rfl, rfl⟩ rfl (Nat.le_of_ble_eq_true rfl) (fun X hX hc0 ha0 => ?_)
  subst hX
  have wb := zwt_b i.toNat (by omega)
  refine z_aload_0 dJ0_charAt_5068e_0 ?_
  refine z_callW0 (k_J0_isLatin1_aae02) m_J0_isLatin1_aae02 l_J0_492 (Nat.le_of_ble_eq_true rfl) ⟨Nat.le_of_ble_eq_true rfl, Nat.le_of_ble_eq_true rfl⟩ ⟨rfl, rfl⟩ dJ0_charAt_5068e_1 (fun r μ1 hp => ?_)
  obtain ⟨rfl, rfl⟩ := hp
  refine z_ifeq (tgt := 16) dJ0_charAt_5068e_4 (by decide) (fun h_4 => ?_) (fun h_4 => ?_)
  · replace h_4 := zb_0.mp h_4
    exact absurd trivial h_4
  · replace h_4 := zb_n.mp h_4
    refine z_aload_0 dJ0_charAt_5068e_7 ?_
    refine z_fval fS_9 dJ0_charAt_5068e_8 ?_
    refine z_iload_1 dJ0_charAt_5068e_11 ?_
    refine z_callS2 (k_J1_charAt_3b067 hi) m_J1_charAt_3b067 l_J0_495 (Nat.le_of_ble_eq_true rfl) ⟨Nat.le_of_ble_eq_true rfl, Nat.le_of_ble_eq_true rfl⟩ ⟨rfl, rfl⟩ dJ0_charAt_5068e_12 (fun r μ1 hp => ?_)
    obtain ⟨rfl, rfl⟩ := hp
    exact z_cret (by omega) (by omega) dJ0_charAt_5068e_15 (⟨rfl, rfl⟩)
