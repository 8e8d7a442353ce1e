/-! THE CLAIM OUT OF ONE WALK OF THE LAW'S BODY. Your part is whole_start (and what it stands on); all else here is the same for every law, but numbers. -/
def R_law : String := "OneRoomLaw"
def lw_P (b : Addr) (xs : List Int32) (args : Array Value) (s : State) : Prop := args = #[.ref b] ∧ s.IntsAt b xs ∧ xs.length ≤ 3072 ∧ (Jvm.Cond.and given_1 narrow_1).before args s = true
def lw_Q (_ : Array Value) (s : State) (o : Outcome) (t : State) : Prop := o = .returned (some (.int 1)) ∧ Framed s o t [] 600000 7302250
def lw_Z (below : List Frame) (a : Array Value) (s : State) : State → Prop := fun t => ∃ o, t.status = .running ∧ Ended t below o ∧ lw_Q a s o t
/-- the law's own end, with 1 on the stack, nothing written that was there before, its room as the claim has it -/
theorem lw_ret {p : Program} {l : Launch} {e : Env} {s : State} {m : MethodId} {below : List Frame} {meth : Method} {c : Code} {b : Nat} (hx : p.tables.exec = Jvm.exec) (hb : c.code = code) (hr : meth.sig.returnType = ret) (hlocks : meth.locks = false) {pc : Nat} {H : Heap} {ls : Array Slot} (hdg : decode code pc = .ok (.ireturn, 1)) : W p l e room_1 s m #[Value.ref b] below meth c H [] 600000 7302250 (lw_Z below #[Value.ref b] s) (F0 m pc ls [.int 1]) := by
  intro T hT X
  obtain ⟨fs, hret, hrun, hended, hW, hframe⟩ := X.leave (v := some (.int 1)) (hlocks := hlocks) (fun h => by rw [hr] at h; cases h)
  have hmeth' : T.vm.method? m = some meth := X.method'
  refine ⟨T.setFrames fs, ?_, .returned (some (.int 1)), hrun, hended, rfl, ⟨_, rfl⟩, hW, hframe⟩
  jvm_step X.here [X.here.top, hx, hb, hdg, hmeth', hr, ret, narrow_b1]
  (try refine ⟨rfl, ?_⟩); (try refine ⟨rfl, ?_⟩)
  first | (intro acts; rw [hret _ acts rfl rfl rfl]) | rw [hret _ _ rfl rfl rfl]
  exact Steps.refl _
/-- what holds at the law's entry: the machine, the code, the tables' words (any of lw_tbl by 'hts w (by decide +kernel)'), the script of L ints xs at the cell b, what the Statement gives of the start (any of its parts by flat_of_before) -/
def lw_At (p : Program) (s : State) (m : MethodId) (meth : Method) (c : Code) (b L : Nat) (xs : Nat → Int32) : Prop :=
  p.tables.exec = Jvm.exec ∧ c.code = code ∧ meth.sig.returnType = ret ∧ c.maxLocals = 4 ∧ s.vm.findClass R_law = some m.cls ∧ (∀ w ∈ lw_tbl, w.before #[Value.ref b] s = true) ∧ va_X b L xs s s.heap ∧ b < s.heap.size ∧ meth.locks = false ∧ (Jvm.Cond.and given_1 narrow_1).before #[Value.ref b] s = true
def kw9 (p : Program) (s : State) (m : MethodId) (args : Array Value) (c : Code) (cc : ByteArray) (own : String) (E : zE) : Prop := p.tables.exec = Jvm.exec ∧ c.code = cc ∧ s.vm.findClass own = some m.cls ∧ (∀ w ∈ LW, w.before args s = true) ∧ zKst E s ∧ k9L E ∧ kAO s
section ZLAW
variable {p : Program} {l : Launch} {e : Env} {R : Room} {s : State} {m : MethodId} {args : Array Value} {below : List Frame} {meth : Method} {c : Code} {H : Heap} {locs : List Loc} {kc ks : Nat} {Q : State → Prop} {cc : ByteArray} {own : String} {E : zE} {μ : zM} {n pc : Nat} {la : Array Slot} {st : List zAV}
theorem kw_new {ci idx : Nat} {q : vw_C} (hC : kw9 p s m args c cc own E) (ty : Nat → FieldType) (hq : vwCl[ci]? = some q) (hty : ∀ k, k < q.2.2 → parseFieldDescriptor (q.2.1 k).2.2.1 = some (ty k)) (hdv : ∀ j, j < q.2.2 → ∀ b, (zrefs ci)[j]? = some b → defaultValue (ty j) = if b then .null else .int 0) (hcl : Cond.classLink own idx q.1 ∈ LW) (hin : Cond.instantiable q.1 q.2.2 ∈ LW) (hini : Cond.initialized q.1 ∈ LW) (hl : zl n = (ci, q.2.2)) (hb : ∀ (j : Nat) (b : Bool), (zrefs ci)[j]? = some b → μ n (j : Int) = if b then -1 else 0) (hr : kc + 1 ≤ R.cells ∧ ks + q.2.2 ≤ R.slots) (hd : decode cc pc = .ok (.new idx, 3)) (hM : k9M E μ n H) (hS : va_S (zA E) s.heap H locs) (kk : ∀ H1, k9M E μ (n + 1) H1 → va_S (zA E) s.heap H1 locs → W p l e R s m args below meth c H1 locs (kc + 1) (ks + q.2.2) Q (F0 m (pc + 3) la ((zR n :: st).map (zv (zad E))))) : W p l e R s m args below meth c H locs kc ks Q (F0 m pc la (st.map (zv (zad E)))) := by
  obtain ⟨o1, -, o3, o4, o5⟩ := zcl_ok ci q hq
  have hn : n < zN := zl_lt hl (by omega)
  have hKn := hC.2.2.2.2.1.1.1 ci q hq
  refine W.newcK (g := F0 m pc la (st.map (zv (zad E)))) (h := zad E n) (n := q.2.2) hC.1 hC.2.1 hC.2.2.1 (hC.2.2.2.1 _ hcl) (hC.2.2.2.1 _ hin) (hC.2.2.2.1 _ hini) rfl hd hr.1 hr.2 hKn.2.1 hM.2.2 (fun H1 kC hkC e1 z1 o1' => ?_)
  refine W.eq (g2 := F0 m (pc + 3) la ((zR n :: st).map (zv (zad E)))) rfl (kk H1 (k9Ms hC.2.2.2.2.2.1 hn hM (hC.2.2.2.2.1.2.2.2.1 _ ?_) z1 o1' ?_) (k9S hS (by rw [z1, hM.2.2]) (by rw [hM.2.2]; exact o1')))
  · rw [← hM.2.2]; exact hS.1
  · rw [zeq_o hl o5]
    refine ⟨q, hq, (u_born ty hC.2.2.2.1 o1 hKn hkC e1 hty).to (fun j hj => ?_)⟩
    have hlen : j < (zrefs ci).length := by rw [← o4]; exact hj
    have hbj : (zrefs ci)[j]? = some ((zrefs ci)[j]) := List.getElem?_eq_getElem hlen
    rw [hdv j hj _ hbj]
    show _ = (zfs (zad E) (μ n) (zrefs ci) 0).getD j .null
    rw [List.getD_eq_getElem?_getD, zfs_at hbj, Nat.zero_add, hb j _ hbj]
    cases (zrefs ci)[j] <;> rfl
theorem kw_call {h idx mL2 : Nat} {y : MethodName} {cc2 : ByteArray} {rc : Room} {post2 : zM → Nat → Prop} (hC : kw9 p s m args c cc own E) (hM9 : CtI l E y cc2 mL2 rc h μ post2) (hm : zMi y cc2 mL2 0) (hl : Cond.methodLink own idx y ∈ LW) (hn : n = h + 1) (hcat : zcat st ≤ 8) (hroom : rc.frames + 1 ≤ R.frames ∧ 8 + (mL2 + 11) + rc.locals ≤ R.locals) (hr : kc + rc.cells ≤ R.cells ∧ ks + rc.slots ≤ R.slots) (hd : decode cc pc = .ok (.invokespecial idx, 3)) (hla : la.size = c.maxLocals) (hM : k9M E μ n H) (hS : va_S (zA E) s.heap H locs) (kk : ∀ (μ1 : zM) (n1 : Nat) (H1 : Heap) (locs1 : List Loc), post2 μ1 n1 → k9M E μ1 n1 H1 → va_S (zA E) s.heap H1 locs1 → W p l e R s m args below meth c H1 locs1 (kc + rc.cells) (ks + rc.slots) Q (F0 m (pc + 3) la (st.map (zv (zad E))))) : W p l e R s m args below meth c H locs kc ks Q (F0 m pc la ((zR h :: st).map (zv (zad E)))) := by
  subst hn
  obtain ⟨m2, m3, m5, m7, m6⟩ := hm
  have hM1 := hM9 hC.2.2.2.2.2.1
  have cw := cwI (R := R) 0 hC.2.2.2.1 (LW_goodIn m2) rfl rfl rfl (hC.2.2.2.1 _ m5) (hC.2.2.2.1 _ hl) (hC.2.2.2.1 _ m3) m7 m6 hroom
  have hr2 := va_runI (p := p) (l := l) (e := e) (below := below) (meth := meth) (locs := locs) (cells := kc) (slots := ks) (nL := c.maxLocals) (As := []) (b := zad E h) (rest := st.map (zv (zad E))) (g := F0 m pc la ((zR h :: st).map (zv (zad E)))) ⟨hC.1, hC.2.1, rfl, hC.2.2.1, hC.2.2.2.1⟩ hM1 cw ⟨kPc_blind, fun U hU hWm => ⟨rfl, ⟨zKst.next hC.2.2.2.2.1 hS hU hWm, kAO.moved hWm.alike hC.2.2.2.2.2.2⟩, by rw [hU]; exact hM⟩⟩ rfl rfl hla rfl (lv_room (by rw [zcat_sum]; exact hcat)) hd hr
  exact k_after hr2 hS kk
end ZLAW
set_option maxRecDepth 100000 in
set_option maxHeartbeats 4000000 in
theorem lw_env {p : Program} {s : State} {m : MethodId} {meth : Method} {c : Code} {b L : Nat} {xs : Nat → Int32} (C0 : lw_At p s m meth c b L xs) : ∃ E : zE, zKst E s ∧ k9L E ∧ kAO s ∧ zn E = zN ∧ zsl E = L ∧ zad E 9002 = b ∧ zad E 0 = s.heap.size ∧ zA E = fun q : Nat => s.heap.size ≤ q := by
  obtain ⟨hx, hb, hr, hml, hown, hts, hX, hbl, hlocks, hgv⟩ := C0
  have hLW : ∀ w ∈ LW, w.before #[Value.ref b] s = true := fun w hw => hts w (LW_tbl hw)
  have hA : ∀ a : Nat, a < s.heap.size → ¬ (fun q : Nat => s.heap.size ≤ q) a := fun a h => Nat.not_le.mpr h
  have hs := flat_of_before _ hgv
  obtain ⟨c0, i0, hK0⟩ := u_known (C := RX0) (T := TX0) (N := 10) (n := 10) hLW u_0 (hLW _ (lw_m1 3 rfl rfl))
  obtain ⟨c1, i1, hK1⟩ := u_known (C := RX1) (T := TX1) (N := 6) (n := 6) hLW u_1 (hLW _ (lw_m0 36 rfl rfl))
  obtain ⟨c2, i2, hK2⟩ := u_known (C := RX2) (T := TX2) (N := 4) (n := 4) hLW u_2 (hLW _ (lw_m0 30 rfl rfl))
  obtain ⟨c3, i3, hK3⟩ := u_known (C := RX3) (T := TX3) (N := 8) (n := 8) hLW u_3 (hLW _ (lw_m1 149 rfl rfl))
  obtain ⟨c4, i4, hK4⟩ := u_known (C := RX4) (T := TX4) (N := 15) (n := 15) hLW u_4 (hLW _ (lw_m0 236 rfl rfl))
  obtain ⟨c5, i5, hK5⟩ := u_known (C := RX5) (T := TX5) (N := 7) (n := 7) hLW u_5 (hLW _ (lw_m0 76 rfl rfl))
  obtain ⟨c6, i6, hK6⟩ := u_known (C := RX6) (T := TX6) (N := 1) (n := 1) hLW u_6 (hLW _ (lw_m1 9 rfl rfl))
  obtain ⟨c7, i7, hK7⟩ := u_known (C := RX7) (T := TX7) (N := 4) (n := 4) hLW u_7 (hLW _ (lw_m0 157 rfl rfl))
  obtain ⟨c8, i8, hK8⟩ := u_known (C := RX8) (T := TX8) (N := 7) (n := 7) hLW u_8 (hLW _ (lw_m1 115 rfl rfl))
  obtain ⟨c9, i9, hK9⟩ := u_known (C := RX9) (T := TX9) (N := 6) (n := 6) hLW u_9 (hLW _ (lw_m0 122 rfl rfl))
  obtain ⟨c10, i10, hK10⟩ := u_known (C := RX10) (T := TX10) (N := 6) (n := 6) hLW u_10 (hLW _ (lw_m0 205 rfl rfl))
  obtain ⟨c11, i11, hK11⟩ := u_known (C := RX11) (T := TX11) (N := 13) (n := 13) hLW u_11 (hLW _ (lw_m0 22 rfl rfl))
  obtain ⟨c12, i12, hK12⟩ := u_known (C := RX12) (T := TX12) (N := 42) (n := 42) hLW u_12 (hLW _ (lw_m4 125 rfl rfl))
  obtain ⟨aI, kI, pI, nI1, nI2, nI3⟩ := Cond.arrayClass_spec (hLW (.arrayClass .int) (lw_m0 74 rfl rfl))
  obtain ⟨aZ, kZ, pZ, nZ1, nZ2, nZ3⟩ := Cond.arrayClass_spec (hLW (.arrayClass .boolean) (lw_m0 73 rfl rfl))
  have hAA : kAA s := hts (.arrayOver (.array .int)) (List.mem_append_right _ (List.mem_append_left _ (List.mem_of_getElem? (i := 211) (l := tables_1_1) (by decide +kernel))))
  have hAH : va_AO RX2 s := hts (.arrayOver (.object RX2)) (List.mem_append_right _ (List.mem_append_left _ (List.mem_of_getElem? (i := 203) (l := tables_1_1) (by decide +kernel))))
  obtain ⟨pR, aR, kR, nR1, -, nR3, nR4, nR5⟩ := kAA_spec hAA
  obtain ⟨pH, aH, kH, nH1, -, nH3, nH4, nH5⟩ := Cond.arrayOver_spec hAH
  obtain ⟨tN, eN, hTN⟩ := va_Tof (args := #[Value.ref b]) (s := s) (tm := .static "OneRoom$Text" "NUMBERS" "[I") (ty := .int) (N := 12) (f := fun j => .int (zNum.getD j 0)) (A := fun q : Nat => s.heap.size ≤ q) (by decide) (hs _ (by decide +kernel)) (va_eqt (hs _ (by decide +kernel))) (fun j hj => va_eqt (hs _ ((by decide +kernel : ∀ j, j < 12 → Cond.eq (.elem (.static "OneRoom$Text" "NUMBERS" "[I") (.int (Int32.ofNat j))) (.int (zNum.getD j 0)) ∈ flatC (Jvm.Cond.and given_1 narrow_1)) j hj))) hA
  have hZN := va_Zref (A := fun q : Nat => s.heap.size ≤ q) (hts (_) (List.mem_append_right _ (List.mem_append_right _ (List.mem_append_right _ (List.mem_append_left _ (List.mem_of_getElem? (i := 194) (l := tables_1_3) (by decide +kernel))))))) (hts (_) (List.mem_append_right _ (List.mem_append_left _ (List.mem_of_getElem? (i := 7) (l := tables_1_1) (by decide +kernel))))) eN hA
  obtain ⟨adK, adV, hSS, hSe⟩ := vk_Sof (args := #[Value.ref b]) (s := s) (N := 1) (tm := fun _ => .string "OneRoom$Text" 59) (len := [65]) (byt := [zWt]) (A := fun q : Nat => s.heap.size ≤ q) (fun i hi => by have hi0 : i = 0 := (by omega); subst hi0; decide) (fun i _ => hs _ (by decide +kernel)) (fun i _ => hs _ (by decide +kernel)) (fun i _ => hs _ (by decide +kernel)) (fun i hi => by have hi0 : i = 0 := (by omega); subst hi0; exact hs _ (by decide +kernel)) (fun i hi j hj => by have hi0 : i = 0 := (by omega); subst hi0; exact hs _ ((by decide +kernel : ∀ j, j < 65 → Cond.eq (.elem (.field (.string "OneRoom$Text" 59) "java/lang/String" "value" "[B") (.int (Int32.ofNat j))) (.int (zWt.getD j 0)) ∈ flatC (Jvm.Cond.and given_1 narrow_1)) j hj)) (fun i j hi hj hij => absurd (show i = j by omega) hij) hA
  have hR := vk_R.of (hts (.stringRef "OneRoom$Text" 59 "wall board fade door bed sleeper lie noise cried turned rung out ") (List.mem_append_right _ (List.mem_append_right _ (List.mem_append_right _ (List.mem_append_left _ (List.mem_of_getElem? (i := 140) (l := tables_1_3) (by decide +kernel))))))) (hSe 0 (by decide))
  have hZS := va_Zof (A := fun q : Nat => s.heap.size ≤ q) (hts (_) (List.mem_append_right _ (List.mem_append_right _ (List.mem_append_right _ (List.mem_append_left _ (List.mem_of_getElem? (i := 150) (l := tables_1_3) (by decide +kernel))))))) (hts (_) (List.mem_append_right _ (List.mem_append_left _ (List.mem_of_getElem? (i := 14) (l := tables_1_1) (by decide +kernel))))) (va_eqi (args := #[Value.ref b]) (s := s) (C := "java/lang/String") (n := "COMPACT_STRINGS") (d := "Z") (z := 1) (hs _ (by decide +kernel))) hA
  have hZq := va_Zqof (C := "jdk/internal/util/Preconditions") (n := "SIOOBE_FORMATTER") (d := "Ljava/util/function/BiFunction;") (A := fun q : Nat => s.heap.size ≤ q) (hts (_) (List.mem_append_right _ (List.mem_append_right _ (List.mem_append_right _ (List.mem_append_left _ (List.mem_of_getElem? (i := 166) (l := tables_1_3) (by decide +kernel))))))) (hts (_) (List.mem_append_right _ (List.mem_append_left _ (List.mem_of_getElem? (i := 16) (l := tables_1_1) (by decide +kernel))))) (hs _ (by decide +kernel)) hA
  obtain ⟨aF, hZF⟩ : ∃ aF : Nat, va_Z "jdk/internal/util/Preconditions" "SIOOBE_FORMATTER" "Ljava/util/function/BiFunction;" .null (fun q : Nat => s.heap.size ≤ q) s s.heap ∨ va_Z "jdk/internal/util/Preconditions" "SIOOBE_FORMATTER" "Ljava/util/function/BiFunction;" (.ref aF) (fun q : Nat => s.heap.size ≤ q) s s.heap := by
    rcases hZq with h | ⟨t, h⟩
    · exact ⟨0, Or.inl h⟩
    · exact ⟨t, Or.inr h⟩
  refine ⟨((fun k => [c0, c1, c2, c3, c4, c5, c6, c7, c8, c9, c10, c11, c12].getD k c0, fun k => [i0, i1, i2, i3, i4, i5, i6, i7, i8, i9, i10, i11, i12].getD k i0), fun k => if k < 9000 then s.heap.size + k else [adK 0, tN, b, adV 0].getD (k - 9000) aF, fun k => [aI, aZ, aR].getD k aH, fun q => s.heap.size ≤ q, zN, L, xs), ⟨⟨?_, ?_⟩, fun w hw => va_Nw.of (NW_on hw) (hts w (NW_tbl hw)), ⟨hZN, hTN, ⟨fun i hi => ?_, fun i j hi hj _ => by omega⟩, hR, hZS, hZF⟩, fun _ h => h, hX, hbl, Nat.not_le.mpr hbl⟩, fun k hk => ?_, ⟨hAA, hAH⟩, rfl, rfl, rfl, rfl, rfl⟩
  · intro k q hq
    match k, hq with
    | 0, hq => cases hq; exact hK0
    | 1, hq => cases hq; exact hK1
    | 2, hq => cases hq; exact hK2
    | 3, hq => cases hq; exact hK3
    | 4, hq => cases hq; exact hK4
    | 5, hq => cases hq; exact hK5
    | 6, hq => cases hq; exact hK6
    | 7, hq => cases hq; exact hK7
    | 8, hq => cases hq; exact hK8
    | 9, hq => cases hq; exact hK9
    | 10, hq => cases hq; exact hK10
    | 11, hq => cases hq; exact hK11
    | 12, hq => cases hq; exact hK12
    | k + 13, hq => simp [vwCl] at hq
  · intro k q hq
    match k, hq with
    | 0, hq => cases hq; exact ⟨fun N z => ⟨(fun k h => (by cases h)), kI, nI2, pI, nI3⟩, nI1⟩
    | 1, hq => cases hq; exact ⟨fun N z => ⟨(fun k h => (by cases h)), kZ, nZ2, pZ, nZ3⟩, nZ1⟩
    | 2, hq => cases hq; exact ⟨fun N z => ⟨(fun k h => (by cases h)), kR, nR3, pR, nR4⟩, nR5⟩
    | 3, hq => cases hq; exact ⟨fun N z => ⟨(fun k h => (by cases h)), kH, nH3, pH, nH4⟩, kH, pH, nH3, nH4, nH1, nH5⟩
    | k + 4, hq => simp [ztys] at hq
  · obtain rfl : i = 0 := by omega
    exact hSS.1 0 hi
  · have hk : k ≤ 420 := hk
    exact (if_pos (show k < 9000 by omega)).trans (congrArg (fun z => z + k) (if_pos (show 0 < 9000 by omega) : (if 0 < 9000 then s.heap.size + 0 else [adK 0, tN, b, adV 0].getD (0 - 9000) aF) = s.heap.size + 0).symm)
