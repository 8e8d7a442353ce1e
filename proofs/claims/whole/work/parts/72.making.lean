def kAA (U : State) : Prop := (Cond.arrayOver (.array .int)).before #[] U = true
theorem kAA_spec {U : State} (h : kAA U) : ∃ comp c k, U.vm.findClass (FieldType.array .int).toString = some comp ∧ (U.vm.classes.findIdx? fun (x : Class) => match x.kind with | .array component _ => component == comp | _ => false) = some c ∧ U.vm.classes[c]? = some k ∧ k.kind = .array comp (.array .int) ∧ U.vm.findClass ("[" ++ (FieldType.array .int).toString) = some c := by
  unfold kAA Cond.before at h
  simp only [Cond.holds, Cond.value, beq_iff_eq] at h
  cases hc : U.vm.findClass (FieldType.array .int).toString with
  | none => simp [hc] at h
  | some comp =>
    simp only [hc, Option.bind_some, Option.bind_eq_some_iff, Option.map_eq_some_iff] at h
    obtain ⟨c, hi, k, hk, hb⟩ := h
    obtain ⟨hlt, hp, -⟩ := Array.findIdx?_eq_some_iff_getElem.mp hi
    have hkk : U.vm.classes[c] = k := (Array.getElem?_eq_some_iff.mp hk).2
    rw [hkk] at hp
    cases hkind : k.kind with
    | array component ty =>
      rw [hkind] at hb hp
      simp at hb hp
      refine ⟨comp, c, k, rfl, hi, hk, ?_, hb.2⟩
      rw [hkind, hp, hb.1]
    | _ => rw [hkind] at hb; simp at hb
theorem kAA.moved {u U : State} (hvm : u.vm.Alike U.vm) (h : kAA u) : kAA U := by
  obtain ⟨comp, c, k, h1, h2, h3, h4, h5⟩ := kAA_spec h
  obtain ⟨k', hk', he⟩ := hvm.2.2 _ _ h3
  have hi : (U.vm.classes.findIdx? fun (x : Class) => match x.kind with | .array component _ => component == comp | _ => false) = some c := by
    have a := va_idx_bare u.vm comp
    have b := va_idx_bare U.vm comp
    have hb : U.vm.bare = u.vm.bare := by first | exact hvm.bare_eq | exact hvm.bare_eq.symm
    rw [hb] at b
    exact b.symm.trans (a.trans h2)
  have hkind : k'.kind = .array comp (.array .int) := by rw [he]; exact h4
  have f1 : U.vm.findClass (FieldType.array .int).toString = some comp := by rw [hvm.findClass]; exact h1
  have f2 : U.vm.findClass ("[" ++ (FieldType.array .int).toString) = some c := by rw [hvm.findClass]; exact h5
  unfold kAA Cond.before
  simp only [Cond.holds, Cond.value, beq_iff_eq]
  rw [f1, Option.bind_some, Option.bind_eq_some_iff]
  refine ⟨c, hi, ?_⟩
  rw [hk', Option.map_some, hkind, f2]
  simp
theorem kAA.same {u U : State} (hv : U.vm = u.vm) (h : kAA u) : kAA U := kAA.moved (by rw [hv]; exact Vm.Alike.refl _) h
def kAO (U : State) : Prop := kAA U ∧ va_AO RX2 U
theorem kAO.moved {u U : State} (hvm : u.vm.Alike U.vm) (h : kAO u) : kAO U := ⟨kAA.moved hvm h.1, va_AO.moved hvm h.2⟩
/-- the first n cells stand, and no others -/
def k9M (E : zE) (μ : zM) (n : Nat) (H : Heap) : Prop := va_P (zD E) vwCl (zws E μ n) H ∧ va_D (zA E) (zws E μ n) ∧ H.size = zad E n
def k9L (E : zE) : Prop := ∀ k, k ≤ zN → zad E k = zad E 0 + k
def k9W (X : zX) (rm : Room) (H : Heap) (locs : List Loc) (kc ks : Nat) (g : JFrame) : Prop := W X.1 X.2.1 X.2.2.1 rm X.2.2.2.1 X.2.2.2.2.1 X.2.2.2.2.2.1 X.2.2.2.2.2.2.1 X.2.2.2.2.2.2.2.1 X.2.2.2.2.2.2.2.2.1 H locs kc ks X.2.2.2.2.2.2.2.2.2.2.2 g
def k9K (X : zX) (E : zE) (cc : ByteArray) (own : String) (rm : Room) (post : zM → Nat → Prop) : Prop :=
  X.1.tables.exec = Jvm.exec ∧ X.2.2.2.2.2.2.2.2.1.code = cc ∧ X.2.2.2.1.vm.findClass own = some X.2.2.2.2.1.cls ∧ (∀ w ∈ LW, w.before X.2.2.2.2.2.1 X.2.2.2.1 = true) ∧ zKst E X.2.2.2.1 ∧ k9L E ∧ X.2.2.2.2.2.2.2.1.name = "<init>" ∧ kAO X.2.2.2.1 ∧
  (∀ (pc : Nat) (H : Heap) (locs : List Loc) (la : Array Slot) (μ : zM) (n : Nat), decode cc pc = .ok (.return_, 1) → post μ n → k9M E μ n H → va_S (zA E) X.2.2.2.1.heap H locs → k9W X rm H locs rm.cells rm.slots (F0 X.2.2.2.2.1 pc la []))
def MK (X : zX) (E : zE) (cc : ByteArray) (own : String) (rm : Room) (post : zM → Nat → Prop) (pc : Nat) (ls st : List zAV) (μ : zM) (n kc ks : Nat) : Prop :=
  k9K X E cc own rm post → X.2.2.2.1.heap.size + kc = zad E n → ∀ (H : Heap) (locs : List Loc) (la : Array Slot), k9M E μ n H → va_S (zA E) X.2.2.2.1.heap H locs → zLh (zad E) la X.2.2.2.2.2.2.2.2.1.maxLocals ls → k9W X rm H locs kc ks (F0 X.2.2.2.2.1 pc la (st.map (zv (zad E))))
theorem zws_s {E : zE} {μ : zM} {n : Nat} : zws E μ (n + 1) = zws E μ n ++ [(zad E n, zeq E (zl n) (μ n))] := by
  unfold zws
  rw [List.range_succ, List.map_append]
  rfl
theorem kW_size {X : zX} {rm : Room} {H : Heap} {locs : List Loc} {kc ks : Nat} {g : JFrame} (h : H.size ≤ X.2.2.2.1.heap.size + kc → k9W X rm H locs kc ks g) : k9W X rm H locs kc ks g := fun T hT Xs => h (by rw [← hT]; exact Xs.heapSize) T hT Xs
theorem k9sz {E : zE} {μ : zM} {n : Nat} {H : Heap} (hE : k9L E) (hn : n ≤ zN) (h0 : 0 < n) (hP : va_P (zD E) vwCl (zws E μ n) H) (hu : H.size ≤ zad E n) : H.size = zad E n := by
  have a := (hP (n - 1) _ (zws_at (by omega))).lt
  have b := hE n hn
  have c := hE (n - 1) (by omega)
  have a : zad E (n - 1) < H.size := a
  omega
section ZMK
variable {X : zX} {E : zE} {cc : ByteArray} {own : String} {rm : Room} {post : zM → Nat → Prop} {pc : Nat} {ls st : List zAV} {μ : zM} {n kc ks : Nat}
theorem k_stk {pc' : Nat} {st' : List zAV} (kk : MK X E cc own rm post pc' ls st' μ n kc ks) (h : ∀ (H : Heap) (locs : List Loc) (la : Array Slot), k9K X E cc own rm post → zLh (zad E) la X.2.2.2.2.2.2.2.2.1.maxLocals ls → k9W X rm H locs kc ks (F0 X.2.2.2.2.1 pc' la (st'.map (zv (zad E)))) → k9W X rm H locs kc ks (F0 X.2.2.2.2.1 pc la (st.map (zv (zad E))))) : MK X E cc own rm post pc ls st μ n kc ks :=
  fun hC hy H locs la hM hS hla => h H locs la hC hla (kk hC hy H locs la hM hS hla)
theorem k_iconst {z : Int} (hd : decode cc pc = .ok (.iconst z, 1)) (kk : MK X E cc own rm post (pc + 1) ls (zI z :: st) μ n kc ks) : MK X E cc own rm post pc ls st μ n kc ks := k_stk kk (fun H locs la hC hla kk => lv_iconst hC.1 hC.2.1 hd rfl kk)
theorem k_bipush {z : Int} (hd : decode cc pc = .ok (.bipush z, 2)) (hr : -128 ≤ z ∧ z ≤ 127) (kk : MK X E cc own rm post (pc + 2) ls (zI z :: st) μ n kc ks) : MK X E cc own rm post pc ls st μ n kc ks := k_stk kk (fun H locs la hC hla kk => lv_bipush hC.1 hC.2.1 hd (zb_8 hr.1 hr.2) kk)
theorem k_sipush {z : Int} (hd : decode cc pc = .ok (.sipush z, 3)) (hr : -32768 ≤ z ∧ z ≤ 32767) (kk : MK X E cc own rm post (pc + 3) ls (zI z :: st) μ n kc ks) : MK X E cc own rm post pc ls st μ n kc ks := k_stk kk (fun H locs la hC hla kk => lv_sipush hC.1 hC.2.1 hd (zb_16 hr.1 hr.2) kk)
theorem k_dup {v : zAV} (hd : decode cc pc = .ok (.dup, 1)) (hv : zwide v = false) (kk : MK X E cc own rm post (pc + 1) ls (v :: v :: st) μ n kc ks) : MK X E cc own rm post pc ls (v :: st) μ n kc ks := k_stk kk (fun H locs la hC hla kk => lv_dup hC.1 hC.2.1 hd (zv_cat1 hv) kk)
theorem k_aload {tl : List zAV} {z : Nat} (hd : decode cc pc = .ok (.aload_n 0, 1)) (kk : MK X E cc own rm post (pc + 1) (zR z :: tl) (zR z :: st) μ n kc ks) : MK X E cc own rm post pc (zR z :: tl) st μ n kc ks := k_stk kk (fun H locs la hC hla kk => lv_aload_n hC.1 hC.2.1 hd rfl (hla.2.2.2 0 (zR z) rfl (by intro h; cases h)) kk)
theorem k_ret (hd : decode cc pc = .ok (.return_, 1)) (h1 : kc ≤ rm.cells) (h2 : ks ≤ rm.slots) (hp : post μ n) : MK X E cc own rm post pc ls [] μ n kc ks := fun hC _ H locs la hM hS _ => W.widen h1 h2 (hC.2.2.2.2.2.2.2.2 pc H locs la μ n hd hp hM hS)
theorem k_obj {idx : Nat} {z : Nat} (hl : Cond.methodLink own idx objectInit ∈ LW) (hi : Cond.instanceMethod objectInit ∈ LW) (hc : Cond.code objectInit ⟨#[0xb1]⟩ 1 none ∈ LW) (hcat : zcat st ≤ 8) (hr : 1 ≤ rm.frames ∧ 28 ≤ rm.locals) (hd : decode cc pc = .ok (.invokespecial idx, 3)) (kk : MK X E cc own rm post (pc + 3) ls st μ n kc ks) : MK X E cc own rm post pc ls (zR z :: st) μ n kc ks := fun hC hy H locs la hM hS hla => by
  refine W.objInit (g := F0 X.2.2.2.2.1 pc la ((zR z :: st).map (zv (zad E)))) (rest := st.map (zv (zad E))) (a := zad E z) hC.1 hC.2.1 hC.2.2.1 (hC.2.2.2.1 _ hl) (hC.2.2.2.1 _ hi) (hC.2.2.2.1 _ hc) rfl hla.2.1 rfl hd hr.1 ?_ ?_
  · rw [zcat_sum]
    show 2 * 0 + _ + 12 ≤ _
    omega
  · exact W.eq (g2 := F0 X.2.2.2.2.1 (pc + 3) la (st.map (zv (zad E)))) rfl (kk hC hy H locs la hM hS hla)
theorem k9Ms {H H1 : Heap} (hE : k9L E) (hn : n < zN) (hM : k9M E μ n H) (hA : zA E (zad E n)) (z1 : H1.size = zad E n + 1) (o1 : ∀ q, q < zad E n → H1[q]? = H[q]?) (he : va_at (zD E) vwCl (zad E n, zeq E (zl n) (μ n)) H1) : k9M E μ (n + 1) H1 := by
  obtain ⟨hP, hD, hz⟩ := hM
  have hk : ∀ (k : Nat) (x : Nat × va_E), (zws E μ n)[k]? = some x → H1[x.1]? = H[x.1]? := fun k x hx => o1 x.1 (by rw [← hz]; exact (hP k x hx).lt)
  refine ⟨?_, ?_, ?_⟩
  · rw [zws_s]
    refine (hP.kept hk).app (fun k x hx => ?_)
    have hz : k < 1 := (List.getElem?_eq_some_iff.mp hx).1
    rw [show k = 0 by omega] at hx
    cases hx
    exact he
  · rw [zws_s]
    exact hD.push hP hz.symm hA
  · rw [z1, hE (n + 1) (by omega), hE n (by omega)]
    omega
theorem k9S {H H1 : Heap} {H0 : Heap} {locs : List Loc} {A : Nat → Prop} (hS : va_S A H0 H locs) (z1 : H1.size = H.size + 1) (o1 : ∀ q, q < H.size → H1[q]? = H[q]?) : va_S A H0 H1 locs := ⟨Nat.le_trans hS.1 (by omega), fun x h1 h2 => (o1 x (Nat.lt_of_lt_of_le h1 hS.1)).trans (hS.2.1 x h1 h2), hS.2.2⟩
theorem k_newi {z : Nat} (ha : Cond.arrayClass .int ∈ LW) (hl : zl n = (20, z)) (hb : ∀ j : Nat, μ n (j : Int) = 0) (hz : z < 10000) (hr : kc + 1 ≤ rm.cells ∧ ks + z ≤ rm.slots) (hd : decode cc pc = .ok (.newarray .int, 2)) (kk : MK X E cc own rm post (pc + 2) ls (zR n :: st) μ (n + 1) (kc + 1) (ks + z)) : MK X E cc own rm post pc ls (zI (z : Int) :: st) μ n kc ks := fun hC hy H locs la hM hS hla => by
  have hn : n < zN := zl_lt hl (by decide)
  have hcl : (Int32.ofInt (z : Int)).toNatClampNeg = z := by rw [zi_c ⟨by omega, by omega⟩]; omega
  refine va_newaK (atype := .int) (g := F0 X.2.2.2.2.1 pc la ((zI (z : Int) :: st).map (zv (zad E)))) (n := Int32.ofInt (z : Int)) (rest := st.map (zv (zad E))) (h := zad E n) (N := z) hC.1 hC.2.1 (hC.2.2.2.1 _ ha) rfl hd rfl ?_ hcl ?_ hr.1 hr.2 hM.2.2 (fun H1 cA e1 z1 o1 hAr hNm => ?_)
  · rw [← zi_0, zi_lt ⟨by omega, by omega⟩ (by decide)]; omega
  · show z * _ ≤ _; simp only [newarray.typeOf, componentBytes]; omega
  · have hc0 : cA = zcs E 0 := Option.some.inj (hNm.symm.trans (hC.2.2.2.2.1.1.2 0 (zcs E 0, .int) rfl).2)
    refine W.eq (g2 := F0 X.2.2.2.2.1 (pc + 2) la ((zR n :: st).map (zv (zad E)))) rfl (kk hC (by rw [← Nat.add_assoc, hy, hC.2.2.2.2.2.1 (n + 1) (by omega), hC.2.2.2.2.2.1 n (by omega)]; omega) H1 locs la (k9Ms hC.2.2.2.2.2.1 hn hM (hC.2.2.2.2.1.2.2.2.1 _ ?_) z1 o1 ?_) (k9S hS (by rw [z1, hM.2.2]) (by rw [hM.2.2]; exact o1)) hla)
    · rw [← hM.2.2]; exact hS.1
    · rw [zeq_20 hl]
      show H1[zad E n]? = some (arrV (zcs E 0) z (fun j => .int (Int32.ofInt (μ n (j : Int)))))
      rw [e1, hc0, show (fun j : Nat => Value.int (Int32.ofInt (μ n (j : Int)))) = (fun _ => defaultValue (newarray.typeOf .int)) from funext (fun j => by rw [hb j]; rfl)]
theorem k_newz {z : Nat} (ha : Cond.arrayClass .boolean ∈ LW) (hl : zl n = (21, z)) (hb : ∀ j : Nat, μ n (j : Int) = 0) (hz : z < 10000) (hr : kc + 1 ≤ rm.cells ∧ ks + z ≤ rm.slots) (hd : decode cc pc = .ok (.newarray .boolean, 2)) (kk : MK X E cc own rm post (pc + 2) ls (zR n :: st) μ (n + 1) (kc + 1) (ks + z)) : MK X E cc own rm post pc ls (zI (z : Int) :: st) μ n kc ks := fun hC hy H locs la hM hS hla => by
  have hn : n < zN := zl_lt hl (by decide)
  have hcl : (Int32.ofInt (z : Int)).toNatClampNeg = z := by rw [zi_c ⟨by omega, by omega⟩]; omega
  refine va_newaK (atype := .boolean) (g := F0 X.2.2.2.2.1 pc la ((zI (z : Int) :: st).map (zv (zad E)))) (n := Int32.ofInt (z : Int)) (rest := st.map (zv (zad E))) (h := zad E n) (N := z) hC.1 hC.2.1 (hC.2.2.2.1 _ ha) rfl hd rfl ?_ hcl ?_ hr.1 hr.2 hM.2.2 (fun H1 cA e1 z1 o1 hAr hNm => ?_)
  · rw [← zi_0, zi_lt ⟨by omega, by omega⟩ (by decide)]; omega
  · show z * _ ≤ _; simp only [newarray.typeOf, componentBytes]; omega
  · have hc0 : cA = zcs E 1 := Option.some.inj (hNm.symm.trans (hC.2.2.2.2.1.1.2 1 (zcs E 1, .boolean) rfl).2)
    refine W.eq (g2 := F0 X.2.2.2.2.1 (pc + 2) la ((zR n :: st).map (zv (zad E)))) rfl (kk hC (by rw [← Nat.add_assoc, hy, hC.2.2.2.2.2.1 (n + 1) (by omega), hC.2.2.2.2.2.1 n (by omega)]; omega) H1 locs la (k9Ms hC.2.2.2.2.2.1 hn hM (hC.2.2.2.2.1.2.2.2.1 _ ?_) z1 o1 ?_) (k9S hS (by rw [z1, hM.2.2]) (by rw [hM.2.2]; exact o1)) hla)
    · rw [← hM.2.2]; exact hS.1
    · rw [zeq_21 hl]
      show H1[zad E n]? = some (arrV (zcs E 1) z (fun j => .int (Int32.ofInt (μ n (j : Int)))))
      rw [e1, hc0, show (fun j : Nat => Value.int (Int32.ofInt (μ n (j : Int)))) = (fun _ => defaultValue (newarray.typeOf .boolean)) from funext (fun j => by rw [hb j]; rfl)]
theorem k_new {ci idx : Nat} {q : vw_C} (ty : Nat → FieldType) (hq : vwCl[ci]? = some q) (hty : ∀ k, k < q.2.2 → parseFieldDescriptor (q.2.1 k).2.2.1 = some (ty k)) (hdv : ∀ j, j < q.2.2 → ∀ b, (zrefs ci)[j]? = some b → defaultValue (ty j) = if b then .null else .int 0) (hcl : Cond.classLink own idx q.1 ∈ LW) (hin : Cond.instantiable q.1 q.2.2 ∈ LW) (hini : Cond.initialized q.1 ∈ LW) (hl : zl n = (ci, q.2.2)) (hb : ∀ (j : Nat) (b : Bool), (zrefs ci)[j]? = some b → μ n (j : Int) = if b then -1 else 0) (hr : kc + 1 ≤ rm.cells ∧ ks + q.2.2 ≤ rm.slots) (hd : decode cc pc = .ok (.new idx, 3)) (kk : MK X E cc own rm post (pc + 3) ls (zR n :: st) μ (n + 1) (kc + 1) (ks + q.2.2)) : MK X E cc own rm post pc ls st μ n kc ks := fun hC hy H locs la hM hS hla => by
  obtain ⟨o1, -, o3, o4, o5⟩ := zcl_ok ci q hq
  have hn : n < zN := zl_lt hl (by omega)
  have hKn := hC.2.2.2.2.1.1.1 ci q hq
  refine W.newcK (g := F0 X.2.2.2.2.1 pc la (st.map (zv (zad E)))) (h := zad E n) (n := q.2.2) hC.1 hC.2.1 hC.2.2.1 (hC.2.2.2.1 _ hcl) (hC.2.2.2.1 _ hin) (hC.2.2.2.1 _ hini) rfl hd hr.1 hr.2 hKn.2.1 hM.2.2 (fun H1 kC hkC e1 z1 o1' => ?_)
  refine W.eq (g2 := F0 X.2.2.2.2.1 (pc + 3) la ((zR n :: st).map (zv (zad E)))) rfl (kk hC (by rw [← Nat.add_assoc, hy, hC.2.2.2.2.2.1 (n + 1) (by omega), hC.2.2.2.2.2.1 n (by omega)]; omega) H1 locs la (k9Ms hC.2.2.2.2.2.1 hn hM (hC.2.2.2.2.1.2.2.2.1 _ ?_) z1 o1' ?_) (k9S hS (by rw [z1, hM.2.2]) (by rw [hM.2.2]; exact o1')) hla)
  · rw [← hM.2.2]; exact hS.1
  · rw [zeq_o hl o5]
    refine ⟨q, hq, (u_born ty hC.2.2.2.1 o1 hKn hkC e1 hty).to (fun j hj => ?_)⟩
    have hlen : j < (zrefs ci).length := by rw [← o4]; exact hj
    have hbj : (zrefs ci)[j]? = some ((zrefs ci)[j]) := List.getElem?_eq_getElem hlen
    rw [hdv j hj _ hbj]
    show _ = (zfs (zad E) (μ n) (zrefs ci) 0).getD j .null
    rw [List.getD_eq_getElem?_getD, zfs_at hbj, Nat.zero_add, hb j _ hbj]
    cases (zrefs ci)[j] <;> rfl
/-- a final's first writing -/
theorem k_putF {id ci m9 k idx j : Nat} {ty : FieldType} (kz : Int) (hkz : ((k : Nat) : Int) = kz) (fl : zFl own idx ci k) (pl : ∃ q : vw_C, vwCl[ci]? = some q ∧ parseFieldDescriptor (q.2.1 k).2.2.1 = some ty ∧ (q.2.1 k).2.2.2 = true ∧ (q.2.1 k).1 = own) (hl : zl id = (ci, m9)) (hr : (zrefs ci)[k]? = some true) (hid : id < n) (hn0 : n ≤ zN) (hn : narrow ty (.ref (zad E j)) = .ref (zad E j)) (hf : fits ty (.ref (zad E j)) = true) (hd : decode cc pc = .ok (.putfield idx, 3)) (kk : MK X E cc own rm post (pc + 3) ls st (zup μ id kz (j : Int)) n kc ks) : MK X E cc own rm post pc ls (zR j :: zR id :: st) μ n kc ks := fun hC hy H locs la hM hS hla => by
  subst hkz
  obtain ⟨q, hq, hk, hw⟩ := fl
  obtain ⟨q', hq', p1, p2, p3⟩ := pl
  cases (Option.some.inj (hq.symm.trans hq'))
  obtain ⟨o1, ⟨ty0, o2⟩, o3, o4, o5⟩ := zcl_ok ci q hq
  have hat : (zws E μ n)[id]? = some (zad E id, .inr (ci, zfs (zad E) (μ id) (zrefs ci) 0)) := by rw [zws_at hid, zeq_o hl o5]
  have hset : (zfs (zad E) (μ id) (zrefs ci) 0).set k (.ref (zad E j)) = zfs (zad E) (zup μ id (k : Int) (j : Int) id) (zrefs ci) 0 := by
    refine zfs_set (fun b hb => ?_) (fun j hj => ?_) (by rw [← o4]; exact hk)
    · rw [zup_eq]; rw [hr] at hb; cases hb; rw [zr_n]; rfl
    · exact zup_ne (Or.inr (by omega))
  have hws : (zws E μ n).set id (zad E id, .inr (ci, (zfs (zad E) (μ id) (zrefs ci) 0).set k (.ref (zad E j)))) = zws E (zup μ id (k : Int) (j : Int)) n := by
    rw [hset, ← zws_set, zeq_o hl o5]
  refine va_putF (D := zD E) (ci := ci) (C := q.1) (T := q.2.1) (N := q.2.2) (ty := ty) (v := .ref (zad E j)) hC.1 hC.2.1 hC.2.2.2.1 o1 ty0 o2 o3 hC.2.2.1 hC.2.2.2.2.1.1 hM.1 hM.2.1 hS id hat hq k hk (hC.2.2.2.1 _ hw) (fun _ h => h) p2 hC.2.2.2.2.2.2.1 p3 p1 hn hf (by rw [zfs_len, ← o4]; exact hk) hd (fun H1 locs1 hP1 hD1 hS1 => ?_)
  rw [hws] at hP1 hD1
  exact kW_size (fun hup => kk hC hy H1 locs1 la ⟨hP1, hD1, k9sz hC.2.2.2.2.2.1 hn0 (by omega) hP1 (by rw [← hy]; exact hup)⟩ hS1 hla)
/-- a writing that isn't of a final -/
theorem k_putV {id ci m9 k idx : Nat} {v : zAV} {z : Int} {ty : FieldType} (kz : Int) (hkz : ((k : Nat) : Int) = kz) (fl : zFl own idx ci k) (pl : zPl ci k ty) (hl : zl id = (ci, m9)) (hid : id < n) (hn0 : n ≤ zN) (hn : narrow ty (zv (zad E) v) = zv (zad E) v) (hf : fits ty (zv (zad E) v) = true) (hx : ∀ b, (zrefs ci)[k]? = some b → zv (zad E) v = if b then va_rf (zr (zad E) z) else .int (Int32.ofInt z)) (hd : decode cc pc = .ok (.putfield idx, 3)) (kk : MK X E cc own rm post (pc + 3) ls st (zup μ id kz z) n kc ks) : MK X E cc own rm post pc ls (v :: zR id :: st) μ n kc ks := fun hC hy H locs la hM hS hla => by
  subst hkz
  obtain ⟨q, hq, hk, hw⟩ := fl
  obtain ⟨q', hq', p1, p2⟩ := pl
  cases (Option.some.inj (hq.symm.trans hq'))
  obtain ⟨o1, ⟨ty0, o2⟩, o3, o4, o5⟩ := zcl_ok ci q hq
  have hat : (zws E μ n)[id]? = some (zad E id, .inr (ci, zfs (zad E) (μ id) (zrefs ci) 0)) := by rw [zws_at hid, zeq_o hl o5]
  have hset : (zfs (zad E) (μ id) (zrefs ci) 0).set k (zv (zad E) v) = zfs (zad E) (zup μ id (k : Int) z id) (zrefs ci) 0 := by
    refine zfs_set (fun b hb => ?_) (fun j hj => ?_) (by rw [← o4]; exact hk)
    · rw [zup_eq]; exact hx b hb
    · exact zup_ne (Or.inr (by omega))
  have hws : (zws E μ n).set id (zad E id, .inr (ci, (zfs (zad E) (μ id) (zrefs ci) 0).set k (zv (zad E) v))) = zws E (zup μ id (k : Int) z) n := by
    rw [hset, ← zws_set, zeq_o hl o5]
  refine va_put (D := zD E) (ci := ci) (C := q.1) (T := q.2.1) (N := q.2.2) (ty := ty) hC.1 hC.2.1 hC.2.2.2.1 o1 ty0 o2 o3 hC.2.2.1 hC.2.2.2.2.1.1 hM.1 hM.2.1 hS id hat hq k hk (hC.2.2.2.1 _ hw) (fun _ h => h) p2 p1 hn hf (by rw [zfs_len, ← o4]; exact hk) hd (fun H1 locs1 hP1 hD1 hS1 => ?_)
  rw [hws] at hP1 hD1
  exact kW_size (fun hup => kk hC hy H1 locs1 la ⟨hP1, hD1, k9sz hC.2.2.2.2.2.1 hn0 (by omega) hP1 (by rw [← hy]; exact hup)⟩ hS1 hla)
theorem k_putI {id ci m9 k idx : Nat} {z : Int} (kz : Int) (hkz : ((k : Nat) : Int) = kz) (fl : zFl own idx ci k) (pl : zPl ci k .int) (hl : zl id = (ci, m9)) (hr : (zrefs ci)[k]? = some false) (hid : id < n) (hn0 : n ≤ zN) (hd : decode cc pc = .ok (.putfield idx, 3)) (kk : MK X E cc own rm post (pc + 3) ls st (zup μ id kz z) n kc ks) : MK X E cc own rm post pc ls (zI z :: zR id :: st) μ n kc ks := k_putV (z := z) kz hkz fl pl hl hid hn0 rfl rfl (fun b hb => by rw [hr] at hb; cases hb; rfl) hd kk
theorem k_putR {id ci m9 k idx j : Nat} {C : String} (kz : Int) (hkz : ((k : Nat) : Int) = kz) (fl : zFl own idx ci k) (pl : zPl ci k (.object C)) (hl : zl id = (ci, m9)) (hr : (zrefs ci)[k]? = some true) (hid : id < n) (hn0 : n ≤ zN) (hd : decode cc pc = .ok (.putfield idx, 3)) (kk : MK X E cc own rm post (pc + 3) ls st (zup μ id kz (j : Int)) n kc ks) : MK X E cc own rm post pc ls (zR j :: zR id :: st) μ n kc ks := k_putV (z := (j : Int)) kz hkz fl pl hl hid hn0 rfl rfl (fun b hb => by rw [hr] at hb; cases hb; rw [zr_n]; rfl) hd kk
end ZMK
/-- a constructor's contract: at h, which is the last of h + 1 cells -/
def kQ (E : zE) (post : zM → Nat → Prop) : Array Value → State → Outcome → State → Prop := fun _ st oc t => (∃ (μ : zM) (n : Nat), oc = .returned none ∧ post μ n ∧ k9M E μ n t.heap) ∧ va_F (zA E) st t
def CtI (l : Launch) (E : zE) (y : MethodName) (cc : ByteArray) (mL : Nat) (rm : Room) (h : Nat) (μ : zM) (post : zM → Nat → Prop) : Prop :=
  k9L E → Met l y (.code y cc mL none :: LW) rm (va_Pc [Value.ref (zad E h)] (fun U => (zKst E U ∧ kAO U) ∧ k9M E μ (h + 1) U.heap)) (kQ E post) rm.cells rm.slots (zA E)
theorem k_after {E : zE} {H : Heap} {locs : List Loc} {la : Array Slot} {rest st0 : List Value} {a : Array Value} {post2 : zM → Nat → Prop} {Q : State → Prop} {cells slots mc ms pc : Nat} {p : Program} {l : Launch} {e : Env} {R : Room} {s : State} {m : MethodId} {args : Array Value} {below : List Frame} {meth : Method} {c : Code} (hr : va_Run p l e R s m args below meth c H locs cells slots mc ms (F0 m pc la st0) rest (kQ E post2 a) (zA E)) (hS : va_S (zA E) s.heap H locs) (kk : ∀ (μ1 : zM) (n1 : Nat) (H1 : Heap) (locs1 : List Loc), post2 μ1 n1 → k9M E μ1 n1 H1 → va_S (zA E) s.heap H1 locs1 → W p l e R s m args below meth c H1 locs1 (cells + mc) (slots + ms) Q (F0 m (pc + 3) la rest)) : W p l e R s m args below meth c H locs cells slots Q (F0 m pc la st0) := by
  intro T hT Xs
  obtain ⟨v, st₀, t, T', L, h0, X', hL, e1, e2, ⟨⟨μ1, n1, hv, hp, hw⟩, hz, hk⟩, stp⟩ := hr T hT Xs
  cases hv
  rw [h0] at hz hk
  obtain ⟨t2, a1, b1⟩ := kk μ1 n1 T'.heap (locs ++ L) hp (by rw [e1]; exact hw)
    ⟨Nat.le_trans hS.1 (by rw [e1]; exact hz), fun q h1 h2 => by rw [e1, hk q (Nat.lt_of_lt_of_le h1 hS.1) h2]; exact hS.2.1 q h1 h2, fun q hq => by
      rcases List.mem_append.mp hq with h | h
      · exact hS.2.2 q h
      · exact hL q h⟩ T' rfl X'
  exact ⟨t2, stp t2 a1, b1⟩
