/-- an array of rows when i of its N rows stand -/
def k9O (c : ClassId) (N h i : Nat) : Cell := arrV c N (fun j => if j < i then .ref (h + 1 + j) else .null)
/-- a row of numbers, all of them 0 -/
def k9I (c : ClassId) (K : Nat) : Cell := arrV c K (fun _ => .int 0)
/-- the machine when i rows stand, begun at T -/
def k9F (T : State) (cA cI : ClassId) (N K : Nat) : Nat → State
  | 0 => T.pushCell (k9O cA N T.heap.size 0)
  | i + 1 => ((k9F T cA cI N K i).pushCell (k9I cI K)).setCell T.heap.size (k9O cA N T.heap.size (i + 1))
theorem arrV_cg {c : ClassId} {N : Nat} {f g : Nat → Value} (h : ∀ j, j < N → f j = g j) : arrV c N f = arrV c N g := by
  have e : (fun j : Fin N => f j.val) = (fun j : Fin N => g j.val) := funext (fun j => h j.val j.isLt)
  unfold arrV
  rw [e]
theorem k9sl (c : ClassId) (N : Nat) (f : Nat → Value) : (arrV c N f).slots.size = N := by simp [arrV]
theorem k9O_s (c : ClassId) (N h i : Nat) : (k9O c N h i).setSlot i (.ref (h + 1 + i)) = k9O c N h (i + 1) := by
  unfold k9O
  rw [arrV_store]
  refine arrV_cg (fun j _ => ?_)
  unfold updV
  by_cases e : j = i
  · rw [if_pos e, if_pos (by omega), e]
  · rw [if_neg e]
    dsimp only
    by_cases h : j < i
    · rw [if_pos h, if_pos (by omega)]
    · rw [if_neg h, if_neg (by omega)]
theorem k9F_top (T : State) (f : JFrame) (cA cI : ClassId) (N K : Nat) : ∀ i, k9F (T.setTop f) cA cI N K i = (k9F T cA cI N K i).setTop f
  | 0 => rfl
  | i + 1 => by
    unfold k9F
    rw [k9F_top T f cA cI N K i]
    rfl
/-- what the heap is when i rows stand -/
theorem k9F_h (T : State) (cA cI : ClassId) (N K : Nat) : ∀ i, (k9F T cA cI N K i).vm = T.vm ∧ (k9F T cA cI N K i).heap.size = T.heap.size + 1 + i ∧ (k9F T cA cI N K i).heap[T.heap.size]? = some (k9O cA N T.heap.size i) ∧ (∀ x : Nat, x < T.heap.size → (k9F T cA cI N K i).heap[x]? = T.heap[x]?) ∧ (∀ j : Nat, j < i → (k9F T cA cI N K i).heap[T.heap.size + 1 + j]? = some (k9I cI K))
  | 0 => ⟨rfl, by simp [k9F], State.heap_pushCell_size _ _, fun x h => State.heap_pushCell_of_lt _ _ h, fun j h => absurd h (Nat.not_lt_zero j)⟩
  | i + 1 => by
    obtain ⟨v, z, a, o, r⟩ := k9F_h T cA cI N K i
    have low : ∀ x : Nat, x < T.heap.size + 1 + i → ((k9F T cA cI N K i).pushCell (k9I cI K)).heap[x]? = (k9F T cA cI N K i).heap[x]? := fun x h => State.heap_pushCell_of_lt _ _ (by rw [z]; exact h)
    have oth : ∀ x : Nat, x ≠ T.heap.size → (k9F T cA cI N K (i + 1)).heap[x]? = ((k9F T cA cI N K i).pushCell (k9I cI K)).heap[x]? := fun x h => State.heap_setCell_other (Ne.symm h)
    refine ⟨v, ?_, ?_, fun x h => ?_, fun j h => ?_⟩
    · simp [k9F, State.setCell, z]
      omega
    · exact State.heap_setCell_self (by rw [low _ (by omega)]; exact a)
    · rw [oth x (by omega), low x (by omega)]
      exact o x h
    · rw [oth _ (by omega)]
      by_cases e : j = i
      · subst e
        have := State.heap_pushCell_size (k9F T cA cI N K j) (k9I cI K)
        rw [z] at this
        exact this
      · rw [low _ (by omega)]
        exact r j (by omega)
section ZMROW
variable {p : Program} {l : Launch} {e : Env} {R : Room} {s : State} {m : MethodId} {args : Array Value} {below : List Frame} {meth : Method} {c : Code} {T : State} {locs : List Loc} {cells slots : Nat}
theorem k9F_X (X : Stand p l e R s m args below meth c T locs cells slots) (cA cI : ClassId) (N K : Nat) : ∀ i, Stand p l e R s m args below meth c (k9F T cA cI N K i) locs (cells + 1 + i) (slots + N + i * K)
  | 0 => by
    have h := X.pushed (k9O cA N T.heap.size 0)
    rw [show (k9O cA N T.heap.size 0).slots.size = N from k9sl _ _ _] at h
    simpa [k9F] using h
  | i + 1 => by
    obtain ⟨-, z, a, -, -⟩ := k9F_h T cA cI N K i
    have h := (k9F_X X cA cI N K i).pushed (k9I cI K)
    rw [show (k9I cI K).slots.size = K from k9sl _ _ _] at h
    have hc : ((k9F T cA cI N K i).pushCell (k9I cI K)).heap[T.heap.size]? = some (k9O cA N T.heap.size i) := (State.heap_pushCell_of_lt _ _ (by rw [z]; omega : T.heap.size < (k9F T cA cI N K i).heap.size)).trans a
    have h2 := (h.stored hc i (.ref (T.heap.size + 1 + i))).dropFresh (J := [⟨T.heap.size, i⟩]) (fun x hx => by rw [List.mem_singleton.mp hx]; exact X.heapGrown)
    rw [k9O_s] at h2
    rw [show slots + N + (i + 1) * K = slots + N + i * K + K by rw [Nat.succ_mul]; omega]
    exact h2
variable {E : CtlPost} {d : Bool} {acts : List Action} {U : State}
theorem k_wpn {cA cI : ClassId} {k : Class} {ty : FieldType} {z : Nat} {v : Value} (hk : U.vm.classes[cA]? = some k) (hkd : k.kind = .array cI ty) (hl : z ≤ e.platform.arrayLengthLimit) (hb : z * componentBytes ty ≤ e.platform.maxHeapBytes) (hf : fits ty v = true) (hv : v.isDefault = true) (hc : U.heap.size < e.platform.maxCells) (hs : U.slotsUsed + z ≤ e.platform.maxSlots) {Q : Addr → Pre} (hq : Q U.heap.size d acts (U.pushCell (arrV cA z (fun _ => v)))) : wp (Jvm.newArray cA z v) Q E e d acts U := by
  have ha : allocActs (Array.replicate z v) U.heap.size acts = acts := by
    unfold allocActs
    rw [if_pos (by rw [Array.all_replicate]; by_cases h : z = 0 <;> simp [h, hv])]
  have hfit : ∀ i w, (Array.replicate z v)[i]? = some w → U.fitsSlot cA .none i w = true := fun i w h => by
    rw [Array.getElem?_replicate] at h
    by_cases hi : i < z
    · rw [if_pos hi] at h
      cases h
      simp [State.fitsSlot, State.slotType?, hk, hkd, hf]
    · rw [if_neg hi] at h
      cases h
  rw [← arrV_new] at hq
  simp only [Jvm.newArray, Jvm.arrayFits, wp_bind', W.ask, W.ite, if_neg (Nat.not_lt.mpr hl), wp_pure', W.theClass, hk, hkd, if_neg (Nat.not_lt.mpr hb), W.alloc, W.stop, Option.some.injEq, exists_eq_left', Array.size_replicate, ha]
  rw [if_neg (by omega)]
  exact ⟨hc, hs, hfit, hq⟩
/-- the machine's making of the rows, one behind another -/
theorem k_make {cA cI c0 : ClassId} {kA kI : Class} {n k : Int32} {N K : Nat} (hA : U.vm.classes[cA]? = some kA) (hAk : kA.kind = .array cI (.array .int)) (hI : U.vm.classes[cI]? = some kI) (hIk : kI.kind = .array c0 .int) (hn : ¬ n < 0) (hk : ¬ k < 0) (eN : n.toNatClampNeg = N) (eK : k.toNatClampNeg = K) (hl : N ≤ e.platform.arrayLengthLimit ∧ K ≤ e.platform.arrayLengthLimit) (hb : N * 4 ≤ e.platform.maxHeapBytes ∧ K * 4 ≤ e.platform.maxHeapBytes) (hr0 : U.heap.size < e.platform.maxCells ∧ U.slotsUsed + N ≤ e.platform.maxSlots) (hr : ∀ i, i < N → (k9F U cA cI N K i).heap.size < e.platform.maxCells ∧ (k9F U cA cI N K i).slotsUsed + K ≤ e.platform.maxSlots) {Q : Addr → Pre} (hq : ∀ d1 a1, Q U.heap.size d1 a1 (k9F U cA cI N K N)) : wp (multianewarray.make cA [n, k]) Q E e d acts U := by
  rw [multianewarray.make]
  simp only [wp_bind', W.ite, hn, if_false, wp_pure', W.theClass, hA, hAk, Option.some.injEq, exists_eq_left', eN]
  refine k_wpn hA hAk hl.1 hb.1 rfl rfl hr0.1 hr0.2 ?_
  have no : ([k].find? (· < 0)) = none := by simp [hk]
  simp only [no]
  rw [ite_self, wp_bind', Std.Legacy.Range.forIn_eq_forIn_range']
  rw [show ([:N] : Std.Legacy.Range).size = N by simp [Std.Legacy.Range.size]]
  rw [show U.pushCell (arrV cA N fun _ => .null) = k9F U cA cI N K 0 from congrArg U.pushCell (arrV_cg (fun j _ => (if_neg (Nat.not_lt_zero j)).symm))]
  refine wp_forIn_inv (fun r V => ∃ i, r = List.range' i (N - i) 1 ∧ i ≤ N ∧ V = k9F U cA cI N K i) _ _ ⟨0, rfl, Nat.zero_le N, rfl⟩ ?_ ?_
  · intro x r V d1 a1 Q1 hV hnext
    obtain ⟨i, hx, hi, rfl⟩ := hV
    have hlt : i < N := Nat.lt_of_le_of_ne hi (fun h => by subst h; rw [Nat.sub_self] at hx; cases hx)
    rw [show N - i = N - (i + 1) + 1 by omega, List.range'_succ] at hx
    obtain ⟨rfl, rfl⟩ := List.cons.inj hx
    obtain ⟨v, z, a, -, -⟩ := k9F_h U cA cI N K x
    simp only [wp_bind']
    rw [multianewarray.make]
    simp only [wp_bind', W.ite, hk, if_false, wp_pure', W.theClass, v, hI, hIk, Option.some.injEq, exists_eq_left', eK]
    refine k_wpn (by rw [v]; exact hI) hIk hl.2 hb.2 rfl rfl (hr x hlt).1 (hr x hlt).2 ?_
    simp only [wp_bind', W.writeLoc, wp_pure']
    refine ⟨k9O cA N U.heap.size x, (State.heap_pushCell_of_lt _ _ (by rw [z]; omega : U.heap.size < (k9F U cA cI N K x).heap.size)).trans a, by simp [k9O, arrV], by rw [show (k9O cA N U.heap.size x).slots.size = N from k9sl _ _ _]; exact hlt, ?_, hnext _ _ _ ⟨x + 1, rfl, hlt, ?_⟩⟩
    · simp [k9O, arrV, State.fitsSlot, State.slotType?, v, hA, hAk]
      rfl
    · rw [z, k9O_s]
      rfl
  · rintro V d1 a1 ⟨i, hx, hi, rfl⟩
    have e1 : i = N := Nat.le_antisymm hi (Nat.le_of_not_lt (fun h => by rw [show N - i = N - (i + 1) + 1 by omega, List.range'_succ] at hx; cases hx))
    subst e1
    simp only [wp_pure']
    exact hq _ _
/-- an array of N rows of K numbers: the walk goes on behind it -/
theorem k_row2 (X : Stand p l e R s m args below meth c T locs cells slots) (hexec : p.tables.exec = Jvm.exec) {own : String} {idx : Nat} (hown : s.vm.findClass own = some m.cls) (hcl : (Cond.classLink own idx ("[" ++ (FieldType.array .int).toString)).before args s = true) (hAA : kAA s) (hAC : (Cond.arrayClass .int).before args s = true) {g : JFrame} (hg : g.method = m) (hd : decode c.code g.pc = .ok (.multianewarray idx 2, 4)) {n k : Int32} {rest : List Value} (hst : g.stack = .int k :: .int n :: rest) (hn : ¬ n < 0) (hk : ¬ k < 0) {N K : Nat} (eN : n.toNatClampNeg = N) (eK : k.toNatClampNeg = K) (bN : N < 1000) (bK : K < 1000) (hr : cells + (1 + N) ≤ R.cells ∧ slots + (N + N * K) ≤ R.slots) :
    ∃ (vm₁ : Vm) (cA cI : ClassId), s.vm.findClass ("[" ++ (FieldType.array .int).toString) = some cA ∧ s.vm.findClass (FieldType.array .int).toString = some cI ∧ Stand p l e R s m args below meth c (k9F (T.setVm vm₁) cA cI N K N) locs (cells + 1 + N) (slots + N + N * K) ∧
      ∀ target, Steps p.tables e below ((k9F (T.setVm vm₁) cA cI N K N).setTop { g with pc := g.pc + 4, stack := .ref T.heap.size :: rest }) target → Steps p.tables e below (T.setTop g) target := by
  subst hg
  obtain ⟨cI, cA, kA, fI, -, hA, hAk, fA⟩ := kAA_spec hAA
  obtain ⟨cI2, kI, c0, fI2, hI, hIk⟩ := Cond.arrayClass_spec hAC
  cases Option.some.inj (fI2.symm.trans fI)
  obtain ⟨cA2, fA2, hlk⟩ := Cond.classLink_spec hown hcl e.platform (by rw [X.admits.platform])
  cases Option.some.inj (fA2.symm.trans fA)
  obtain ⟨r1, r2, -⟩ := State.classEntry (e := e) X.warmed hlk
  generalize T.vm.noted g.method.cls idx (.cls cA) = vm₁ at r1 r2
  obtain ⟨kA1, hA1, eA⟩ := r2.alike.2.2 _ _ hA
  obtain ⟨kI1, hI1, eI⟩ := r2.alike.2.2 _ _ hI
  have X1 := X.noted r2
  have XF := k9F_X X1 cA cI N K
  refine ⟨vm₁, cA, cI, fA, fI, XF N, fun target hrest => ?_⟩
  have hl := Launch.admits_arrayLengthLimit X.admits
  have hh := Launch.admits_maxHeapBytes X.admits
  have hmul : ∀ i, i < N → i * K + K ≤ N * K := fun i hi => by rw [← Nat.succ_mul]; exact Nat.mul_le_mul_right K hi
  have hs : ((T.setTop g).setVm vm₁).setTop { g with stack := rest } = (T.setVm vm₁).setTop { g with stack := rest } := by
    show ((T.setVm vm₁).setTop g).setTop _ = _
    rw [State.setTop_setTop]
  jvm_step X.here [hexec, hd]
  simp only [multianewarray.sem, wp_bind', W.resolveClassAt_links (State.method?_setTop g X.here.top) r1]
  rw [W.popN, if_neg (by decide)]
  refine ⟨g, State.topJava?_setTop' (s := T.setVm vm₁) g X.here.top, [.int n, .int k], rest, rfl, hst, ?_⟩
  simp only [List.mapM_cons, List.mapM_nil, wp_bind', wp_pure']
  rw [hs]
  refine k_make (U := (T.setVm vm₁).setTop { g with stack := rest }) (N := N) (K := K) (c0 := c0) hA1 (by rw [eA]; exact hAk) hI1 (by rw [eI]; exact hIk) hn hk eN eK (by rw [hl]; omega) (by rw [hh]; omega) ?_ (fun i hi => ?_) (fun d1 a1 => ?_)
  · have := X1.roomAbove (a := 1) (b := N) (by omega) (by omega)
    exact ⟨by show T.heap.size < _; exact this.1, this.2⟩
  · rw [k9F_top]
    have := (XF i).roomAbove (a := 1) (b := K) (by omega) (by have := hmul i hi; omega)
    exact this
  · rw [k9F_top]
    simp only [wp_bind', W.mark, W.pushRef, State.topJava?_setTop' _ (XF N).here.top, Option.some.injEq, exists_eq_left', State.setTop_setTop, State.heap_setTop]
    intro a2
    simp [jvm, (XF N).here.top]
    exact hrest
end ZMROW
section ZMK3
variable {X : zX} {E : zE} {cc : ByteArray} {own : String} {rm : Room} {post : zM → Nat → Prop} {pc : Nat} {ls st : List zAV} {μ : zM} {n kc ks : Nat}
theorem k_mna {N K idx : Nat} (hcl : Cond.classLink own idx ("[" ++ (FieldType.array .int).toString) ∈ LW) (ha : Cond.arrayClass .int ∈ LW) (hl : zl n = (22, N)) (hrow : ∀ j, j < N → zl (n + 1 + j) = (20, K)) (hb : ∀ j : Nat, j < N → μ n (j : Int) = ((n + 1 + j : Nat) : Int)) (hb0 : ∀ j, j < N → ∀ i : Nat, μ (n + 1 + j) (i : Int) = 0) (hn : n + 1 + N ≤ zN) (hN : N < 1000) (hK : K < 1000) (hr : kc + (1 + N) ≤ rm.cells ∧ ks + (N + N * K) ≤ rm.slots) (hd : decode cc pc = .ok (.multianewarray idx 2, 4)) (kk : MK X E cc own rm post (pc + 4) ls (zR n :: st) μ (n + 1 + N) (kc + 1 + N) (ks + N + N * K)) : MK X E cc own rm post pc ls (zI (K : Int) :: zI (N : Int) :: st) μ n kc ks := fun hC hy H locs la hM hS hla => by
  intro T hT Xs
  have hE := hC.2.2.2.2.2.1
  have hcN : (Int32.ofInt (N : Int)).toNatClampNeg = N := by rw [zi_c ⟨by omega, by omega⟩]; omega
  have hcK : (Int32.ofInt (K : Int)).toNatClampNeg = K := by rw [zi_c ⟨by omega, by omega⟩]; omega
  have n0 : ∀ z : Nat, z < 1000 → ¬ Int32.ofInt (z : Int) < 0 := fun z hz => by rw [← zi_0, zi_lt ⟨by omega, by omega⟩ (by decide)]; omega
  obtain ⟨vm₁, cA, comp, fA, fC, X', step⟩ := k_row2 (idx := idx) (N := N) (K := K) Xs hC.1 hC.2.2.1 (hC.2.2.2.1 _ hcl) hC.2.2.2.2.2.2.2.1.1 (hC.2.2.2.1 _ ha) (g := F0 X.2.2.2.2.1 pc la ((zI (K : Int) :: zI (N : Int) :: st).map (zv (zad E)))) (n := Int32.ofInt (N : Int)) (k := Int32.ofInt (K : Int)) (rest := st.map (zv (zad E))) rfl (by rw [hC.2.1]; exact hd) rfl (n0 N hN) (n0 K hK) hcN hcK hN hK hr
  have hc2 : cA = zcs E 2 := Option.some.inj (fA.symm.trans (hC.2.2.2.2.1.1.2 2 (zcs E 2, .array .int) rfl).2)
  have hc0 : comp = zcs E 0 := Option.some.inj (fC.symm.trans (hC.2.2.2.2.1.1.2 0 (zcs E 0, .int) rfl).2)
  subst hc2
  subst hc0
  have hTh : (T.setVm vm₁).heap = H := hT
  obtain ⟨-, f1, f2, hold, hin⟩ := k9F_h (T.setVm vm₁) (zcs E 2) (zcs E 0) N K N
  rw [hTh] at f1 f2 hold hin
  generalize k9F (T.setVm vm₁) (zcs E 2) (zcs E 0) N K N = F at X' step f1 f2 hold hin
  obtain ⟨hP, hD, hz⟩ := hM
  have eN : zad E (n + 1 + N) = zad E n + 1 + N := by rw [hE (n + 1 + N) hn, hE n (by omega)]; omega
  have lenz : (zws E μ (n + 1 + N)).length = n + 1 + N := by simp [zws]
  have hM2 : k9M E μ (n + 1 + N) F.heap := by
    refine ⟨fun k x hx => ?_, ⟨fun i j p q hi hj e => ?_, fun k q hk => ?_⟩, by rw [f1, hz, eN]⟩
    · have hk : k < n + 1 + N := by rw [← lenz]; exact (List.getElem?_eq_some_iff.mp hx).1
      rw [zws_at hk] at hx
      cases hx
      by_cases c1 : k < n
      · have g := hP.kept (H1 := F.heap) (fun k x hx => hold x.1 (hP k x hx).lt) k _ (zws_at c1)
        exact g
      · by_cases c2 : k = n
        · subst c2
          rw [zeq_22 hl]
          show F.heap[zad E k]? = some (arrV (zcs E 2) N (fun j => va_rf (zr (zad E) (μ k (j : Int)))))
          rw [← hz, f2]
          refine congrArg some (arrV_cg (fun j hj => ?_))
          rw [if_pos hj, hb j hj, zr_n, hz, hE (k + 1 + j) (by omega), hE k (by omega), show zad E 0 + k + 1 + j = zad E 0 + (k + 1 + j) by omega]
          rfl
        · obtain ⟨j, rfl⟩ : ∃ j, k = n + 1 + j := ⟨k - n - 1, by omega⟩
          have hj : j < N := by omega
          rw [zeq_20 (hrow j hj)]
          show F.heap[zad E (n + 1 + j)]? = some (arrV (zcs E 0) K (fun i => .int (Int32.ofInt (μ (n + 1 + j) (i : Int)))))
          rw [show zad E (n + 1 + j) = H.size + 1 + j by rw [hz, hE (n + 1 + j) (by omega), hE n (by omega)]; omega, hin j hj]
          exact congrArg some (arrV_cg (fun i _ => by rw [hb0 j hj i]; rfl))
    · have hi2 : i < n + 1 + N := by rw [← lenz]; exact (List.getElem?_eq_some_iff.mp hi).1
      have hj2 : j < n + 1 + N := by rw [← lenz]; exact (List.getElem?_eq_some_iff.mp hj).1
      rw [zws_at hi2] at hi
      rw [zws_at hj2] at hj
      cases hi
      cases hj
      have a := hE i (by omega)
      have b := hE j (by omega)
      have e : zad E i = zad E j := e
      omega
    · have hk2 : k < n + 1 + N := by rw [← lenz]; exact (List.getElem?_eq_some_iff.mp hk).1
      rw [zws_at hk2] at hk
      cases hk
      by_cases c1 : k < n
      · exact hD.2 k _ (zws_at c1)
      · refine hC.2.2.2.2.1.2.2.2.1 _ ?_
        show X.2.2.2.1.heap.size ≤ zad E k
        have a := hE k (by omega)
        have b := hE n (by omega)
        omega
  rw [hT, hz] at step
  obtain ⟨t2, a1, b1⟩ := kk hC (by rw [eN]; omega) F.heap locs la hM2 ⟨Nat.le_trans hS.1 (by rw [f1]; omega), fun x h1 h2 => (hold x (Nat.lt_of_lt_of_le h1 hS.1)).trans (hS.2.1 x h1 h2), hS.2.2⟩ hla F rfl X'
  exact ⟨t2, step t2 a1, b1⟩
end ZMK3
