theorem arrV_cg {c : ClassId} {N : Nat} {f g : Nat → Value} (h : ∀ j, j < N → f j = g j) : arrV c N f = arrV c N g := by
  have e : (fun j : Fin N => f j.val) = (fun j : Fin N => g j.val) := funext (fun j => h j.val j.isLt)
  unfold arrV
  rw [e]
theorem k9out (c : ClassId) (N h0 : Nat) : ∀ i : Nat, Jvm.Free.Multi.outerC c N h0 i = arrV c N (fun j => if j < i then .ref (h0 + 1 + j) else .null)
  | 0 => by
    show ({ cls := c, slots := Array.replicate N .null, vm := .none } : Cell) = _
    rw [arrV_new]
    exact arrV_cg (fun j _ => by rw [if_neg (by omega)])
  | i + 1 => by
    show (Jvm.Free.Multi.outerC c N h0 i).setSlot i (.ref (h0 + 1 + i)) = _
    rw [k9out c N h0 i, arrV_store]
    refine arrV_cg (fun j _ => ?_)
    unfold updV
    by_cases e : j = i
    · rw [if_pos e, if_pos (by omega), e]
    · rw [if_neg e]
      dsimp only
      by_cases h : j < i
      · rw [if_pos h, if_pos (by omega)]
      · rw [if_neg h, if_neg (by omega)]
section ZMK3
variable {X : zX} {E : zE} {cc : ByteArray} {own : String} {rm : Room} {post : zM → Nat → Prop} {pc : Nat} {ls st : List zAV} {μ : zM} {n kc ks : Nat}
theorem k_mna {N K idx : Nat} (hcl : Cond.classLink own idx ("[" ++ (FieldType.array .int).toString) ∈ LW) (ha : Cond.arrayClass .int ∈ LW) (hl : zl n = (22, N)) (hrow : ∀ j, j < N → zl (n + 1 + j) = (20, K)) (hb : ∀ j : Nat, j < N → μ n (j : Int) = ((n + 1 + j : Nat) : Int)) (hb0 : ∀ j, j < N → ∀ i : Nat, μ (n + 1 + j) (i : Int) = 0) (hn : n + 1 + N ≤ zN) (hN : N < 1000) (hK : K < 1000) (hr : kc + (1 + N) ≤ rm.cells ∧ ks + (N + N * K) ≤ rm.slots) (hd : decode cc pc = .ok (.multianewarray idx 2, 4)) (kk : MK X E cc own rm post (pc + 4) ls (zR n :: st) μ (n + 1 + N) (kc + 1 + N) (ks + N + N * K)) : MK X E cc own rm post pc ls (zI (K : Int) :: zI (N : Int) :: st) μ n kc ks := fun hC hy H locs la hM hS hla => by
  intro T hT Xs
  have hE := hC.2.2.2.2.2.1
  have hcN : (Int32.ofInt (N : Int)).toNatClampNeg = N := by rw [zi_c ⟨by omega, by omega⟩]; omega
  have hcK : (Int32.ofInt (K : Int)).toNatClampNeg = K := by rw [zi_c ⟨by omega, by omega⟩]; omega
  have n0 : ∀ z : Nat, z < 1000 → ¬ Int32.ofInt (z : Int) < 0 := fun z hz => by rw [← zi_0, zi_lt ⟨by omega, by omega⟩ (by decide)]; omega
  obtain ⟨vm₁, cA, comp, -, fA, fC, -, -, X', step⟩ := Xs.multianewarray2F (index := idx) (ty := .int) hC.1 hC.2.2.1 (hC.2.2.2.1 _ hcl) hC.2.2.2.2.2.2.2.1.1 (hC.2.2.2.1 _ ha) (g := F0 X.2.2.2.2.1 pc la ((zI (K : Int) :: zI (N : Int) :: st).map (zv (zad E)))) (n := Int32.ofInt (N : Int)) (k := Int32.ofInt (K : Int)) (rest := st.map (zv (zad E))) rfl (by rw [hC.2.1]; exact hd) rfl (n0 N hN) (n0 K hK) (by rw [hcN]; omega) (by rw [hcK]; show K * 4 ≤ _; omega) (by rw [hcK]; omega) rfl rfl (by rw [hcN]; exact hr.1) (by rw [hcN, hcK]; exact hr.2)
  rw [hcN, hcK] at X' step
  have hc2 : cA = zcs E 2 := Option.some.inj (fA.symm.trans (hC.2.2.2.2.1.1.2 2 (zcs E 2, .array .int) rfl).2)
  have hc0 : comp = zcs E 0 := Option.some.inj (fC.symm.trans (hC.2.2.2.2.1.1.2 0 (zcs E 0, .int) rfl).2)
  subst hc2
  subst hc0
  have hTh : (T.setVm vm₁).heap = H := hT
  obtain ⟨f1, f2, -, -⟩ := Jvm.Free.Multi.fill_facts (T.setVm vm₁) (zcs E 2) (zcs E 0) N K (defaultValue .int) N
  have hold : ∀ x : Nat, x < H.size → (Jvm.Free.Multi.fill (T.setVm vm₁) (zcs E 2) (zcs E 0) N K (defaultValue .int) N).heap[x]? = H[x]? := fun x hx => by
    have := Jvm.Free.Multi.fill_old (T.setVm vm₁) (zcs E 2) (zcs E 0) N K (defaultValue .int) (a := x) (by rw [hTh]; exact hx) N
    rw [hTh] at this
    exact this
  have hin : ∀ j : Nat, j < N → (Jvm.Free.Multi.fill (T.setVm vm₁) (zcs E 2) (zcs E 0) N K (defaultValue .int) N).heap[H.size + 1 + j]? = some (Jvm.Free.Multi.innerC (zcs E 0) K (defaultValue .int)) := fun j hj => by
    have := Jvm.Free.Multi.fill_inner (T.setVm vm₁) (zcs E 2) (zcs E 0) N K (defaultValue .int) N j hj
    rw [hTh] at this
    exact this
  rw [hTh] at f1 f2
  generalize Jvm.Free.Multi.fill (T.setVm vm₁) (zcs E 2) (zcs E 0) N K (defaultValue .int) N = F at X' step f1 f2 hold hin
  obtain ⟨hP, hD, hz⟩ := hM
  have eN : zad E (n + 1 + N) = zad E n + 1 + N := by rw [hE (n + 1 + N) hn, hE n (by omega)]; omega
  have lenz : (zws E μ (n + 1 + N)).length = n + 1 + N := by simp [zws]
  have hM2 : k9M E μ (n + 1 + N) F.heap := by
    refine ⟨fun k x hx => ?_, ⟨fun i j p q hi hj e => ?_, fun k q hk => ?_⟩, by rw [f1, hz, eN]⟩
    · have hk : k < n + 1 + N := by rw [← lenz]; exact (List.getElem?_eq_some_iff.mp hx).1
      rw [zws_at hk] at hx
      cases hx
      by_cases c1 : k < n
      · have g := hP.kept (H1 := F.heap) (fun k x hx => hold x.1 (hP k x hx).lt) k _ (zws_at c1)
        exact g
      · by_cases c2 : k = n
        · subst c2
          rw [zeq_22 hl]
          show F.heap[zad E k]? = some (arrV (zcs E 2) N (fun j => va_rf (zr (zad E) (μ k (j : Int)))))
          rw [← hz, f2, k9out]
          refine congrArg some (arrV_cg (fun j hj => ?_))
          rw [if_pos hj, hb j hj, zr_n, hz, hE (k + 1 + j) (by omega), hE k (by omega), show zad E 0 + k + 1 + j = zad E 0 + (k + 1 + j) by omega]
          rfl
        · obtain ⟨j, rfl⟩ : ∃ j, k = n + 1 + j := ⟨k - n - 1, by omega⟩
          have hj : j < N := by omega
          rw [zeq_20 (hrow j hj)]
          show F.heap[zad E (n + 1 + j)]? = some (arrV (zcs E 0) K (fun i => .int (Int32.ofInt (μ (n + 1 + j) (i : Int)))))
          rw [show zad E (n + 1 + j) = H.size + 1 + j by rw [hz, hE (n + 1 + j) (by omega), hE n (by omega)]; omega, hin j hj]
          show some ({ cls := zcs E 0, slots := Array.replicate K (defaultValue .int), vm := .none } : Cell) = _
          rw [arrV_new]
          exact congrArg some (arrV_cg (fun i _ => by rw [hb0 j hj i]; rfl))
    · have hi2 : i < n + 1 + N := by rw [← lenz]; exact (List.getElem?_eq_some_iff.mp hi).1
      have hj2 : j < n + 1 + N := by rw [← lenz]; exact (List.getElem?_eq_some_iff.mp hj).1
      rw [zws_at hi2] at hi
      rw [zws_at hj2] at hj
      cases hi
      cases hj
      have a := hE i (by omega)
      have b := hE j (by omega)
      have e : zad E i = zad E j := e
      omega
    · have hk2 : k < n + 1 + N := by rw [← lenz]; exact (List.getElem?_eq_some_iff.mp hk).1
      rw [zws_at hk2] at hk
      cases hk
      by_cases c1 : k < n
      · exact hD.2 k _ (zws_at c1)
      · refine hC.2.2.2.2.1.2.2.2.1 _ ?_
        show X.2.2.2.1.heap.size ≤ zad E k
        have a := hE k (by omega)
        have b := hE n (by omega)
        omega
  rw [hT, hz] at step
  obtain ⟨t2, a1, b1⟩ := kk hC (by rw [eN]; omega) F.heap locs la hM2 ⟨Nat.le_trans hS.1 (by rw [f1]; omega), fun x h1 h2 => (hold x (Nat.lt_of_lt_of_le h1 hS.1)).trans (hS.2.1 x h1 h2), hS.2.2⟩ hla F rfl X'
  exact ⟨t2, step t2 a1, b1⟩
end ZMK3
