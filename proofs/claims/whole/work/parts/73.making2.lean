section ZMK2
variable {X : zX} {E : zE} {cc : ByteArray} {own : String} {rm : Room} {post : zM → Nat → Prop} {pc : Nat} {ls st : List zAV} {μ : zM} {n kc ks : Nat}
theorem kPc_blind {as : List Value} {n : Nat} : FrameBlind (va_Pc as (fun U => (zKst E U ∧ kAO U) ∧ k9M E μ n U.heap)) := fun a U g mk h => ⟨h.1, ⟨zKst.same (U := U) rfl rfl h.2.1.1, kAO.moved (Vm.Alike.refl _) h.2.1.2⟩, h.2.2⟩
theorem k_call {host : String} {h idx mL2 : Nat} {y : MethodName} {cc2 : ByteArray} {rc : Room} {post2 : zM → Nat → Prop} (hM9 : CtI X.2.1 E y cc2 mL2 rc h μ post2) (hm : zMi y cc2 mL2 0) (hl : Cond.methodLinkNest own idx y host ∈ NW) (hn : n = h + 1) (hcat : zcat st ≤ 8) (hroom : rc.frames + 1 ≤ rm.frames ∧ 8 + (mL2 + 11) + rc.locals ≤ rm.locals) (hr : kc + rc.cells ≤ rm.cells ∧ ks + rc.slots ≤ rm.slots) (hd : decode cc pc = .ok (.invokespecial idx, 3)) (hp9 : ∀ μ1 n1, post2 μ1 n1 → n1 = n + rc.cells ∧ n1 ≤ zN) (kk : ∀ μ1 n1, post2 μ1 n1 → MK X E cc own rm post (pc + 3) ls st μ1 n1 (kc + rc.cells) (ks + rc.slots)) : MK X E cc own rm post pc ls (zR h :: st) μ n kc ks := fun hC hy H locs la hM hS hla => by
  subst hn
  obtain ⟨m2, m3, m5, m7, m6⟩ := hm
  have hM1 := hM9 hC.2.2.2.2.2.1
  have cw := va_cnB (R := rm) (n := 0) (args := X.2.2.2.2.2.1) hC.2.2.2.1 (LW_goodIn m2) rfl rfl rfl (hC.2.2.2.2.1.2.1 _ hl) (hC.2.2.2.1 _ m5) m6 hroom
  have hr2 := va_runIN (p := X.1) (l := X.2.1) (e := X.2.2.1) (below := X.2.2.2.2.2.2.1) (meth := X.2.2.2.2.2.2.2.1) (locs := locs) (cells := kc) (slots := ks) (nL := X.2.2.2.2.2.2.2.2.1.maxLocals) (As := []) (b := zad E h) (rest := st.map (zv (zad E))) (g := F0 X.2.2.2.2.1 pc la ((zR h :: st).map (zv (zad E)))) ⟨hC.1, hC.2.1, rfl, hC.2.2.1, hC.2.2.2.1⟩ hM1 ⟨cw, m7, hC.2.2.2.1 _ m3⟩ ⟨kPc_blind, fun U hU hWm => ⟨rfl, ⟨zKst.next hC.2.2.2.2.1 hS hU hWm, kAO.moved hWm.alike hC.2.2.2.2.2.2.2.1⟩, by rw [hU]; exact hM⟩⟩ rfl rfl hla.2.1 rfl (lv_room (by rw [zcat_sum]; exact hcat)) hd hr
  refine k_after hr2 hS (fun μ1 n1 H1 locs1 hp hw1 hS1 => ?_)
  obtain ⟨e1, e2⟩ := hp9 μ1 n1 hp
  refine kk μ1 n1 hp hC ?_ H1 locs1 la hw1 hS1 hla
  have a := hC.2.2.2.2.2.1 n1 e2
  have b := hC.2.2.2.2.2.1 (h + 1) (by omega)
  omega
theorem CtI.of {l : Launch} {y : MethodName} {mL h : Nat} (own : String) (ls : List zAV) (hy : plainFor y = true) (hown : y.cls = own) (hinit : y.name = "<init>") (hls : zent [zR h] mL = ls) (hcat : 1 ≤ mL) (hh : ∀ X : zX, X.2.1 = l → MK X E cc own rm post 0 ls [] μ (h + 1) 0 0) : CtI l E y cc mL rm h μ post := by
  intro hE
  subst hown
  refine zMet_ofF (cc := cc) (maxL := mL) (ret := none) hy rfl ?_
  intro p e s m args below meth c s₁ B hml hv
  obtain ⟨rfl, ⟨hK, hAO⟩, hw⟩ := hv
  have hts := atoms_spec (ws := .code y cc mL none :: LW) B.pre
  have hl := lv_entry ([Value.ref (zad E h)]) (n := mL) (by rw [show [Value.ref (zad E h)] = [zR h].map (zv (zad E)) from rfl, zent_sl]; exact hcat)
  rw [lg_entry_eq]
  generalize (lg_sl ([Value.ref (zad E h)]) ++ List.replicate (mL - (lg_sl ([Value.ref (zad E h)])).length) Slot.unset).toArray = la at hl ⊢
  have hlocks := B.notSynchronized
  refine hh (p, l, e, s, m, [Value.ref (zad E h)].toArray, below, meth, c, 0, 0, MQ below (kQ E post) [Value.ref (zad E h)].toArray s rm.cells rm.slots (zA E)) rfl ⟨B.exec, B.bytes, findClass_of_methodNamed B.named, fun w hw => hts w (List.mem_cons_of_mem _ hw), hK, hE, (name_of_methodNamed B.named B.method).1.trans hinit, hAO, ?_⟩ ?_ s.heap [] la hw va_S.rf ?_
  · intro pc H locs la ν n9 hd hp hw9 hS
    have hq : ∀ t : State, t.heap = H → s.WarmedH t.vm → kQ E post [Value.ref (zad E h)].toArray s (.returned none) t := fun t ht _ => ⟨⟨ν, n9, rfl, hp, by rw [ht]; exact hw9⟩, hS.F ht⟩
    exact W.vret B.exec B.bytes B.returns hq hS.2.2 hd hlocks
  · show s.heap.size + 0 = zad E (h + 1)
    rw [hw.2.2]
    rfl
  · refine ⟨by rw [← hls, zent_len (as := [zR h]) hcat]; exact hml.symm, hl.1.trans hml.symm, hl.2.1, fun i v hi hu => ?_⟩
    rw [← hls] at hi
    have := hl.2.2 _ (zent_args (ad := zad E) (as := [zR h]) (k := 0) hi hu)
    rw [Nat.zero_add] at this
    exact this
end ZMK2
