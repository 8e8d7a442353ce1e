section ZMK5
variable {X : zX} {E : zE} {cc : ByteArray} {own : String} {rm : Room} {post : zM → Nat → Prop} {pc : Nat} {ls st : List zAV} {μ : zM} {n kc ks : Nat}
theorem k_callV0 {id ci nk idx mL2 : Nat} {y : MethodName} {cc2 : ByteArray} {rc : Room} {post2 : Option zAV → zM → Prop} (hzn : zn E = zN) (hnn : n = zN) (hc : zC μ) (hM9 : Ct X.2.1 E y cc2 mL2 none rc [zR id] μ post2) (hr0 : ∀ r μ1, post2 r μ1 → r = none) (hm : zMv y cc2 mL2 none ci 0) (hk : zl id = (ci, nk)) (hl : Cond.methodLink own idx y ∈ LW) (hcat : zcat st ≤ 8) (hroom : rc.frames + 1 ≤ rm.frames ∧ 8 + (mL2 + 11) + rc.locals ≤ rm.locals) (hrc : rc.cells = 0 ∧ rc.slots = 0) (hkr : kc ≤ rm.cells ∧ ks ≤ rm.slots) (hd : decode cc pc = .ok (.invokevirtual idx, 3)) (kk : ∀ μ1, post2 none μ1 → zC μ1 → MK X E cc own rm post (pc + 3) ls st μ1 n kc ks) : MK X E cc own rm post pc ls (zR id :: st) μ n kc ks := fun hC hy H locs la hM hS hla => by
  subst hnn
  obtain ⟨q, hq, m1, m2, m3, m4, m5, m6⟩ := hm
  obtain ⟨-, -, -, -, o5⟩ := zcl_ok ci q hq
  have hM1 := hM9 hzn hc ⟨trivial, trivial⟩
  have hid : id < zN := zl_lt hk (by omega)
  have hW : zWd E μ H := ⟨by rw [hzn]; exact hM.1, by rw [hzn]; exact hM.2.1⟩
  have cw := cwV (R := rm) (n := 0) (args := X.2.2.2.2.2.1) hC.2.2.2.1 (LW_goodV (own2 := own) (idx := idx) (C := q.1) m2 hl m3 m4 m5) rfl hrc.1 hrc.2 ⟨m1, m6⟩ hroom
  have hr := va_runV (p := X.1) (l := X.2.1) (e := X.2.2.1) (below := X.2.2.2.2.2.2.1) (meth := X.2.2.2.2.2.2.2.1) (locs := locs) (cells := kc) (slots := ks) (nL := X.2.2.2.2.2.2.2.2.1.maxLocals) (b := zad E id) (As := []) (rest := st.map (zv (zad E))) (g := F0 X.2.2.2.2.1 pc la ((zR id :: st).map (zv (zad E)))) ⟨hC.1, hC.2.1, rfl, hC.2.2.1, hC.2.2.2.1⟩ hM1 cw ⟨zPc_blind, va_recv (D := zD E) (ci := ci) (q0 := id) hC.2.2.2.2.1.1 hM.1 hq (by rw [zws_at hid, zeq_o hk o5]), fun U hU hWm => ⟨rfl, zKst.next hC.2.2.2.2.1 hS hU hWm, by rw [hU]; exact hW⟩⟩ rfl rfl hla.2.1 rfl (lv_room (by rw [zcat_sum]; exact hcat)) hd hkr
  refine z_after hr hS (fun r μ1 H1 locs1 hp hc1 hcan hw1 hS1 => ?_)
  obtain rfl := hr0 r μ1 hp
  rw [zWd, hzn] at hw1
  exact kW_size (fun hup => kk μ1 hp hc1 hC hy H1 locs1 la ⟨hw1.1, hw1.2, k9sz hC.2.2.2.2.2.1 (Nat.le_refl _) (by decide) hw1.1 (by rw [← hy]; exact hup)⟩ hS1 hla)
end ZMK5
