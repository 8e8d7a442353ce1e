set_option maxRecDepth 100000 in
set_option maxHeartbeats 4000000 in
theorem whole_start {p : Program} {e : Env} {s : State} {m : MethodId} {below : List Frame} {meth : Method} {c : Code} (l : Launch) (hflags : l.flags = flags0) {b L : Nat} {xs : Nat → Int32} (hL : L ≤ 3072) (C0 : lw_At p s m meth c b L xs) : W p l e room_1 s m #[Value.ref b] below meth c s.heap [] 0 0 (lw_Z below #[Value.ref b] s) (entryFrame m ([Value.ref b] : List Value).toArray 4) := by
  obtain ⟨hx, hb, hr, hml, hown, hts, hX, hbl, hlocks, hgv⟩ := id C0
  have hLW : ∀ w ∈ LW, w.before #[Value.ref b] s = true := fun w hw => hts w (LW_tbl hw)
  obtain ⟨E, hK, hE, hAO, en, el, eb, e0, eA⟩ := lw_env C0
  have hC : kw9 p s m #[Value.ref b] c code RL E := ⟨hx, hb, hown, hLW, hK, hE, hAO⟩
  have hl := lv_entry ([.ref b]) (n := 4) (Nat.le_of_ble_eq_true rfl)
  rw [lg_entry_eq]
  generalize (lg_sl ([.ref b]) ++ List.replicate (4 - (lg_sl ([.ref b])).length) Slot.unset).toArray = la at hl ⊢
  have hl : lv_has la 4 [(0, .ref b)] := hl
  have hM : k9M E zBl 0 s.heap := ⟨fun k x hx => by simp [zws] at hx, ⟨fun i j p q hi => by simp [zws] at hi, fun k q hk => by simp [zws] at hk⟩, e0.symm⟩
  refine kw_new (n := 0) (μ := zBl) (st := []) (ci := 11) (q := (RX11, TX11, 13)) hC tyX11 rfl tyX11_ok (by decide +kernel) (lw_m0 21 rfl rfl) (lw_m0 22 rfl rfl) (m_X11_init.2.2.1) zl_0 (fun j b hj => by rw [zBl_o zl_0 (by decide)]; exact zBo_ok 11 j b hj) ⟨(Nat.le_of_ble_eq_true rfl), (Nat.le_of_ble_eq_true rfl)⟩ dL_law_0 hM va_S.rf (fun H1 hM1 hS1 => ?_)
  refine lv_dup hx hb dL_law_3 rfl ?_
  refine kw_call (h := 0) (st := [zR 0]) hC (k_X11_init (fun x _ => rfl)) m_X11_init l_L_9 rfl (Nat.le_of_ble_eq_true rfl) ⟨(Nat.le_of_ble_eq_true rfl), (Nat.le_of_ble_eq_true rfl)⟩ ⟨(Nat.le_of_ble_eq_true rfl), (Nat.le_of_ble_eq_true rfl)⟩ dL_law_4 (hl.1.trans hml.symm) hM1 hS1 (fun μ1 n1 H2 locs2 hp hM2 hS2 => ?_)
  obtain ⟨rfl, hp⟩ := hp
  have h1l : ∀ x, x < 393 → μ1 x = zFi x := fun x q => by rw [hp x, if_pos ⟨Nat.zero_le _, by omega⟩]
  have h1b : ∀ x, 393 ≤ x → μ1 x = zBl x := fun x q => by rw [hp x, if_neg (by omega)]
  refine lv_astore_n (lv' := [(1, .ref (zad E 0)), (0, .ref b)]) hx hb dL_law_7 rfl hl (by decide) rfl (fun la hl => ?_)
  refine kw_new (n := 393) (μ := μ1) (st := []) (ci := 12) (q := (RX12, TX12, 42)) hC tyX12 rfl tyX12_ok (by decide +kernel) (lw_m4 124 rfl rfl) (lw_m4 125 rfl rfl) (m_X12_init.2.2.1) zl_393 (fun j b hj => by rw [h1b 393 (by decide), zBl_o zl_393 (by decide)]; exact zBo_ok 12 j b hj) ⟨(Nat.le_of_ble_eq_true rfl), (Nat.le_of_ble_eq_true rfl)⟩ dL_law_8 hM2 hS2 (fun H3 hM3 hS3 => ?_)
  refine lv_dup hx hb dL_law_11 rfl ?_
  refine kw_call (h := 393) (st := [zR 393]) hC (k_X12_init en h1l h1b) m_X12_init l_L_12 rfl (Nat.le_of_ble_eq_true rfl) ⟨(Nat.le_of_ble_eq_true rfl), (Nat.le_of_ble_eq_true rfl)⟩ ⟨(Nat.le_of_ble_eq_true rfl), (Nat.le_of_ble_eq_true rfl)⟩ dL_law_12 (hl.1.trans hml.symm) hM3 hS3 (fun ν n2 H4 locs4 hp4 hM4 hS4 => ?_)
  refine lv_astore_n (lv' := [(2, .ref (zad E 393)), (1, .ref (zad E 0)), (0, .ref b)]) hx hb dL_law_15 rfl hl (by decide) rfl (fun la hl => ?_)
  refine lv_iconst (v := Int32.ofInt 0) hx hb dL_law_16 rfl ?_
  refine lv_istore_n (lv' := [(3, .int (Int32.ofInt 0)), (2, .ref (zad E 393)), (1, .ref (zad E 0)), (0, .ref b)]) hx hb dL_law_17 rfl hl (by decide) rfl (fun la hl => ?_)
  have hR := zRel_0 hp4
  obtain ⟨rfl, hc4, -⟩ := hp4
  refine W.widen (k := 600000) (n := 7302250) (Nat.le_of_ble_eq_true rfl) (Nat.le_of_ble_eq_true rfl) ?_
  have key := lw_loop (X := (p, l, e, s, m, #[Value.ref b], below, meth, c, 600000, 7302250, lw_Z below #[Value.ref b] s)) (E := E) (by rw [el]; exact hL) (L + 1) 0 ν (Int.le_refl 0) (by omega) (by rw [el]; omega) hR
  rw [show (6 : Int) * 0 = 0 from rfl] at key
  refine key ⟨hx, hb, hown, hLW, hK, ⟨Nat.le_refl _, Nat.le_refl _⟩, en, fun pc H locs la r μ hz hp _ _ _ hS => ?_⟩ hc4 ⟨trivial, trivial, trivial, ⟨by decide, by decide⟩, trivial⟩ trivial H4 locs4 la ⟨by rw [en]; exact hM4.1, by rw [en]; exact hM4.2.1⟩ hS4 ⟨hml.symm, hl.1.trans hml.symm, hl.2.1, fun i v hi hu => ?_⟩
  · have hp : r = some (zI 1) := hp
    subst hp
    have hd : decode code pc = .ok (.ireturn, 1) := by
      rcases hz with ⟨h, _⟩ | ⟨h, _⟩ | ⟨_, z, _, _, hd⟩ | ⟨h, _⟩ | ⟨h, _⟩ | ⟨h, _⟩
      · cases h
      · cases h
      · exact hd
      · cases h
      · cases h
      · cases h
    show W p l e room_1 s m #[Value.ref b] below meth c H locs 600000 7302250 (lw_Z below #[Value.ref b] s) (F0 m pc la [.int (Int32.ofInt 1)])
    rw [show Int32.ofInt 1 = (1 : Int32) from rfl]
    refine va_forget (fun q hq => ?_) ?_
    · have q9 := hS.2.2 q hq
      rw [eA] at q9
      exact q9
    · exact lw_ret hx hb hr hlocks hd
  · match i, hi with
    | 0, hi =>
      cases hi
      show la[0]? = some (.val (.ref (zad E 9002)))
      rw [eb]
      exact hl.2.2 (0, .ref b) (by simp)
    | 1, hi => cases hi; exact hl.2.2 (1, .ref (zad E 0)) (by simp)
    | 2, hi => cases hi; exact hl.2.2 (2, .ref (zad E 393)) (by simp)
    | 3, hi => cases hi; exact hl.2.2 (3, .int (Int32.ofInt 0)) (by simp)
    | k + 4, hi => simp at hi
set_option maxHeartbeats 4000000 in
theorem lw_walk (l : Launch) (hflags : l.flags = flags0) (b : Addr) (xs : List Int32) : MetFree l x (headSpec (Jvm.Cond.code x code maxLocals ret :: tables_1) room_1) (lw_P b xs) (fun _ _ _ _ _ => True) lw_Q := by
  refine MetFree.of_bodyS (code := code) (maxLocals := maxLocals) (ret := ret) (by decide) ?_ ?_
  · intro args s m h hn
    obtain ⟨meth, c, h1, h2, h3, h4, h5, h6, -, -⟩ := Cond.code_spec hn (atoms_spec (ws := Jvm.Cond.code x code maxLocals ret :: tables_1) h _ List.mem_cons_self)
    exact ⟨meth, c, h1, h2, h3, h4, h5, h6⟩
  · intro p e s m args below meth c s₁ B hml0 hP _
    obtain ⟨rfl, hx, hbd, hgv⟩ := hP
    obtain ⟨scr, harrAt, hlist, hof, hsmall⟩ := hx
    obtain ⟨hcb, hkn, -, -⟩ := State.arrayAt?_spec harrAt
    have hown : s.vm.findClass R_law = some m.cls := findClass_of_methodNamed B.named
    have hts0 : ∀ c ∈ (Jvm.Cond.code x code maxLocals ret :: tables_1), c.before #[Value.ref b] s = true := atoms_spec (ws := Jvm.Cond.code x code maxLocals ret :: tables_1) B.pre
    have hts : ∀ w ∈ lw_tbl, w.before #[Value.ref b] s = true := k2_hts_sels lw_privs (fun w hw => hts0 w (List.mem_cons_of_mem _ hw)) lw_privs_ok
    have hml : c.maxLocals = 4 := B.maxLocals_eq (hts0 _ List.mem_cons_self)
    have X₀ : Stand p l e room_1 s m #[Value.ref b] below meth c s₁ [] 0 0 := Stand.of_body B
    have hh0 : s₁.heap = s.heap := by rw [B.state]; rfl
    have hsz : scr.slots.size = xs.length := by rw [← Array.length_toList, hlist, List.length_map]
    have hval : ∀ j : Nat, j < xs.length → scr.slots[j]? = some (.int (xs.getD j 0)) := fun j hj => by
      rw [← Array.getElem?_toList, hlist]
      simp [hj]
    have hbl : b < s.heap.size := (Array.getElem?_eq_some_iff.mp hcb).1
    have hX : va_X b xs.length (fun j => xs.getD j 0) s s.heap := ⟨scr, hcb, hof, hkn, hsz, hval⟩
    have K : W p l e room_1 s m #[Value.ref b] below meth c s₁.heap [] 0 0 (lw_Z below #[Value.ref b] s) (entryFrame m ([Value.ref b] : List Value).toArray 4) := by
      rw [hh0]
      exact whole_start l hflags hbd ⟨B.exec, B.bytes, B.returns, hml, hown, hts, hX, hbl, B.notSynchronized, hgv⟩
    obtain ⟨t, a1, o, b1, b2, b3⟩ := K s₁ rfl X₀
    exact ⟨t, o, a1, b1, b2, b3⟩
theorem lw_pre_spec {args : Array Value} {s : State} (h : (Jvm.Cond.and given_1 narrow_1).before args s = true) (hr : rest_1_c.before args s = true) : ∃ (b : Addr) (xs : List Int32), lw_P b xs args s := by
  have hs := flat_of_before _ h
  have hq := flat_of_before _ hr
  have hc : (Cond.count 1).before args s = true := hs _ (by decide +kernel)
  have harr : (Cond.arrayOf (.arg 0) .int).before args s = true := hs _ (by decide +kernel)
  have hle : (Cond.le (.length (.arg 0)) (.int 3072)).before args s = true := hs _ (by decide +kernel)
  have hlen : (Cond.isInt (.length (.arg 0))).before args s = true := hq _ (by decide +kernel)
  have hall : (Cond.all (.arg 0) (.isInt (.elem (.arg 0) (.index 0)))).before args s = true := hq _ (by decide +kernel)
  obtain ⟨b, xs, hb, hx⟩ := State.ints_of_pre rfl harr hlen hall
  have hsm : xs.length < 2 ^ 31 := hx.choose_spec.2.2.2
  have hev : (Term.length (.arg 0)).eval args s none [] s = some (.int xs.length.toInt32) := hx.length_eval hb
  have hv := Cond.le_ints hev (show (Term.int 3072).eval args s none [] s = some (.int 3072) from rfl)
  have hd : xs.length.toInt32 ≤ 3072 := by
    simpa [Cond.before, Cond.holds, hv] using hle
  have hN : xs.length ≤ 3072 := (Int32.ofNat_le_ofNat hsm (by decide)).mp (show Int32.ofNat xs.length ≤ Int32.ofNat 3072 from hd)
  exact ⟨b, xs, Cond.one_arg hc (show args[0]? = some (.ref b) from hb), hx, hN, h⟩
theorem lw_comes (l : Launch) (hflags : l.flags = flags0) : Comes l x (Jvm.Cond.code x code maxLocals ret :: tables_1) room_1 (fun tb e args s => Calls_1 tb e args s ∧ rest_1 tb e args s ∧ Pre_1 tb e args s)
    (fun _ _ args s o t => lw_Q args s o t) := by
  intro p e ha hc hk s m args below hf hfit hheap happ hpre
  obtain ⟨b, xs, hP⟩ := lw_pre_spec hpre.2.2 hpre.2.1
  obtain ⟨k, o, h1, h2, h3, hQ⟩ := lw_walk l hflags b xs p e ha hc hk s m args below hf ((Spec.applies_iff_loose hf).mp happ).1 hP trivial
  exact ⟨k, o, h1, h2, h3, hQ⟩
theorem lw_frame {s t : State} {o : Outcome} {args : Array Value} (h : Framed s o t [] 600000 7302250) :
    Framed s o t (fieldLocs frame_1_writes args s ++ arrayLocs frame_1_arrays args s ++ staticLocs frame_1_statics s) 600000 7302250 := h
theorem lw_limb (L : Cond) (hL : ∀ (args : Array Value) (s t : State), L.after args s (.returned (some (.int 1))) t = true) :
    ArmFor flags0 classFile x code maxLocals ret World_1 tables_1 room_1 Calls_1 rest_1 Pre_1
      (fun tb e a s o t => postC L tb e a s o t ∧ Framed s o t (fieldLocs frame_1_writes a s ++ arrayLocs frame_1_arrays a s ++ staticLocs frame_1_statics s) 600000 7302250) := by
  intro l hflags _ _ p e ha hc hk s m args below hf hfit hheap happ hpre
  obtain ⟨k, o, h1, h2, h3, rfl, hF⟩ := lw_comes l hflags p e ha hc hk s m args below hf hfit hheap happ hpre
  exact ⟨k, _, h1, h2, h3, hL args s _, lw_frame hF⟩
theorem i_vc : Claimed_1_1 ∧ Claimed_1_2 := ⟨lw_limb limb_1_1 (fun args s t => by simp [limb_1_1, Cond.after, Cond.holds, Cond.value]), lw_limb limb_1_2 (fun args s t => Cond.after_iff.mpr (by
  first | (rw [show limb_1_2 = Cond.eq .result (.int 1) from rfl, Cond.eq_ints (x := 1) (y := 1) rfl rfl]; simp; done) | (simp [limb_1_2, Cond.value, Term.eval]; done)))⟩
