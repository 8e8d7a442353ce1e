theorem z_ldcw {X : zX} {E : zE} {cc : ByteArray} {own : String} {rm : Room} {ret : Option FieldType} {post : Option zAV → zM → Prop} {pc : Nat} {ls st : List zAV} {μ : zM} {n : Int} {i : Nat} {v : Int32} (hw : Cond.constant own i v ∈ LW) (hd : decode cc pc = .ok (.ldc_w i, 3)) (hv : v.toInt = n) (k : MW X E cc own rm ret post (pc + 3) ls (zI n :: st) μ) : MW X E cc own rm ret post pc ls st μ := z_stk k (fun hs _ _ => ⟨by rw [← hv]; exact zi_z, hs⟩) (fun H locs la _ _ hC _ _ _ kk => lv_ldcw hC.1 hC.2.1 hC.2.2.1 (hC.2.2.2.1 _ hw) hd (by
  have e : v = Int32.ofInt n := by rw [← hv, Int32.ofInt_toInt]
  rw [e]
  exact kk))
/-- of the five sleepers another one's rows stay -/
def zRs (i : Int) (μ ν : zM) : Prop := ∀ x, 0 ≤ x → x < 5 → x ≠ i → ν 403 x = μ 403 x ∧ ν 404 x = μ 404 x ∧ ν 405 x = μ 405 x ∧ ν 406 x = μ 406 x ∧ ν 408 x = μ 408 x ∧ ∀ k, 0 ≤ k → k < 40 → ν 407 (40 * x + k) = μ 407 (40 * x + k) ∧ ν 409 (40 * x + k) = μ 409 (40 * x + k) ∧ ν 410 (40 * x + k) = μ 410 (40 * x + k)
theorem zRs_1 {i x : Int} {μ ν T : zM} (h : zRs i μ ν) (x0 : 0 ≤ x) (x1 : x < 5) (q : x ≠ i) (h4 : T 4 x ≤ 40) (z : zR1 μ T x) : zR1 ν T x := by
  obtain ⟨a, b, c, d, e, f⟩ := h x x0 x1 q
  exact zR1_fr z a d e b c (fun k k0 k1 => (f k k0 (by omega)).2)
theorem zRs_d {i x t : Int} {μ ν T : zM} (h : zRs i μ ν) (x0 : 0 ≤ x) (x1 : x < 5) (q : x ≠ i) (t1 : t ≤ 40) (z : zRd μ T x t) : zRd ν T x t := fun k k0 k1 => by
  rw [((h x x0 x1 q).2.2.2.2.2 k k0 (by omega)).1]; exact z k k0 k1
theorem zRn {V : zM} {fan t : Int} {S μ : zM} {i : Int} (i0 : 0 ≤ i) (i1 : i < 5) (t0 : 0 ≤ t) (t1 : t < 40) (z : zR1 μ (zZm V fan t S) i) (d : zRd μ S i t) : zR1 (zup (zup μ 406 i (zZm V fan t S 3 i + zif (zZm V fan t S 0 i = 2) 1 0)) 407 (40 * i + t) (zif (zZm V fan t S 0 i = 2) (2 + zDp (t - zZm V fan t S 1 i)) (zZm V fan t S 0 i))) (zZl V fan t S) i ∧ zRd (zup (zup μ 406 i (zZm V fan t S 3 i + zif (zZm V fan t S 0 i = 2) 1 0)) 407 (40 * i + t) (zif (zZm V fan t S 0 i = 2) (2 + zDp (t - zZm V fan t S 1 i)) (zZm V fan t S 0 i))) (zZl V fan t S) i (t + 1) := by
  generalize hζ : zup (zup μ 406 i (zZm V fan t S 3 i + zif (zZm V fan t S 0 i = 2) 1 0)) 407 (40 * i + t) (zif (zZm V fan t S 0 i = 2) (2 + zDp (t - zZm V fan t S 1 i)) (zZm V fan t S 0 i)) = ζ
  replace hζ := hζ.symm
  obtain ⟨g0, g1, g2, g3, g4, g5⟩ := z
  have f3 : ζ 403 = μ 403 := by rw [hζ]; (repeat (first | rw [zup_eq] | rw [zup_row (by omega)] | rw [zup_ne (Or.inr (by omega))]))
  have f4 : ζ 404 = μ 404 := by rw [hζ]; (repeat (first | rw [zup_eq] | rw [zup_row (by omega)] | rw [zup_ne (Or.inr (by omega))]))
  have f5 : ζ 405 = μ 405 := by rw [hζ]; (repeat (first | rw [zup_eq] | rw [zup_row (by omega)] | rw [zup_ne (Or.inr (by omega))]))
  have f8 : ζ 408 = μ 408 := by rw [hζ]; (repeat (first | rw [zup_eq] | rw [zup_row (by omega)] | rw [zup_ne (Or.inr (by omega))]))
  have f9 : ζ 409 = μ 409 := by rw [hζ]; (repeat (first | rw [zup_eq] | rw [zup_row (by omega)] | rw [zup_ne (Or.inr (by omega))]))
  have f10 : ζ 410 = μ 410 := by rw [hζ]; (repeat (first | rw [zup_eq] | rw [zup_row (by omega)] | rw [zup_ne (Or.inr (by omega))]))
  refine ⟨⟨by rw [f3]; exact g0, by rw [hζ]; (repeat (first | rw [zup_eq] | rw [zup_row (by omega)] | rw [zup_ne (Or.inr (by omega))])); rfl, by rw [f8]; exact g2, fun q => by rw [f4]; exact g3 q, fun q => by rw [f5]; exact g4 q, fun k k0 k1 => by rw [f9, f10]; exact g5 k k0 k1⟩, fun k k0 k1 => ?_⟩
  rw [zZl_11 k0 (by omega)]
  by_cases q : k = t
  · subst q
    rw [zif_t rfl, hζ]; (repeat (first | rw [zup_eq] | rw [zup_row (by omega)] | rw [zup_ne (Or.inr (by omega))])); rfl
  · rw [zif_f q, hζ]; (repeat (first | rw [zup_eq] | rw [zup_row (by omega)] | rw [zup_ne (Or.inr (by omega))])); exact d k k0 (by omega)
theorem zRs_n {i t a b : Int} {μ : zM} (i0 : 0 ≤ i) (t0 : 0 ≤ t) (t1 : t < 40) : zRs i μ (zup (zup μ 406 i a) 407 (40 * i + t) b) := fun x x0 x1 q => ⟨by (repeat (first | rw [zup_eq] | rw [zup_row (by omega)] | rw [zup_ne (Or.inr (by omega))])), by (repeat (first | rw [zup_eq] | rw [zup_row (by omega)] | rw [zup_ne (Or.inr (by omega))])), by (repeat (first | rw [zup_eq] | rw [zup_row (by omega)] | rw [zup_ne (Or.inr (by omega))])), by (repeat (first | rw [zup_eq] | rw [zup_row (by omega)] | rw [zup_ne (Or.inr (by omega))])), by (repeat (first | rw [zup_eq] | rw [zup_row (by omega)] | rw [zup_ne (Or.inr (by omega))])), fun k k0 k1 => ⟨by (repeat (first | rw [zup_eq] | rw [zup_row (by omega)] | rw [zup_ne (Or.inr (by omega))])), by (repeat (first | rw [zup_eq] | rw [zup_row (by omega)] | rw [zup_ne (Or.inr (by omega))])), by (repeat (first | rw [zup_eq] | rw [zup_row (by omega)] | rw [zup_ne (Or.inr (by omega))]))⟩⟩
theorem zRs_t {V : zM} {fan t i : Int} {S μ ν : zM} (i0 : 0 ≤ i) (i1 : i < 5) (h4 : 0 ≤ S 4 i ∧ S 4 i < 40) (h : zRt V fan t S i μ ν) : zRs i μ ν := fun x x0 x1 q => ⟨h.2 _ _ (fun c => by omega) (fun c => q c.1), h.2 _ _ (fun c => by omega) (fun c => q c.1), h.2 _ _ (fun c => by omega) (fun c => q c.1), h.2 _ _ (fun c => by omega) (fun c => by omega), h.2 _ _ (fun c => by omega) (fun c => q c.1), fun k k0 k1 => ⟨h.2 _ _ (fun c => by omega) (fun c => by omega), h.2 _ _ (fun c => by omega) (fun c => by omega), h.2 _ _ (fun c => by omega) (fun c => by omega)⟩⟩
theorem zRs_x {i : Int} {μ ν ξ : zM} (h : zRs i μ ν) (g : zRs i ν ξ) : zRs i μ ξ := fun x x0 x1 q => by
  obtain ⟨a1, a2, a3, a4, a5, a6⟩ := h x x0 x1 q
  obtain ⟨b1, b2, b3, b4, b5, b6⟩ := g x x0 x1 q
  exact ⟨b1.trans a1, b2.trans a2, b3.trans a3, b4.trans a4, b5.trans a5, fun k k0 k1 => ⟨(b6 k k0 k1).1.trans (a6 k k0 k1).1, (b6 k k0 k1).2.1.trans (a6 k k0 k1).2.1, (b6 k k0 k1).2.2.trans (a6 k k0 k1).2.2⟩⟩
def zRf (μ ν : zM) : Prop := (∀ k, k ≠ 31 → k ≠ 32 → k ≠ 33 → ν 393 k = μ 393 k) ∧ ∀ x : Nat, x ≠ 393 → (x < 403 ∨ 414 < x) → ν x = μ x
def zRN (V : zM) (μ : zM) (S : zM) (t : Int) : Prop := ∀ s, 0 ≤ s → s < V 3 3 → zR1 μ S s ∧ zRd μ S s t
theorem zM_since {V : zM} {fan t : Int} {S : zM} {i : Int} (h : zZi V t S i) (q : zZm V fan t S 0 i = 2) : zZm V fan t S 1 i ≤ t := by
  rw [zZm_0] at q
  rw [zZm_1]
  unfold zZh at q
  unfold zZs
  by_cases f : zZf V fan t S i
  · rw [zif_t f]; exact Int.le_refl _
  · rw [zif_f f]
    by_cases w : zZw V fan t S i
    · rw [zif_t w] at q; exact absurd q (by decide)
    · rw [zif_f w, zif_f f] at q; exact (h.2.2.2.1 q).2
set_option maxRecDepth 100000 in
set_option maxHeartbeats 4000000 in
theorem k_X12_nights {l : Launch} {E : zE} {μ V : zM} (hV : zBV (μ 394) = V) (ok : zOK V) (far : zFar V (μ 402)) (hfan : 0 ≤ μ 393 18 ∧ μ 393 18 ≤ 100) : Ct l E yX12_nights cX12_nights 4 none ({ frames := 4, cells := 0, slots := 0, locals := 98 }) [zR 393] μ (fun r ν => r = none ∧ zRN V ν (zZt V (μ 393 18) 40) 40 ∧ ν 393 32 = zWo (V 3 3) (zZt V (μ 393 18) 40 3) ∧ ν 393 33 = zGo (V 3 3) (zZt V (μ 393 18) 40 3) ∧ zRf μ ν) := by
  refine Ct.of RX12 [zR 393, zU, zU, zU] (by decide +kernel) rfl ⟨rfl, rfl⟩ rfl (Nat.le_of_ble_eq_true rfl) (fun X hX hc0 ha0 => ?_)
  subst hX
  have np0 := ok.2.1.1
  have J187 : ∀ ξ, zRN V ξ (zZt V (μ 393 18) 40) 40 → zRf μ ξ → ∀ a b c, MW X E cX12_nights RX12 ({ frames := 4, cells := 0, slots := 0, locals := 98 }) none (fun r ν => r = none ∧ zRN V ν (zZt V (μ 393 18) 40) 40 ∧ ν 393 32 = zWo (V 3 3) (zZt V (μ 393 18) 40 3) ∧ ν 393 33 = zGo (V 3 3) (zZt V (μ 393 18) 40 3) ∧ zRf μ ν) 187 [zR 393, a, b, c] [] ξ := by
    intro ξ hni hf a b c
    have h94ξ : ξ 394 = μ 394 := hf.2 394 (by decide) (Or.inl (by decide))
    have hVξ : zBV (ξ 394) = V := by rw [h94ξ]; exact hV
    have okξ : zOK (zBV (ξ 394)) := by rw [hVξ]; exact ok
    have farξ : zFar V (ξ 402) := by rw [show ξ 402 = μ 402 from hf.2 402 (by decide) (Or.inl (by decide))]; exact far
    have m2ξ : ξ 394 2 = V 3 3 := by rw [h94ξ, ← hV]; rfl
    have L5 : ∀ (k : Nat) (s : Nat) (ζ : zM), (s : Int) ≤ V 3 3 → ζ 393 32 = (if V 3 3 = 0 then 0 else if s = 0 then 1000000 else zmn (zZt V (μ 393 18) 40 3) s) → ζ 393 33 = zsum (zZt V (μ 393 18) 40 3) s → (∀ x : Nat, x ≠ 393 → ζ x = ξ x) → zRf μ ζ → V 3 3 - s < k → MW X E cX12_nights RX12 ({ frames := 4, cells := 0, slots := 0, locals := 98 }) none (fun r ν => r = none ∧ zRN V ν (zZt V (μ 393 18) 40) 40 ∧ ν 393 32 = zWo (V 3 3) (zZt V (μ 393 18) 40 3) ∧ ν 393 33 = zGo (V 3 3) (zZt V (μ 393 18) 40 3) ∧ zRf μ ν) 214 [zR 393, zI (s : Int), zU, zU] [] ζ := by
      intro k
      induction k with
      | zero => intro s ζ hs1 hw32 hw33 hx hf5 h3; omega
      | succ k ih2 =>
        intro s ζ hs1 hw32 hw33 hx hf5 h3
        have h94ζ : ζ 394 = μ 394 := hf5.2 394 (by decide) (Or.inl (by decide))
        have hVζ : zBV (ζ 394) = V := by rw [h94ζ]; exact hV
        have okζ : zOK (zBV (ζ 394)) := by rw [hVζ]; exact ok
        have farζ : zFar V (ζ 402) := by rw [show ζ 402 = μ 402 from hf5.2 402 (by decide) (Or.inl (by decide))]; exact far
        have m2ζ : ζ 394 2 = V 3 3 := by rw [h94ζ, ← hV]; rfl
        refine z_iload_1 dX12_nights_214 ?_
        refine z_aload_0 dX12_nights_215 ?_
        refine z_getF 394 1 rfl f_X12_7 zl_393 rfl rfl dX12_nights_216 ?_
        refine z_iconst dX12_nights_219 (by decide) ?_
        refine z_iald zl_394 (by omega) (by omega) dX12_nights_220 ?_
        refine z_icmpge (tgt := 275) dX12_nights_221 (by decide) (fun h_221 => ?_) (fun h_221 => ?_)
        · exact z_vret dX12_nights_275 (⟨rfl, fun x x0 x1 => ⟨zR1_fr (hni x x0 x1).1 (by rw [hx _ (by decide)]) (by rw [hx _ (by decide)]) (by rw [hx _ (by decide)]) (by rw [hx _ (by decide)]) (by rw [hx _ (by decide)]) (fun k k0 k1 => by rw [hx _ (by decide), hx _ (by decide)]; exact ⟨rfl, rfl⟩), fun k k0 k1 => by rw [hx _ (by decide)]; exact (hni x x0 x1).2 k k0 k1⟩, by rw [hw32]; unfold zWo; by_cases q : V 3 3 = 0; rw [if_pos q, if_pos q]; rw [if_neg q, if_neg q, if_neg (by omega), show (V 3 3).toNat = s by omega], by rw [hw33]; unfold zGo; rw [show (V 3 3).toNat = s by omega], hf5⟩)
        · have s1 : (s : Int) < V 3 3 := by omega
          have z3 := (zZt_i (V := V) (fan := μ 393 18) (ok.2.1.2 (s : Int) (by omega) s1).2.1.1 40).2.2.2.2.1
          have g6 : ζ 406 (s : Int) = zZt V (μ 393 18) 40 3 (s : Int) := by rw [hx 406 (by decide)]; exact (hni s (by omega) s1).1.2.1
          have gb := zsum_b (f := zZt V (μ 393 18) 40 3) (B := 40) (n := s) (fun x x0 x1 => by have := (zZt_i (V := V) (fan := μ 393 18) (ok.2.1.2 x x0 (by omega)).2.1.1 40).2.2.2.2.1; exact ⟨this.1, this.2⟩)
          refine z_aload_0 dX12_nights_224 ?_
          refine z_aload_0 dX12_nights_225 ?_
          refine z_getF 406 13 rfl f_X12_47 zl_393 rfl rfl dX12_nights_226 ?_
          refine z_iload_1 dX12_nights_229 ?_
          refine z_iald zl_406 (by omega) (by omega) dX12_nights_230 ?_
          rw [g6]
          refine z_aload_0 dX12_nights_231 ?_
          refine z_getI 32 rfl f_X12_296 zl_393 rfl dX12_nights_232 ?_
          refine z_icmpge (tgt := 247) dX12_nights_235 (by decide) (fun h_235 => ?_) (fun h_235 => ?_)
          · refine z_aload_0 dX12_nights_247 ?_
            refine z_getI 32 rfl f_X12_296 zl_393 rfl dX12_nights_248 ?_
            refine z_putI 32 rfl f_X12_296 p_12_32 zl_393 rfl rfl dX12_nights_251 ?_
            refine z_aload_0 dX12_nights_254 ?_
            refine z_dup dX12_nights_255 rfl ?_
            refine z_getI 33 rfl f_X12_299 zl_393 rfl dX12_nights_256 ?_
            (repeat rw [zup_ne (Or.inr (by decide))])
            rw [hw33]
            refine z_aload_0 dX12_nights_259 ?_
            refine z_getF 406 13 rfl f_X12_47 zl_393 rfl rfl dX12_nights_260 ?_
            refine z_iload_1 dX12_nights_263 ?_
            refine z_iald zl_406 (by omega) (by omega) dX12_nights_264 ?_
            rw [zup_row (by decide), g6]
            refine z_iadd dX12_nights_265 (by omega) ?_
            refine z_putI 33 rfl f_X12_299 p_12_33 zl_393 rfl rfl dX12_nights_266 ?_
            refine z_iinc_1 rfl dX12_nights_269 (by omega) ?_
            refine z_goto (tgt := 214) dX12_nights_272 (by decide) ?_
            have hst : ζ 393 32 = (if V 3 3 = 0 then 0 else if s + 1 = 0 then 1000000 else zmn (zZt V (μ 393 18) 40 3) (s + 1)) := by
              rw [if_neg (by omega), if_neg (by omega), zmw_s]
              rw [if_neg (by omega)] at hw32
              by_cases q : s = 0
              · subst q
                rw [if_pos rfl] at hw32
                have e : zmn (zZt V (μ 393 18) 40 3) 0 = 40 := rfl
                rw [e]
                omega
              · rw [if_neg q] at hw32; omega
            refine z_weak (ls' := [zR 393, zI ((s + 1 : Nat) : Int), zU, zU]) ⟨Or.inl rfl, Or.inl rfl, Or.inr rfl, Or.inr rfl, trivial⟩ (ih2 (s + 1) _ (by omega) (by (repeat (first | rw [zup_eq] | rw [zup_row (by omega)] | rw [zup_ne (Or.inr (by omega))])); exact hst) (by (repeat (first | rw [zup_eq] | rw [zup_row (by omega)] | rw [zup_ne (Or.inr (by omega))])); rw [zsum_s, ← hw33]) (fun x x1 => by (repeat (first | rw [zup_eq] | rw [zup_row (by omega)] | rw [zup_ne (Or.inr (by omega))])); exact hx x x1) ⟨fun k k1 k2 k3 => by (repeat (first | rw [zup_eq] | rw [zup_row (by omega)] | rw [zup_ne (Or.inr (by omega))])); exact hf5.1 k k1 k2 k3, fun x x1 x2 => by (repeat (first | rw [zup_eq] | rw [zup_row (by omega)] | rw [zup_ne (Or.inr (by omega))])); exact hf5.2 x x1 x2⟩ (by omega))
          · refine z_aload_0 dX12_nights_238 ?_
            refine z_getF 406 13 rfl f_X12_47 zl_393 rfl rfl dX12_nights_239 ?_
            refine z_iload_1 dX12_nights_242 ?_
            refine z_iald zl_406 (by omega) (by omega) dX12_nights_243 ?_
            rw [g6]
            refine z_goto (tgt := 251) dX12_nights_244 (by decide) ?_
            refine z_putI 32 rfl f_X12_296 p_12_32 zl_393 rfl rfl dX12_nights_251 ?_
            refine z_aload_0 dX12_nights_254 ?_
            refine z_dup dX12_nights_255 rfl ?_
            refine z_getI 33 rfl f_X12_299 zl_393 rfl dX12_nights_256 ?_
            (repeat rw [zup_ne (Or.inr (by decide))])
            rw [hw33]
            refine z_aload_0 dX12_nights_259 ?_
            refine z_getF 406 13 rfl f_X12_47 zl_393 rfl rfl dX12_nights_260 ?_
            refine z_iload_1 dX12_nights_263 ?_
            refine z_iald zl_406 (by omega) (by omega) dX12_nights_264 ?_
            rw [zup_row (by decide), g6]
            refine z_iadd dX12_nights_265 (by omega) ?_
            refine z_putI 33 rfl f_X12_299 p_12_33 zl_393 rfl rfl dX12_nights_266 ?_
            refine z_iinc_1 rfl dX12_nights_269 (by omega) ?_
            refine z_goto (tgt := 214) dX12_nights_272 (by decide) ?_
            have hst : zZt V (μ 393 18) 40 3 (s : Int) = (if V 3 3 = 0 then 0 else if s + 1 = 0 then 1000000 else zmn (zZt V (μ 393 18) 40 3) (s + 1)) := by
              rw [if_neg (by omega), if_neg (by omega), zmw_s]
              rw [if_neg (by omega)] at hw32
              by_cases q : s = 0
              · subst q
                rw [if_pos rfl] at hw32
                have e : zmn (zZt V (μ 393 18) 40 3) 0 = 40 := rfl
                rw [e]
                omega
              · rw [if_neg q] at hw32; omega
            refine z_weak (ls' := [zR 393, zI ((s + 1 : Nat) : Int), zU, zU]) ⟨Or.inl rfl, Or.inl rfl, Or.inr rfl, Or.inr rfl, trivial⟩ (ih2 (s + 1) _ (by omega) (by (repeat (first | rw [zup_eq] | rw [zup_row (by omega)] | rw [zup_ne (Or.inr (by omega))])); exact hst) (by (repeat (first | rw [zup_eq] | rw [zup_row (by omega)] | rw [zup_ne (Or.inr (by omega))])); rw [zsum_s, ← hw33]) (fun x x1 => by (repeat (first | rw [zup_eq] | rw [zup_row (by omega)] | rw [zup_ne (Or.inr (by omega))])); exact hx x x1) ⟨fun k k1 k2 k3 => by (repeat (first | rw [zup_eq] | rw [zup_row (by omega)] | rw [zup_ne (Or.inr (by omega))])); exact hf5.1 k k1 k2 k3, fun x x1 x2 => by (repeat (first | rw [zup_eq] | rw [zup_row (by omega)] | rw [zup_ne (Or.inr (by omega))])); exact hf5.2 x x1 x2⟩ (by omega))
    refine z_aload_0 dX12_nights_187 ?_
    refine z_aload_0 dX12_nights_188 ?_
    refine z_getF 394 1 rfl f_X12_7 zl_393 rfl rfl dX12_nights_189 ?_
    refine z_iconst dX12_nights_192 (by decide) ?_
    refine z_iald zl_394 (by omega) (by omega) dX12_nights_193 ?_
    refine z_ifne (tgt := 201) dX12_nights_194 (by decide) (fun h_194 => ?_) (fun h_194 => ?_)
    · refine z_ldcw (n := 1000000) k_X12_295 dX12_nights_201 (by decide +kernel) ?_
      refine z_putI 32 rfl f_X12_296 p_12_32 zl_393 rfl rfl dX12_nights_204 ?_
      refine z_aload_0 dX12_nights_207 ?_
      refine z_iconst dX12_nights_208 (by decide) ?_
      refine z_putI 33 rfl f_X12_299 p_12_33 zl_393 rfl rfl dX12_nights_209 ?_
      refine z_iconst dX12_nights_212 (by decide) ?_
      refine z_istore_1 rfl dX12_nights_213 ?_
      refine z_weak (ls' := [zR 393, zI ((0 : Nat) : Int), zU, zU]) ⟨Or.inl rfl, Or.inl rfl, Or.inr rfl, Or.inr rfl, trivial⟩ ?_
      exact L5 9 0 _ (by omega) (by rw [zup_ne (Or.inr (by decide)), zup_eq]; rw [if_neg (by omega), if_pos rfl]) (by rw [zup_eq]; rfl) (fun x x1 => by (repeat (first | rw [zup_eq] | rw [zup_row (by omega)] | rw [zup_ne (Or.inr (by omega))]))) ⟨fun k k1 k2 k3 => by (repeat (first | rw [zup_eq] | rw [zup_row (by omega)] | rw [zup_ne (Or.inr (by omega))])); exact hf.1 k k1 k2 k3, fun x x1 x2 => by (repeat (first | rw [zup_eq] | rw [zup_row (by omega)] | rw [zup_ne (Or.inr (by omega))])); exact hf.2 x x1 x2⟩ (by omega)
    · refine z_iconst dX12_nights_197 (by decide) ?_
      refine z_goto (tgt := 204) dX12_nights_198 (by decide) ?_
      refine z_putI 32 rfl f_X12_296 p_12_32 zl_393 rfl rfl dX12_nights_204 ?_
      refine z_aload_0 dX12_nights_207 ?_
      refine z_iconst dX12_nights_208 (by decide) ?_
      refine z_putI 33 rfl f_X12_299 p_12_33 zl_393 rfl rfl dX12_nights_209 ?_
      refine z_iconst dX12_nights_212 (by decide) ?_
      refine z_istore_1 rfl dX12_nights_213 ?_
      refine z_weak (ls' := [zR 393, zI ((0 : Nat) : Int), zU, zU]) ⟨Or.inl rfl, Or.inl rfl, Or.inr rfl, Or.inr rfl, trivial⟩ ?_
      exact L5 9 0 _ (by omega) (by rw [zup_ne (Or.inr (by decide)), zup_eq]; rw [if_pos (by omega)]) (by rw [zup_eq]; rfl) (fun x x1 => by (repeat (first | rw [zup_eq] | rw [zup_row (by omega)] | rw [zup_ne (Or.inr (by omega))]))) ⟨fun k k1 k2 k3 => by (repeat (first | rw [zup_eq] | rw [zup_row (by omega)] | rw [zup_ne (Or.inr (by omega))])); exact hf.1 k k1 k2 k3, fun x x1 x2 => by (repeat (first | rw [zup_eq] | rw [zup_row (by omega)] | rw [zup_ne (Or.inr (by omega))])); exact hf.2 x x1 x2⟩ (by omega)
  have LO : ∀ (k : Nat) (t : Nat) (ξ : zM), (t : Int) ≤ 40 → zRN V ξ (zZt V (μ 393 18) t) (t : Int) → zRf μ ξ → 40 - (t : Int) < k → MW X E cX12_nights RX12 ({ frames := 4, cells := 0, slots := 0, locals := 98 }) none (fun r ν => r = none ∧ zRN V ν (zZt V (μ 393 18) 40) 40 ∧ ν 393 32 = zWo (V 3 3) (zZt V (μ 393 18) 40 3) ∧ ν 393 33 = zGo (V 3 3) (zZt V (μ 393 18) 40 3) ∧ zRf μ ν) 48 [zR 393, zI (t : Int), zU, zU] [] ξ := by
    intro k
    induction k with
    | zero => intro t ξ ht1 hni hf h4; omega
    | succ k ih =>
      intro t ξ ht1 hni hf h4
      refine z_iload_1 dX12_nights_48 ?_
      refine z_bipush dX12_nights_49 (by decide) ?_
      refine z_icmpge (tgt := 187) dX12_nights_51 (by decide) (fun h_51 => ?_) (fun h_51 => ?_)
      · obtain rfl : t = 40 := (by omega)
        exact J187 ξ hni hf _ _ _
      · have hI1 : ∀ x, 0 ≤ x → x < V 3 3 → zZi V (t : Int) (zZc V (t : Int) (zZt V (μ 393 18) t)) x := fun x x0 x1 => zZc_i (zZt_i (ok.2.1.2 x x0 x1).2.1.1 t) (ok.2.1.2 x x0 x1).2.1.1
        refine z_aload_0 dX12_nights_54 ?_
        refine z_iconst dX12_nights_55 (by decide) ?_
        refine z_putI 31 rfl f_X12_265 p_12_31 zl_393 rfl rfl dX12_nights_56 ?_
        generalize hξ9 : zup ξ 393 31 0 = ξ0
        replace hξ9 := hξ9.symm
        have hN0 : ξ0 393 31 = 0 := by rw [hξ9, zup_eq]
        have hξ0 : ∀ x : Nat, x ≠ 393 → ξ0 x = ξ x := fun x x1 => by rw [hξ9, zup_row x1]
        have hf0 : zRf μ ξ0 := ⟨fun k k1 k2 k3 => by rw [hξ9, zup_ne (Or.inr k1)]; exact hf.1 k k1 k2 k3, fun x x1 x2 => (hξ0 x x1).trans (hf.2 x x1 x2)⟩
        have h94ξ0 : ξ0 394 = μ 394 := hf0.2 394 (by decide) (Or.inl (by decide))
        have hVξ0 : zBV (ξ0 394) = V := by rw [h94ξ0]; exact hV
        have okξ0 : zOK (zBV (ξ0 394)) := by rw [hVξ0]; exact ok
        have farξ0 : zFar V (ξ0 402) := by rw [show ξ0 402 = μ 402 from hf0.2 402 (by decide) (Or.inl (by decide))]; exact far
        have m2ξ0 : ξ0 394 2 = V 3 3 := by rw [h94ξ0, ← hV]; rfl
        refine z_aload_0 dX12_nights_59 ?_
        refine z_iload_1 dX12_nights_60 ?_
        refine z_callV1 (k_X12_comes (S := (zZt V (μ 393 18) t)) (t := (t : Int)) (V := V) hVξ0 ok farξ0 ⟨⟨by rw [hN0]; exact Int.le_refl _, by rw [hN0]; exact Int.le_refl _⟩, fun k k0 k1 => by rw [hN0] at k1; omega, fun i i0 i1 l => by rw [hN0]; rfl⟩ (fun x x0 x1 => zR1_fr (hni x x0 x1).1 (by rw [hξ0 _ (by decide)]) (by rw [hξ0 _ (by decide)]) (by rw [hξ0 _ (by decide)]) (by rw [hξ0 _ (by decide)]) (by rw [hξ0 _ (by decide)]) (fun k k0 k1 => by rw [hξ0 _ (by decide), hξ0 _ (by decide)]; exact ⟨rfl, rfl⟩))) m_X12_comes zl_393 l_X12_282 (Nat.le_of_ble_eq_true rfl) ⟨Nat.le_of_ble_eq_true rfl, Nat.le_of_ble_eq_true rfl⟩ ⟨rfl, rfl⟩ dX12_nights_61 (fun r μ1 hp => ?_)
        obtain ⟨rfl, hl1, hz1, hk1, hr1⟩ := hp
        obtain ⟨ζ1, hζ9⟩ : ∃ z, z = μ1 := ⟨_, rfl⟩
        subst hζ9
        have hf1 : zRf μ ζ1 := ⟨fun k k1 k2 k3 => (hk1 k k1).trans (hf0.1 k k1 k2 k3), fun x x1 x2 => (hr1 x x1 (by omega) (by omega) (by omega)).trans (hf0.2 x x1 x2)⟩
        have h94ζ1 : ζ1 394 = μ 394 := hf1.2 394 (by decide) (Or.inl (by decide))
        have hVζ1 : zBV (ζ1 394) = V := by rw [h94ζ1]; exact hV
        have okζ1 : zOK (zBV (ζ1 394)) := by rw [hVζ1]; exact ok
        have farζ1 : zFar V (ζ1 402) := by rw [show ζ1 402 = μ 402 from hf1.2 402 (by decide) (Or.inl (by decide))]; exact far
        have m2ζ1 : ζ1 394 2 = V 3 3 := by rw [h94ζ1, ← hV]; rfl
        refine z_aload_0 dX12_nights_64 ?_
        refine z_iload_1 dX12_nights_65 ?_
        refine z_callV1 (k_X12_sounds (S := (zZc V (t : Int) (zZt V (μ 393 18) t))) (t := (t : Int)) (V := V) hVζ1 ok farζ1 (by omega) (by omega) hl1 hz1) m_X12_sounds zl_393 l_X12_286 (Nat.le_of_ble_eq_true rfl) ⟨Nat.le_of_ble_eq_true rfl, Nat.le_of_ble_eq_true rfl⟩ ⟨rfl, rfl⟩ dX12_nights_66 (fun r μ1 hp => ?_)
        obtain ⟨rfl, hl2, hk2, hr2⟩ := hp
        obtain ⟨ζ2, hζ9⟩ : ∃ z, z = μ1 := ⟨_, rfl⟩
        subst hζ9
        have hf2 : zRf μ ζ2 := ⟨fun k k1 k2 k3 => (hk2 k k1).trans (hf1.1 k k1 k2 k3), fun x x1 x2 => (hr2 x x1 (by omega)).trans (hf1.2 x x1 x2)⟩
        have hz2 : ∀ x, 0 ≤ x → x < V 3 3 → zR1 ζ2 (zZc V (t : Int) (zZt V (μ 393 18) t)) x := fun x x0 x1 => zR1_fr (hz1 x x0 x1) (by rw [hr2 _ (by decide) (by decide)]) (by rw [hr2 _ (by decide) (by decide)]) (by rw [hr2 _ (by decide) (by decide)]) (by rw [hr2 _ (by decide) (by decide)]) (by rw [hr2 _ (by decide) (by decide)]) (fun k k0 k1 => by rw [hr2 _ (by decide) (by decide), hr2 _ (by decide) (by decide)]; exact ⟨rfl, rfl⟩)
        have h94ζ2 : ζ2 394 = μ 394 := hf2.2 394 (by decide) (Or.inl (by decide))
        have hVζ2 : zBV (ζ2 394) = V := by rw [h94ζ2]; exact hV
        have okζ2 : zOK (zBV (ζ2 394)) := by rw [hVζ2]; exact ok
        have farζ2 : zFar V (ζ2 402) := by rw [show ζ2 402 = μ 402 from hf2.2 402 (by decide) (Or.inl (by decide))]; exact far
        have m2ζ2 : ζ2 394 2 = V 3 3 := by rw [h94ζ2, ← hV]; rfl
        refine z_aload_0 dX12_nights_69 ?_
        refine z_iload_1 dX12_nights_70 ?_
        refine z_callV1 (k_X12_snores (S := (zZc V (t : Int) (zZt V (μ 393 18) t))) (t := (t : Int)) (V := V) hVζ2 ok farζ2 (by omega) hl2 hz2 hI1) m_X12_snores zl_393 l_X12_289 (Nat.le_of_ble_eq_true rfl) ⟨Nat.le_of_ble_eq_true rfl, Nat.le_of_ble_eq_true rfl⟩ ⟨rfl, rfl⟩ dX12_nights_71 (fun r μ1 hp => ?_)
        obtain ⟨rfl, hl3, hk3, hr3⟩ := hp
        obtain ⟨ζ3, hζ9⟩ : ∃ z, z = μ1 := ⟨_, rfl⟩
        subst hζ9
        have hf3 : zRf μ ζ3 := ⟨fun k k1 k2 k3 => (hk3 k k1).trans (hf2.1 k k1 k2 k3), fun x x1 x2 => (hr3 x x1 (by omega)).trans (hf2.2 x x1 x2)⟩
        have hz3 : ∀ x, 0 ≤ x → x < V 3 3 → zR1 ζ3 (zZc V (t : Int) (zZt V (μ 393 18) t)) x := fun x x0 x1 => zR1_fr (hz2 x x0 x1) (by rw [hr3 _ (by decide) (by decide)]) (by rw [hr3 _ (by decide) (by decide)]) (by rw [hr3 _ (by decide) (by decide)]) (by rw [hr3 _ (by decide) (by decide)]) (by rw [hr3 _ (by decide) (by decide)]) (fun k k0 k1 => by rw [hr3 _ (by decide) (by decide), hr3 _ (by decide) (by decide)]; exact ⟨rfl, rfl⟩)
        have h94ζ3 : ζ3 394 = μ 394 := hf3.2 394 (by decide) (Or.inl (by decide))
        have hVζ3 : zBV (ζ3 394) = V := by rw [h94ζ3]; exact hV
        have okζ3 : zOK (zBV (ζ3 394)) := by rw [hVζ3]; exact ok
        have farζ3 : zFar V (ζ3 402) := by rw [show ζ3 402 = μ 402 from hf3.2 402 (by decide) (Or.inl (by decide))]; exact far
        have m2ζ3 : ζ3 394 2 = V 3 3 := by rw [h94ζ3, ← hV]; rfl
        refine z_aload_0 dX12_nights_74 ?_
        refine z_iload_1 dX12_nights_75 ?_
        refine z_callV1 (k_X12_cover okζ3 (by rw [hf3.1 18 (by decide) (by decide) (by decide)]; exact hfan)) m_X12_cover zl_393 l_X12_258 (Nat.le_of_ble_eq_true rfl) ⟨Nat.le_of_ble_eq_true rfl, Nat.le_of_ble_eq_true rfl⟩ ⟨rfl, rfl⟩ dX12_nights_76 (fun r μ1 hp => ?_)
        obtain ⟨rfl, hv⟩ := hp
        replace hv := hv.symm
        subst hv
        rw [show ζ3 393 18 = μ 393 18 from hf3.1 18 (by decide) (by decide) (by decide), hVζ3]
        have cvb := zCv_b (t := (t : Int)) ok
        refine z_istore_2 rfl dX12_nights_79 ?_
        have LI : ∀ (k : Nat) (s : Nat) (ζ : zM), (s : Int) ≤ V 3 3 → zNl V ζ 220 (zLd V (t : Int) (zZc V (t : Int) (zZt V (μ 393 18) t))) → (∀ x : Int, 0 ≤ x → x < s → zR1 ζ (zZl V (μ 393 18) (t : Int) (zZc V (t : Int) (zZt V (μ 393 18) t))) x ∧ zRd ζ (zZl V (μ 393 18) (t : Int) (zZc V (t : Int) (zZt V (μ 393 18) t))) x ((t : Int) + 1)) → (∀ x : Int, s ≤ x → x < V 3 3 → zR1 ζ (zZc V (t : Int) (zZt V (μ 393 18) t)) x ∧ zRd ζ (zZc V (t : Int) (zZt V (μ 393 18) t)) x (t : Int)) → zRf μ ζ → V 3 3 - s < k → MW X E cX12_nights RX12 ({ frames := 4, cells := 0, slots := 0, locals := 98 }) none (fun r ν => r = none ∧ zRN V ν (zZt V (μ 393 18) 40) 40 ∧ ν 393 32 = zWo (V 3 3) (zZt V (μ 393 18) 40 3) ∧ ν 393 33 = zGo (V 3 3) (zZt V (μ 393 18) 40 3) ∧ zRf μ ν) 82 [zR 393, zI (t : Int), zI (μ 393 18 + zCv V (t : Int)), zI (s : Int)] [] ζ := by
          intro k
          induction k with
          | zero => intro s ζ hs1 hnl0 hz1 hz2 hf h3; omega
          | succ k ih2 =>
            intro s ζ hs1 hnl0 hz1 hz2 hf h3
            have h94ζ : ζ 394 = μ 394 := hf.2 394 (by decide) (Or.inl (by decide))
            have hVζ : zBV (ζ 394) = V := by rw [h94ζ]; exact hV
            have okζ : zOK (zBV (ζ 394)) := by rw [hVζ]; exact ok
            have farζ : zFar V (ζ 402) := by rw [show ζ 402 = μ 402 from hf.2 402 (by decide) (Or.inl (by decide))]; exact far
            have m2ζ : ζ 394 2 = V 3 3 := by rw [h94ζ, ← hV]; rfl
            refine z_iload_3 dX12_nights_82 ?_
            refine z_aload_0 dX12_nights_83 ?_
            refine z_getF 394 1 rfl f_X12_7 zl_393 rfl rfl dX12_nights_84 ?_
            refine z_iconst dX12_nights_87 (by decide) ?_
            refine z_iald zl_394 (by omega) (by omega) dX12_nights_88 ?_
            refine z_icmpge (tgt := 181) dX12_nights_89 (by decide) (fun h_89 => ?_) (fun h_89 => ?_)
            · refine z_iinc_1 rfl dX12_nights_181 (by omega) ?_
              refine z_goto (tgt := 48) dX12_nights_184 (by decide) ?_
              refine z_weak (ls' := [zR 393, zI ((t + 1 : Nat) : Int), zU, zU]) ⟨Or.inl rfl, Or.inl rfl, Or.inr rfl, Or.inr rfl, trivial⟩ (ih (t + 1) ζ (by omega) (fun x x0 x1 => by rw [zZt_s]; exact hz1 x x0 (by omega)) hf (by omega))
            · have s1 : (s : Int) < V 3 3 := by omega
              have pp := ok.2.1.2 (s : Int) (by omega) s1
              obtain ⟨zs, zd⟩ := hz2 s (by omega) s1
              have zi := hI1 s (by omega) s1
              have zi2 := zZl_i (fan := μ 393 18) zi (by omega) pp.2.1.1
              have w4 := zi.2.2.2.2.2
              have w3 := zi.2.2.2.2.1
              have g0 := zs.1
              refine z_aload_0 dX12_nights_92 ?_
              refine z_getF 403 10 rfl f_X12_38 zl_393 rfl rfl dX12_nights_93 ?_
              refine z_iload_3 dX12_nights_96 ?_
              refine z_iald zl_403 (by omega) (by omega) dX12_nights_97 ?_
              rw [g0]
              refine z_ifle (tgt := 108) dX12_nights_98 (by decide) (fun h_98 => ?_) (fun h_98 => ?_)
              · have zm : zR1 ζ (zZm V (μ 393 18) (t : Int) (zZc V (t : Int) (zZt V (μ 393 18) t))) (s : Int) := zRm_n zs (fun q => by have := q.1; omega) (by omega) (by omega)
                have hss : zRs (s : Int) ζ ζ := fun x _ _ _ => ⟨rfl, rfl, rfl, rfl, rfl, fun _ _ _ => ⟨rfl, rfl, rfl⟩⟩
                have hnl : zNl V ζ 220 (zLd V (t : Int) (zZc V (t : Int) (zZt V (μ 393 18) t))) := hnl0
                have hf4 : zRf μ ζ := hf
                have dm : zRd ζ (zZc V (t : Int) (zZt V (μ 393 18) t)) (s : Int) (t : Int) := zd
                have gm0 := zm.1
                have gm1 := zm.2.1
                have d3 := zDp_b ((t : Int) - (zZm V (μ 393 18) (t : Int) (zZc V (t : Int) (zZt V (μ 393 18) t))) 1 (s : Int))
                have t3 : 0 ≤ (zZm V (μ 393 18) (t : Int) (zZc V (t : Int) (zZt V (μ 393 18) t))) 3 (s : Int) ∧ (zZm V (μ 393 18) (t : Int) (zZc V (t : Int) (zZt V (μ 393 18) t))) 3 (s : Int) ≤ 40 := ⟨by show 0 ≤ (zZc V (t : Int) (zZt V (μ 393 18) t)) 3 (s : Int); omega, by show (zZc V (t : Int) (zZt V (μ 393 18) t)) 3 (s : Int) ≤ 40; omega⟩
                refine z_aload_0 dX12_nights_108 ?_
                refine z_getF 406 13 rfl f_X12_47 zl_393 rfl rfl dX12_nights_109 ?_
                refine z_iload_3 dX12_nights_112 ?_
                refine z_dup2 dX12_nights_113 rfl rfl ?_
                refine z_iald zl_406 (by omega) (by omega) dX12_nights_114 ?_
                rw [gm1]
                refine z_aload_0 dX12_nights_115 ?_
                refine z_getF 403 10 rfl f_X12_38 zl_393 rfl rfl dX12_nights_116 ?_
                refine z_iload_3 dX12_nights_119 ?_
                refine z_iald zl_403 (by omega) (by omega) dX12_nights_120 ?_
                rw [gm0]
                refine z_iconst dX12_nights_121 (by decide) ?_
                refine z_icmpne (tgt := 129) dX12_nights_122 (by decide) (fun h_122 => ?_) (fun h_122 => ?_)
                · refine z_iconst dX12_nights_129 (by decide) ?_
                  refine z_iadd dX12_nights_130 (by omega) ?_
                  refine z_iast zl_406 (by omega) (by omega) dX12_nights_131 ?_
                  refine z_aload_0 dX12_nights_132 ?_
                  refine z_getF 407 14 rfl f_X12_50 zl_393 rfl rfl dX12_nights_133 ?_
                  refine z_bipush dX12_nights_136 (by decide) ?_
                  refine z_iload_3 dX12_nights_138 ?_
                  refine z_imul dX12_nights_139 (by omega) ?_
                  refine z_iload_1 dX12_nights_140 ?_
                  refine z_iadd dX12_nights_141 (by omega) ?_
                  refine z_aload_0 dX12_nights_142 ?_
                  refine z_getF 403 10 rfl f_X12_38 zl_393 rfl rfl dX12_nights_143 ?_
                  refine z_iload_3 dX12_nights_146 ?_
                  refine z_iald zl_403 (by omega) (by omega) dX12_nights_147 ?_
                  rw [zup_row (by decide), gm0]
                  refine z_iconst dX12_nights_148 (by decide) ?_
                  refine z_icmpne (tgt := 168) dX12_nights_149 (by decide) (fun h_149 => ?_) (fun h_149 => ?_)
                  · refine z_aload_0 dX12_nights_168 ?_
                    refine z_getF 403 10 rfl f_X12_38 zl_393 rfl rfl dX12_nights_169 ?_
                    refine z_iload_3 dX12_nights_172 ?_
                    refine z_iald zl_403 (by omega) (by omega) dX12_nights_173 ?_
                    try rw [zup_row (by decide), gm0]
                    refine z_iast zl_407 (by omega) (by omega) dX12_nights_174 ?_
                    refine z_iinc_3 rfl dX12_nights_175 (by omega) ?_
                    refine z_goto (tgt := 82) dX12_nights_178 (by decide) ?_
                    have h2 : ¬ (zZm V (μ 393 18) (t : Int) (zZc V (t : Int) (zZt V (μ 393 18) t))) 0 (s : Int) = 2 := h_122
                    have hm : zup (zup ζ 406 (s : Int) ((zZm V (μ 393 18) (t : Int) (zZc V (t : Int) (zZt V (μ 393 18) t))) 3 (s : Int) + 0)) 407 (40 * (s : Int) + (t : Int)) ((zZm V (μ 393 18) (t : Int) (zZc V (t : Int) (zZt V (μ 393 18) t))) 0 (s : Int)) = zup (zup ζ 406 (s : Int) ((zZm V (μ 393 18) (t : Int) (zZc V (t : Int) (zZt V (μ 393 18) t))) 3 (s : Int) + zif ((zZm V (μ 393 18) (t : Int) (zZc V (t : Int) (zZt V (μ 393 18) t))) 0 (s : Int) = 2) 1 0)) 407 (40 * (s : Int) + (t : Int)) (zif ((zZm V (μ 393 18) (t : Int) (zZc V (t : Int) (zZt V (μ 393 18) t))) 0 (s : Int) = 2) (2 + zDp ((t : Int) - (zZm V (μ 393 18) (t : Int) (zZc V (t : Int) (zZt V (μ 393 18) t))) 1 (s : Int))) ((zZm V (μ 393 18) (t : Int) (zZc V (t : Int) (zZt V (μ 393 18) t))) 0 (s : Int))) := by rw [zif_f h2, zif_f h2]
                    rw [hm]
                    have hn2 := zRn (by omega) (by omega) (by omega) (by omega) zm dm
                    have hss2 : zRs (s : Int) ζ _ := zRs_x hss (zRs_n (i := (s : Int)) (t := (t : Int)) (a := (zZm V (μ 393 18) (t : Int) (zZc V (t : Int) (zZt V (μ 393 18) t))) 3 (s : Int) + zif ((zZm V (μ 393 18) (t : Int) (zZc V (t : Int) (zZt V (μ 393 18) t))) 0 (s : Int) = 2) 1 0) (b := zif ((zZm V (μ 393 18) (t : Int) (zZc V (t : Int) (zZt V (μ 393 18) t))) 0 (s : Int) = 2) (2 + zDp ((t : Int) - (zZm V (μ 393 18) (t : Int) (zZc V (t : Int) (zZt V (μ 393 18) t))) 1 (s : Int))) ((zZm V (μ 393 18) (t : Int) (zZc V (t : Int) (zZt V (μ 393 18) t))) 0 (s : Int))) (by omega) (by omega) (by omega))
                    refine ih2 (s + 1) _ (by omega) (zNl_fr hnl (by (repeat (first | rw [zup_eq] | rw [zup_row (by omega)] | rw [zup_ne (Or.inr (by omega))]))) (fun a a0 a1 => by (repeat (first | rw [zup_eq] | rw [zup_row (by omega)] | rw [zup_ne (Or.inr (by omega))])))) (fun x x0 x1 => ?_) (fun x x0 x1 => ⟨zRs_1 hss2 (by omega) (by omega) (by omega) (by have := (hI1 x (by omega) x1).2.2.2.2.2; omega) (hz2 x (by omega) x1).1, zRs_d hss2 (by omega) (by omega) (by omega) (by omega) (hz2 x (by omega) x1).2⟩) ⟨fun k k1 k2 k3 => by (repeat (first | rw [zup_eq] | rw [zup_row (by omega)] | rw [zup_ne (Or.inr (by omega))])); exact hf4.1 k k1 k2 k3, fun x x1 x2 => by (repeat (first | rw [zup_eq] | rw [zup_row (by omega)] | rw [zup_ne (Or.inr (by omega))])); exact hf4.2 x x1 x2⟩ (by omega)
                    by_cases q : x = s
                    · subst q; exact hn2
                    · have h4 : (zZl V (μ 393 18) (t : Int) (zZc V (t : Int) (zZt V (μ 393 18) t))) 4 x ≤ 40 := by
                        have := (zZl_i (fan := μ 393 18) (hI1 x x0 (by omega)) (by omega) (ok.2.1.2 x x0 (by omega)).2.1.1).2.2.2.2.2
                        omega
                      exact ⟨zRs_1 hss2 x0 (by omega) q h4 (hz1 x x0 (by omega)).1, zRs_d hss2 x0 (by omega) q (by omega) (hz1 x x0 (by omega)).2⟩
                  · have gm3 := zm.2.2.2.1 h_149
                    have z1 := zi2.2.2.2.1 h_149
                    have z1a : 0 ≤ (zZm V (μ 393 18) (t : Int) (zZc V (t : Int) (zZt V (μ 393 18) t))) 1 (s : Int) := z1.1
                    have z1b : (zZm V (μ 393 18) (t : Int) (zZc V (t : Int) (zZt V (μ 393 18) t))) 1 (s : Int) ≤ (t : Int) + 1 := z1.2
                    have z1c : (zZm V (μ 393 18) (t : Int) (zZc V (t : Int) (zZt V (μ 393 18) t))) 1 (s : Int) ≤ (t : Int) := (zM_since zi h_149)
                    refine z_iconst dX12_nights_152 (by decide) ?_
                    refine z_iload_1 dX12_nights_153 ?_
                    refine z_aload_0 dX12_nights_154 ?_
                    refine z_getF 404 11 rfl f_X12_41 zl_393 rfl rfl dX12_nights_155 ?_
                    refine z_iload_3 dX12_nights_158 ?_
                    refine z_iald zl_404 (by omega) (by omega) dX12_nights_159 ?_
                    rw [zup_row (by decide), gm3]
                    refine z_isub dX12_nights_160 (by omega) ?_
                    refine z_callS1 (k_X12_deepOf (by omega)) m_X12_deepOf l_X12_279 (Nat.le_of_ble_eq_true rfl) ⟨Nat.le_of_ble_eq_true rfl, Nat.le_of_ble_eq_true rfl⟩ ⟨rfl, rfl⟩ dX12_nights_161 (fun r μ1 hp => ?_)
                    obtain ⟨rfl, hv⟩ := hp
                    replace hv := hv.symm
                    subst hv
                    refine z_iadd dX12_nights_164 (by omega) ?_
                    refine z_goto (tgt := 174) dX12_nights_165 (by decide) ?_
                    try rw [zup_row (by decide), gm0]
                    refine z_iast zl_407 (by omega) (by omega) dX12_nights_174 ?_
                    refine z_iinc_3 rfl dX12_nights_175 (by omega) ?_
                    refine z_goto (tgt := 82) dX12_nights_178 (by decide) ?_
                    exact absurd h_149 h_122
                · refine z_iconst dX12_nights_125 (by decide) ?_
                  refine z_goto (tgt := 130) dX12_nights_126 (by decide) ?_
                  refine z_iadd dX12_nights_130 (by omega) ?_
                  refine z_iast zl_406 (by omega) (by omega) dX12_nights_131 ?_
                  refine z_aload_0 dX12_nights_132 ?_
                  refine z_getF 407 14 rfl f_X12_50 zl_393 rfl rfl dX12_nights_133 ?_
                  refine z_bipush dX12_nights_136 (by decide) ?_
                  refine z_iload_3 dX12_nights_138 ?_
                  refine z_imul dX12_nights_139 (by omega) ?_
                  refine z_iload_1 dX12_nights_140 ?_
                  refine z_iadd dX12_nights_141 (by omega) ?_
                  refine z_aload_0 dX12_nights_142 ?_
                  refine z_getF 403 10 rfl f_X12_38 zl_393 rfl rfl dX12_nights_143 ?_
                  refine z_iload_3 dX12_nights_146 ?_
                  refine z_iald zl_403 (by omega) (by omega) dX12_nights_147 ?_
                  rw [zup_row (by decide), gm0]
                  refine z_iconst dX12_nights_148 (by decide) ?_
                  refine z_icmpne (tgt := 168) dX12_nights_149 (by decide) (fun h_149 => ?_) (fun h_149 => ?_)
                  · refine z_aload_0 dX12_nights_168 ?_
                    refine z_getF 403 10 rfl f_X12_38 zl_393 rfl rfl dX12_nights_169 ?_
                    refine z_iload_3 dX12_nights_172 ?_
                    refine z_iald zl_403 (by omega) (by omega) dX12_nights_173 ?_
                    try rw [zup_row (by decide), gm0]
                    refine z_iast zl_407 (by omega) (by omega) dX12_nights_174 ?_
                    refine z_iinc_3 rfl dX12_nights_175 (by omega) ?_
                    refine z_goto (tgt := 82) dX12_nights_178 (by decide) ?_
                    exact absurd h_122 h_149
                  · have gm3 := zm.2.2.2.1 h_149
                    have z1 := zi2.2.2.2.1 h_149
                    have z1a : 0 ≤ (zZm V (μ 393 18) (t : Int) (zZc V (t : Int) (zZt V (μ 393 18) t))) 1 (s : Int) := z1.1
                    have z1b : (zZm V (μ 393 18) (t : Int) (zZc V (t : Int) (zZt V (μ 393 18) t))) 1 (s : Int) ≤ (t : Int) + 1 := z1.2
                    have z1c : (zZm V (μ 393 18) (t : Int) (zZc V (t : Int) (zZt V (μ 393 18) t))) 1 (s : Int) ≤ (t : Int) := (zM_since zi h_149)
                    refine z_iconst dX12_nights_152 (by decide) ?_
                    refine z_iload_1 dX12_nights_153 ?_
                    refine z_aload_0 dX12_nights_154 ?_
                    refine z_getF 404 11 rfl f_X12_41 zl_393 rfl rfl dX12_nights_155 ?_
                    refine z_iload_3 dX12_nights_158 ?_
                    refine z_iald zl_404 (by omega) (by omega) dX12_nights_159 ?_
                    rw [zup_row (by decide), gm3]
                    refine z_isub dX12_nights_160 (by omega) ?_
                    refine z_callS1 (k_X12_deepOf (by omega)) m_X12_deepOf l_X12_279 (Nat.le_of_ble_eq_true rfl) ⟨Nat.le_of_ble_eq_true rfl, Nat.le_of_ble_eq_true rfl⟩ ⟨rfl, rfl⟩ dX12_nights_161 (fun r μ1 hp => ?_)
                    obtain ⟨rfl, hv⟩ := hp
                    replace hv := hv.symm
                    subst hv
                    refine z_iadd dX12_nights_164 (by omega) ?_
                    refine z_goto (tgt := 174) dX12_nights_165 (by decide) ?_
                    try rw [zup_row (by decide), gm0]
                    refine z_iast zl_407 (by omega) (by omega) dX12_nights_174 ?_
                    refine z_iinc_3 rfl dX12_nights_175 (by omega) ?_
                    refine z_goto (tgt := 82) dX12_nights_178 (by decide) ?_
                    have h2 : (zZm V (μ 393 18) (t : Int) (zZc V (t : Int) (zZt V (μ 393 18) t))) 0 (s : Int) = 2 := h_122
                    have hm : zup (zup ζ 406 (s : Int) ((zZm V (μ 393 18) (t : Int) (zZc V (t : Int) (zZt V (μ 393 18) t))) 3 (s : Int) + 1)) 407 (40 * (s : Int) + (t : Int)) (2 + zDp ((t : Int) - (zZm V (μ 393 18) (t : Int) (zZc V (t : Int) (zZt V (μ 393 18) t))) 1 (s : Int))) = zup (zup ζ 406 (s : Int) ((zZm V (μ 393 18) (t : Int) (zZc V (t : Int) (zZt V (μ 393 18) t))) 3 (s : Int) + zif ((zZm V (μ 393 18) (t : Int) (zZc V (t : Int) (zZt V (μ 393 18) t))) 0 (s : Int) = 2) 1 0)) 407 (40 * (s : Int) + (t : Int)) (zif ((zZm V (μ 393 18) (t : Int) (zZc V (t : Int) (zZt V (μ 393 18) t))) 0 (s : Int) = 2) (2 + zDp ((t : Int) - (zZm V (μ 393 18) (t : Int) (zZc V (t : Int) (zZt V (μ 393 18) t))) 1 (s : Int))) ((zZm V (μ 393 18) (t : Int) (zZc V (t : Int) (zZt V (μ 393 18) t))) 0 (s : Int))) := by rw [zif_t h2, zif_t h2]
                    rw [hm]
                    have hn2 := zRn (by omega) (by omega) (by omega) (by omega) zm dm
                    have hss2 : zRs (s : Int) ζ _ := zRs_x hss (zRs_n (i := (s : Int)) (t := (t : Int)) (a := (zZm V (μ 393 18) (t : Int) (zZc V (t : Int) (zZt V (μ 393 18) t))) 3 (s : Int) + zif ((zZm V (μ 393 18) (t : Int) (zZc V (t : Int) (zZt V (μ 393 18) t))) 0 (s : Int) = 2) 1 0) (b := zif ((zZm V (μ 393 18) (t : Int) (zZc V (t : Int) (zZt V (μ 393 18) t))) 0 (s : Int) = 2) (2 + zDp ((t : Int) - (zZm V (μ 393 18) (t : Int) (zZc V (t : Int) (zZt V (μ 393 18) t))) 1 (s : Int))) ((zZm V (μ 393 18) (t : Int) (zZc V (t : Int) (zZt V (μ 393 18) t))) 0 (s : Int))) (by omega) (by omega) (by omega))
                    refine ih2 (s + 1) _ (by omega) (zNl_fr hnl (by (repeat (first | rw [zup_eq] | rw [zup_row (by omega)] | rw [zup_ne (Or.inr (by omega))]))) (fun a a0 a1 => by (repeat (first | rw [zup_eq] | rw [zup_row (by omega)] | rw [zup_ne (Or.inr (by omega))])))) (fun x x0 x1 => ?_) (fun x x0 x1 => ⟨zRs_1 hss2 (by omega) (by omega) (by omega) (by have := (hI1 x (by omega) x1).2.2.2.2.2; omega) (hz2 x (by omega) x1).1, zRs_d hss2 (by omega) (by omega) (by omega) (by omega) (hz2 x (by omega) x1).2⟩) ⟨fun k k1 k2 k3 => by (repeat (first | rw [zup_eq] | rw [zup_row (by omega)] | rw [zup_ne (Or.inr (by omega))])); exact hf4.1 k k1 k2 k3, fun x x1 x2 => by (repeat (first | rw [zup_eq] | rw [zup_row (by omega)] | rw [zup_ne (Or.inr (by omega))])); exact hf4.2 x x1 x2⟩ (by omega)
                    by_cases q : x = s
                    · subst q; exact hn2
                    · have h4 : (zZl V (μ 393 18) (t : Int) (zZc V (t : Int) (zZt V (μ 393 18) t))) 4 x ≤ 40 := by
                        have := (zZl_i (fan := μ 393 18) (hI1 x x0 (by omega)) (by omega) (ok.2.1.2 x x0 (by omega)).2.1.1).2.2.2.2.2
                        omega
                      exact ⟨zRs_1 hss2 x0 (by omega) q h4 (hz1 x x0 (by omega)).1, zRs_d hss2 x0 (by omega) q (by omega) (hz1 x x0 (by omega)).2⟩
              · refine z_aload_0 dX12_nights_101 ?_
                refine z_iload_3 dX12_nights_102 ?_
                refine z_iload_1 dX12_nights_103 ?_
                refine z_iload_2 dX12_nights_104 ?_
                refine z_callV3 (k_X12_listens (S := (zZc V (t : Int) (zZt V (μ 393 18) t))) (fan := μ 393 18) (V := V) hVζ ok farζ (by omega) s1 (by omega) (by omega) ⟨by omega, by omega⟩ rfl hnl0 rfl zs zi (by omega)) m_X12_listens zl_393 l_X12_292 (Nat.le_of_ble_eq_true rfl) ⟨Nat.le_of_ble_eq_true rfl, Nat.le_of_ble_eq_true rfl⟩ ⟨rfl, rfl⟩ dX12_nights_105 (fun r μ1 hp => ?_)
                obtain ⟨rfl, hrt⟩ := hp
                obtain ⟨ζ4, hζ9⟩ : ∃ z, z = μ1 := ⟨_, rfl⟩
                subst hζ9
                have zm : zR1 ζ4 (zZm V (μ 393 18) (t : Int) (zZc V (t : Int) (zZt V (μ 393 18) t))) (s : Int) := hrt.1
                have hss : zRs (s : Int) ζ ζ4 := zRs_t (by omega) (by omega) (by omega) hrt
                have hnl : zNl V ζ4 220 (zLd V (t : Int) (zZc V (t : Int) (zZt V (μ 393 18) t))) := zNl_fr hnl0 (hrt.2 393 31 (fun c => by omega) (fun c => by omega)) (fun a a0 a1 => funext fun y => hrt.2 a y (fun c => by omega) (fun c => by omega))
                have hf4 : zRf μ ζ4 := ⟨fun k k1 k2 k3 => (hrt.2 393 k (fun c => by omega) (fun c => by omega)).trans (hf.1 k k1 k2 k3), fun x x1 x2 => (funext fun y => hrt.2 x y (fun c => by omega) (fun c => by omega)).trans (hf.2 x x1 x2)⟩
                have dm : zRd ζ4 (zZc V (t : Int) (zZt V (μ 393 18) t)) (s : Int) (t : Int) := fun k k0 k1 => (hrt.2 407 _ (fun c => by omega) (fun c => by omega)).trans (zd k k0 k1)
                have gm0 := zm.1
                have gm1 := zm.2.1
                have d3 := zDp_b ((t : Int) - (zZm V (μ 393 18) (t : Int) (zZc V (t : Int) (zZt V (μ 393 18) t))) 1 (s : Int))
                have t3 : 0 ≤ (zZm V (μ 393 18) (t : Int) (zZc V (t : Int) (zZt V (μ 393 18) t))) 3 (s : Int) ∧ (zZm V (μ 393 18) (t : Int) (zZc V (t : Int) (zZt V (μ 393 18) t))) 3 (s : Int) ≤ 40 := ⟨by show 0 ≤ (zZc V (t : Int) (zZt V (μ 393 18) t)) 3 (s : Int); omega, by show (zZc V (t : Int) (zZt V (μ 393 18) t)) 3 (s : Int) ≤ 40; omega⟩
                refine z_aload_0 dX12_nights_108 ?_
                refine z_getF 406 13 rfl f_X12_47 zl_393 rfl rfl dX12_nights_109 ?_
                refine z_iload_3 dX12_nights_112 ?_
                refine z_dup2 dX12_nights_113 rfl rfl ?_
                refine z_iald zl_406 (by omega) (by omega) dX12_nights_114 ?_
                rw [gm1]
                refine z_aload_0 dX12_nights_115 ?_
                refine z_getF 403 10 rfl f_X12_38 zl_393 rfl rfl dX12_nights_116 ?_
                refine z_iload_3 dX12_nights_119 ?_
                refine z_iald zl_403 (by omega) (by omega) dX12_nights_120 ?_
                rw [gm0]
                refine z_iconst dX12_nights_121 (by decide) ?_
                refine z_icmpne (tgt := 129) dX12_nights_122 (by decide) (fun h_122 => ?_) (fun h_122 => ?_)
                · refine z_iconst dX12_nights_129 (by decide) ?_
                  refine z_iadd dX12_nights_130 (by omega) ?_
                  refine z_iast zl_406 (by omega) (by omega) dX12_nights_131 ?_
                  refine z_aload_0 dX12_nights_132 ?_
                  refine z_getF 407 14 rfl f_X12_50 zl_393 rfl rfl dX12_nights_133 ?_
                  refine z_bipush dX12_nights_136 (by decide) ?_
                  refine z_iload_3 dX12_nights_138 ?_
                  refine z_imul dX12_nights_139 (by omega) ?_
                  refine z_iload_1 dX12_nights_140 ?_
                  refine z_iadd dX12_nights_141 (by omega) ?_
                  refine z_aload_0 dX12_nights_142 ?_
                  refine z_getF 403 10 rfl f_X12_38 zl_393 rfl rfl dX12_nights_143 ?_
                  refine z_iload_3 dX12_nights_146 ?_
                  refine z_iald zl_403 (by omega) (by omega) dX12_nights_147 ?_
                  rw [zup_row (by decide), gm0]
                  refine z_iconst dX12_nights_148 (by decide) ?_
                  refine z_icmpne (tgt := 168) dX12_nights_149 (by decide) (fun h_149 => ?_) (fun h_149 => ?_)
                  · refine z_aload_0 dX12_nights_168 ?_
                    refine z_getF 403 10 rfl f_X12_38 zl_393 rfl rfl dX12_nights_169 ?_
                    refine z_iload_3 dX12_nights_172 ?_
                    refine z_iald zl_403 (by omega) (by omega) dX12_nights_173 ?_
                    try rw [zup_row (by decide), gm0]
                    refine z_iast zl_407 (by omega) (by omega) dX12_nights_174 ?_
                    refine z_iinc_3 rfl dX12_nights_175 (by omega) ?_
                    refine z_goto (tgt := 82) dX12_nights_178 (by decide) ?_
                    have h2 : ¬ (zZm V (μ 393 18) (t : Int) (zZc V (t : Int) (zZt V (μ 393 18) t))) 0 (s : Int) = 2 := h_122
                    have hm : zup (zup ζ4 406 (s : Int) ((zZm V (μ 393 18) (t : Int) (zZc V (t : Int) (zZt V (μ 393 18) t))) 3 (s : Int) + 0)) 407 (40 * (s : Int) + (t : Int)) ((zZm V (μ 393 18) (t : Int) (zZc V (t : Int) (zZt V (μ 393 18) t))) 0 (s : Int)) = zup (zup ζ4 406 (s : Int) ((zZm V (μ 393 18) (t : Int) (zZc V (t : Int) (zZt V (μ 393 18) t))) 3 (s : Int) + zif ((zZm V (μ 393 18) (t : Int) (zZc V (t : Int) (zZt V (μ 393 18) t))) 0 (s : Int) = 2) 1 0)) 407 (40 * (s : Int) + (t : Int)) (zif ((zZm V (μ 393 18) (t : Int) (zZc V (t : Int) (zZt V (μ 393 18) t))) 0 (s : Int) = 2) (2 + zDp ((t : Int) - (zZm V (μ 393 18) (t : Int) (zZc V (t : Int) (zZt V (μ 393 18) t))) 1 (s : Int))) ((zZm V (μ 393 18) (t : Int) (zZc V (t : Int) (zZt V (μ 393 18) t))) 0 (s : Int))) := by rw [zif_f h2, zif_f h2]
                    rw [hm]
                    have hn2 := zRn (by omega) (by omega) (by omega) (by omega) zm dm
                    have hss2 : zRs (s : Int) ζ _ := zRs_x hss (zRs_n (i := (s : Int)) (t := (t : Int)) (a := (zZm V (μ 393 18) (t : Int) (zZc V (t : Int) (zZt V (μ 393 18) t))) 3 (s : Int) + zif ((zZm V (μ 393 18) (t : Int) (zZc V (t : Int) (zZt V (μ 393 18) t))) 0 (s : Int) = 2) 1 0) (b := zif ((zZm V (μ 393 18) (t : Int) (zZc V (t : Int) (zZt V (μ 393 18) t))) 0 (s : Int) = 2) (2 + zDp ((t : Int) - (zZm V (μ 393 18) (t : Int) (zZc V (t : Int) (zZt V (μ 393 18) t))) 1 (s : Int))) ((zZm V (μ 393 18) (t : Int) (zZc V (t : Int) (zZt V (μ 393 18) t))) 0 (s : Int))) (by omega) (by omega) (by omega))
                    refine ih2 (s + 1) _ (by omega) (zNl_fr hnl (by (repeat (first | rw [zup_eq] | rw [zup_row (by omega)] | rw [zup_ne (Or.inr (by omega))]))) (fun a a0 a1 => by (repeat (first | rw [zup_eq] | rw [zup_row (by omega)] | rw [zup_ne (Or.inr (by omega))])))) (fun x x0 x1 => ?_) (fun x x0 x1 => ⟨zRs_1 hss2 (by omega) (by omega) (by omega) (by have := (hI1 x (by omega) x1).2.2.2.2.2; omega) (hz2 x (by omega) x1).1, zRs_d hss2 (by omega) (by omega) (by omega) (by omega) (hz2 x (by omega) x1).2⟩) ⟨fun k k1 k2 k3 => by (repeat (first | rw [zup_eq] | rw [zup_row (by omega)] | rw [zup_ne (Or.inr (by omega))])); exact hf4.1 k k1 k2 k3, fun x x1 x2 => by (repeat (first | rw [zup_eq] | rw [zup_row (by omega)] | rw [zup_ne (Or.inr (by omega))])); exact hf4.2 x x1 x2⟩ (by omega)
                    by_cases q : x = s
                    · subst q; exact hn2
                    · have h4 : (zZl V (μ 393 18) (t : Int) (zZc V (t : Int) (zZt V (μ 393 18) t))) 4 x ≤ 40 := by
                        have := (zZl_i (fan := μ 393 18) (hI1 x x0 (by omega)) (by omega) (ok.2.1.2 x x0 (by omega)).2.1.1).2.2.2.2.2
                        omega
                      exact ⟨zRs_1 hss2 x0 (by omega) q h4 (hz1 x x0 (by omega)).1, zRs_d hss2 x0 (by omega) q (by omega) (hz1 x x0 (by omega)).2⟩
                  · have gm3 := zm.2.2.2.1 h_149
                    have z1 := zi2.2.2.2.1 h_149
                    have z1a : 0 ≤ (zZm V (μ 393 18) (t : Int) (zZc V (t : Int) (zZt V (μ 393 18) t))) 1 (s : Int) := z1.1
                    have z1b : (zZm V (μ 393 18) (t : Int) (zZc V (t : Int) (zZt V (μ 393 18) t))) 1 (s : Int) ≤ (t : Int) + 1 := z1.2
                    have z1c : (zZm V (μ 393 18) (t : Int) (zZc V (t : Int) (zZt V (μ 393 18) t))) 1 (s : Int) ≤ (t : Int) := (zM_since zi h_149)
                    refine z_iconst dX12_nights_152 (by decide) ?_
                    refine z_iload_1 dX12_nights_153 ?_
                    refine z_aload_0 dX12_nights_154 ?_
                    refine z_getF 404 11 rfl f_X12_41 zl_393 rfl rfl dX12_nights_155 ?_
                    refine z_iload_3 dX12_nights_158 ?_
                    refine z_iald zl_404 (by omega) (by omega) dX12_nights_159 ?_
                    rw [zup_row (by decide), gm3]
                    refine z_isub dX12_nights_160 (by omega) ?_
                    refine z_callS1 (k_X12_deepOf (by omega)) m_X12_deepOf l_X12_279 (Nat.le_of_ble_eq_true rfl) ⟨Nat.le_of_ble_eq_true rfl, Nat.le_of_ble_eq_true rfl⟩ ⟨rfl, rfl⟩ dX12_nights_161 (fun r μ1 hp => ?_)
                    obtain ⟨rfl, hv⟩ := hp
                    replace hv := hv.symm
                    subst hv
                    refine z_iadd dX12_nights_164 (by omega) ?_
                    refine z_goto (tgt := 174) dX12_nights_165 (by decide) ?_
                    try rw [zup_row (by decide), gm0]
                    refine z_iast zl_407 (by omega) (by omega) dX12_nights_174 ?_
                    refine z_iinc_3 rfl dX12_nights_175 (by omega) ?_
                    refine z_goto (tgt := 82) dX12_nights_178 (by decide) ?_
                    exact absurd h_149 h_122
                · refine z_iconst dX12_nights_125 (by decide) ?_
                  refine z_goto (tgt := 130) dX12_nights_126 (by decide) ?_
                  refine z_iadd dX12_nights_130 (by omega) ?_
                  refine z_iast zl_406 (by omega) (by omega) dX12_nights_131 ?_
                  refine z_aload_0 dX12_nights_132 ?_
                  refine z_getF 407 14 rfl f_X12_50 zl_393 rfl rfl dX12_nights_133 ?_
                  refine z_bipush dX12_nights_136 (by decide) ?_
                  refine z_iload_3 dX12_nights_138 ?_
                  refine z_imul dX12_nights_139 (by omega) ?_
                  refine z_iload_1 dX12_nights_140 ?_
                  refine z_iadd dX12_nights_141 (by omega) ?_
                  refine z_aload_0 dX12_nights_142 ?_
                  refine z_getF 403 10 rfl f_X12_38 zl_393 rfl rfl dX12_nights_143 ?_
                  refine z_iload_3 dX12_nights_146 ?_
                  refine z_iald zl_403 (by omega) (by omega) dX12_nights_147 ?_
                  rw [zup_row (by decide), gm0]
                  refine z_iconst dX12_nights_148 (by decide) ?_
                  refine z_icmpne (tgt := 168) dX12_nights_149 (by decide) (fun h_149 => ?_) (fun h_149 => ?_)
                  · refine z_aload_0 dX12_nights_168 ?_
                    refine z_getF 403 10 rfl f_X12_38 zl_393 rfl rfl dX12_nights_169 ?_
                    refine z_iload_3 dX12_nights_172 ?_
                    refine z_iald zl_403 (by omega) (by omega) dX12_nights_173 ?_
                    try rw [zup_row (by decide), gm0]
                    refine z_iast zl_407 (by omega) (by omega) dX12_nights_174 ?_
                    refine z_iinc_3 rfl dX12_nights_175 (by omega) ?_
                    refine z_goto (tgt := 82) dX12_nights_178 (by decide) ?_
                    exact absurd h_122 h_149
                  · have gm3 := zm.2.2.2.1 h_149
                    have z1 := zi2.2.2.2.1 h_149
                    have z1a : 0 ≤ (zZm V (μ 393 18) (t : Int) (zZc V (t : Int) (zZt V (μ 393 18) t))) 1 (s : Int) := z1.1
                    have z1b : (zZm V (μ 393 18) (t : Int) (zZc V (t : Int) (zZt V (μ 393 18) t))) 1 (s : Int) ≤ (t : Int) + 1 := z1.2
                    have z1c : (zZm V (μ 393 18) (t : Int) (zZc V (t : Int) (zZt V (μ 393 18) t))) 1 (s : Int) ≤ (t : Int) := (zM_since zi h_149)
                    refine z_iconst dX12_nights_152 (by decide) ?_
                    refine z_iload_1 dX12_nights_153 ?_
                    refine z_aload_0 dX12_nights_154 ?_
                    refine z_getF 404 11 rfl f_X12_41 zl_393 rfl rfl dX12_nights_155 ?_
                    refine z_iload_3 dX12_nights_158 ?_
                    refine z_iald zl_404 (by omega) (by omega) dX12_nights_159 ?_
                    rw [zup_row (by decide), gm3]
                    refine z_isub dX12_nights_160 (by omega) ?_
                    refine z_callS1 (k_X12_deepOf (by omega)) m_X12_deepOf l_X12_279 (Nat.le_of_ble_eq_true rfl) ⟨Nat.le_of_ble_eq_true rfl, Nat.le_of_ble_eq_true rfl⟩ ⟨rfl, rfl⟩ dX12_nights_161 (fun r μ1 hp => ?_)
                    obtain ⟨rfl, hv⟩ := hp
                    replace hv := hv.symm
                    subst hv
                    refine z_iadd dX12_nights_164 (by omega) ?_
                    refine z_goto (tgt := 174) dX12_nights_165 (by decide) ?_
                    try rw [zup_row (by decide), gm0]
                    refine z_iast zl_407 (by omega) (by omega) dX12_nights_174 ?_
                    refine z_iinc_3 rfl dX12_nights_175 (by omega) ?_
                    refine z_goto (tgt := 82) dX12_nights_178 (by decide) ?_
                    have h2 : (zZm V (μ 393 18) (t : Int) (zZc V (t : Int) (zZt V (μ 393 18) t))) 0 (s : Int) = 2 := h_122
                    have hm : zup (zup ζ4 406 (s : Int) ((zZm V (μ 393 18) (t : Int) (zZc V (t : Int) (zZt V (μ 393 18) t))) 3 (s : Int) + 1)) 407 (40 * (s : Int) + (t : Int)) (2 + zDp ((t : Int) - (zZm V (μ 393 18) (t : Int) (zZc V (t : Int) (zZt V (μ 393 18) t))) 1 (s : Int))) = zup (zup ζ4 406 (s : Int) ((zZm V (μ 393 18) (t : Int) (zZc V (t : Int) (zZt V (μ 393 18) t))) 3 (s : Int) + zif ((zZm V (μ 393 18) (t : Int) (zZc V (t : Int) (zZt V (μ 393 18) t))) 0 (s : Int) = 2) 1 0)) 407 (40 * (s : Int) + (t : Int)) (zif ((zZm V (μ 393 18) (t : Int) (zZc V (t : Int) (zZt V (μ 393 18) t))) 0 (s : Int) = 2) (2 + zDp ((t : Int) - (zZm V (μ 393 18) (t : Int) (zZc V (t : Int) (zZt V (μ 393 18) t))) 1 (s : Int))) ((zZm V (μ 393 18) (t : Int) (zZc V (t : Int) (zZt V (μ 393 18) t))) 0 (s : Int))) := by rw [zif_t h2, zif_t h2]
                    rw [hm]
                    have hn2 := zRn (by omega) (by omega) (by omega) (by omega) zm dm
                    have hss2 : zRs (s : Int) ζ _ := zRs_x hss (zRs_n (i := (s : Int)) (t := (t : Int)) (a := (zZm V (μ 393 18) (t : Int) (zZc V (t : Int) (zZt V (μ 393 18) t))) 3 (s : Int) + zif ((zZm V (μ 393 18) (t : Int) (zZc V (t : Int) (zZt V (μ 393 18) t))) 0 (s : Int) = 2) 1 0) (b := zif ((zZm V (μ 393 18) (t : Int) (zZc V (t : Int) (zZt V (μ 393 18) t))) 0 (s : Int) = 2) (2 + zDp ((t : Int) - (zZm V (μ 393 18) (t : Int) (zZc V (t : Int) (zZt V (μ 393 18) t))) 1 (s : Int))) ((zZm V (μ 393 18) (t : Int) (zZc V (t : Int) (zZt V (μ 393 18) t))) 0 (s : Int))) (by omega) (by omega) (by omega))
                    refine ih2 (s + 1) _ (by omega) (zNl_fr hnl (by (repeat (first | rw [zup_eq] | rw [zup_row (by omega)] | rw [zup_ne (Or.inr (by omega))]))) (fun a a0 a1 => by (repeat (first | rw [zup_eq] | rw [zup_row (by omega)] | rw [zup_ne (Or.inr (by omega))])))) (fun x x0 x1 => ?_) (fun x x0 x1 => ⟨zRs_1 hss2 (by omega) (by omega) (by omega) (by have := (hI1 x (by omega) x1).2.2.2.2.2; omega) (hz2 x (by omega) x1).1, zRs_d hss2 (by omega) (by omega) (by omega) (by omega) (hz2 x (by omega) x1).2⟩) ⟨fun k k1 k2 k3 => by (repeat (first | rw [zup_eq] | rw [zup_row (by omega)] | rw [zup_ne (Or.inr (by omega))])); exact hf4.1 k k1 k2 k3, fun x x1 x2 => by (repeat (first | rw [zup_eq] | rw [zup_row (by omega)] | rw [zup_ne (Or.inr (by omega))])); exact hf4.2 x x1 x2⟩ (by omega)
                    by_cases q : x = s
                    · subst q; exact hn2
                    · have h4 : (zZl V (μ 393 18) (t : Int) (zZc V (t : Int) (zZt V (μ 393 18) t))) 4 x ≤ 40 := by
                        have := (zZl_i (fan := μ 393 18) (hI1 x x0 (by omega)) (by omega) (ok.2.1.2 x x0 (by omega)).2.1.1).2.2.2.2.2
                        omega
                      exact ⟨zRs_1 hss2 x0 (by omega) q h4 (hz1 x x0 (by omega)).1, zRs_d hss2 x0 (by omega) q (by omega) (hz1 x x0 (by omega)).2⟩
        refine z_iconst dX12_nights_80 (by decide) ?_
        refine z_istore_3 rfl dX12_nights_81 ?_
        exact LI 9 0 ζ3 (by omega) (zNl_cg hl3 (by decide) (fun j j0 j1 jl => rfl)) (fun x x0 x1 => by omega) (fun x x0 x1 => ⟨hz3 x (by omega) x1, fun y y0 y1 => by rw [hr3 _ (by decide) (by decide), hr2 _ (by decide) (by decide), hr1 _ (by decide) (by decide) (by decide) (by decide), hξ0 _ (by decide), zZc_11]; exact (hni x (by omega) x1).2 y y0 y1⟩) hf3 (by omega)
  have LF : ∀ (k : Nat) (s : Nat) (ξ : zM), (s : Int) ≤ V 3 3 → (∀ x : Int, 0 ≤ x → x < s → ξ 403 x = 0 ∧ ξ 406 x = 0 ∧ ξ 408 x = 0) → zRf μ ξ → V 3 3 - s < k → MW X E cX12_nights RX12 ({ frames := 4, cells := 0, slots := 0, locals := 98 }) none (fun r ν => r = none ∧ zRN V ν (zZt V (μ 393 18) 40) 40 ∧ ν 393 32 = zWo (V 3 3) (zZt V (μ 393 18) 40 3) ∧ ν 393 33 = zGo (V 3 3) (zZt V (μ 393 18) 40 3) ∧ zRf μ ν) 2 [zR 393, zI (s : Int), zU, zU] [] ξ := by
    intro k
    induction k with
    | zero => intro s ξ hs1 hz hf h3; omega
    | succ k ih =>
      intro s ξ hs1 hz hf h3
      have h94ξ : ξ 394 = μ 394 := hf.2 394 (by decide) (Or.inl (by decide))
      have hVξ : zBV (ξ 394) = V := by rw [h94ξ]; exact hV
      have okξ : zOK (zBV (ξ 394)) := by rw [hVξ]; exact ok
      have farξ : zFar V (ξ 402) := by rw [show ξ 402 = μ 402 from hf.2 402 (by decide) (Or.inl (by decide))]; exact far
      have m2ξ : ξ 394 2 = V 3 3 := by rw [h94ξ, ← hV]; rfl
      refine z_iload_1 dX12_nights_2 ?_
      refine z_aload_0 dX12_nights_3 ?_
      refine z_getF 394 1 rfl f_X12_7 zl_393 rfl rfl dX12_nights_4 ?_
      refine z_iconst dX12_nights_7 (by decide) ?_
      refine z_iald zl_394 (by omega) (by omega) dX12_nights_8 ?_
      refine z_icmpge (tgt := 46) dX12_nights_9 (by decide) (fun h_9 => ?_) (fun h_9 => ?_)
      · refine z_iconst dX12_nights_46 (by decide) ?_
        refine z_istore_1 rfl dX12_nights_47 ?_
        refine z_weak (ls' := [zR 393, zI ((0 : Nat) : Int), zU, zU]) ⟨Or.inl rfl, Or.inl rfl, Or.inr rfl, Or.inr rfl, trivial⟩ ?_
        exact LO 41 0 ξ (by decide) (fun x x0 x1 => ⟨⟨(hz x x0 (by omega)).1, (hz x x0 (by omega)).2.1, (hz x x0 (by omega)).2.2, fun q => absurd q (by show ¬ ((0 : Int) = 2); decide), fun q => absurd q (by show ¬ ((0 : Int) = 1); decide), fun k k0 k1 => by have k1 : k < 0 := k1; omega⟩, fun k k0 k1 => by omega⟩) hf (by decide)
      · refine z_aload_0 dX12_nights_12 ?_
        refine z_getF 403 10 rfl f_X12_38 zl_393 rfl rfl dX12_nights_13 ?_
        refine z_iload_1 dX12_nights_16 ?_
        refine z_iconst dX12_nights_17 (by decide) ?_
        refine z_iast zl_403 (by omega) (by omega) dX12_nights_18 ?_
        refine z_aload_0 dX12_nights_19 ?_
        refine z_getF 405 12 rfl f_X12_44 zl_393 rfl rfl dX12_nights_20 ?_
        refine z_iload_1 dX12_nights_23 ?_
        refine z_iconst dX12_nights_24 (by decide) ?_
        refine z_iast zl_405 (by omega) (by omega) dX12_nights_25 ?_
        refine z_aload_0 dX12_nights_26 ?_
        refine z_getF 406 13 rfl f_X12_47 zl_393 rfl rfl dX12_nights_27 ?_
        refine z_iload_1 dX12_nights_30 ?_
        refine z_iconst dX12_nights_31 (by decide) ?_
        refine z_iast zl_406 (by omega) (by omega) dX12_nights_32 ?_
        refine z_aload_0 dX12_nights_33 ?_
        refine z_getF 408 15 rfl f_X12_53 zl_393 rfl rfl dX12_nights_34 ?_
        refine z_iload_1 dX12_nights_37 ?_
        refine z_iconst dX12_nights_38 (by decide) ?_
        refine z_iast zl_408 (by omega) (by omega) dX12_nights_39 ?_
        refine z_iinc_1 rfl dX12_nights_40 (by omega) ?_
        refine z_goto (tgt := 2) dX12_nights_43 (by decide) ?_
        refine ih (s + 1) _ (by omega) (fun x x0 x1 => ?_) ⟨fun k k1 k2 k3 => by (repeat (first | rw [zup_eq] | rw [zup_row (by omega)] | rw [zup_ne (Or.inr (by omega))])); exact hf.1 k k1 k2 k3, fun x x1 x2 => by (repeat (first | rw [zup_eq] | rw [zup_row (by omega)] | rw [zup_ne (Or.inr (by omega))])); exact hf.2 x x1 x2⟩ (by omega)
        by_cases q : x = s
        · subst q; exact ⟨by (repeat (first | rw [zup_eq] | rw [zup_row (by omega)] | rw [zup_ne (Or.inr (by omega))])), by (repeat (first | rw [zup_eq] | rw [zup_row (by omega)] | rw [zup_ne (Or.inr (by omega))])), by (repeat (first | rw [zup_eq] | rw [zup_row (by omega)] | rw [zup_ne (Or.inr (by omega))]))⟩
        · have := hz x x0 (by omega); exact ⟨by (repeat (first | rw [zup_eq] | rw [zup_row (by omega)] | rw [zup_ne (Or.inr (by omega))])); exact this.1, by (repeat (first | rw [zup_eq] | rw [zup_row (by omega)] | rw [zup_ne (Or.inr (by omega))])); exact this.2.1, by (repeat (first | rw [zup_eq] | rw [zup_row (by omega)] | rw [zup_ne (Or.inr (by omega))])); exact this.2.2⟩
  refine z_iconst dX12_nights_0 (by decide) ?_
  refine z_istore_1 rfl dX12_nights_1 ?_
  exact LF 9 0 μ (by omega) (fun x x0 x1 => by omega) ⟨fun _ _ _ _ => rfl, fun _ _ _ => rfl⟩ (by omega)
set_option maxRecDepth 100000 in
set_option maxHeartbeats 4000000 in
theorem k_X12_wokeBy {l : Launch} {E : zE} {S μ : zM} {a b : Int} (b0 : 0 ≤ b) (b1 : b < 5) (hz : zR1 μ S b) (h4 : 0 ≤ S 4 b ∧ S 4 b ≤ 40) : Ct l E yX12_wokeBy cX12_wokeBy 5 (some .int) ({ frames := 0, cells := 0, slots := 0, locals := 0 }) [zR 393, zI a, zI b] μ (fun r ν => r = some (zI (zWb S a b)) ∧ ν = μ) := by
  refine Ct.of RX12 [zR 393, zI a, zI b, zU, zU] (by decide +kernel) rfl ⟨rfl, rfl⟩ rfl (Nat.le_of_ble_eq_true rfl) (fun X hX hc0 ha0 => ?_)
  subst hX
  have g2 := hz.2.2.1
  have g5 := hz.2.2.2.2.2
  have L : ∀ (m : Nat) (k : Nat) (x : Int), (k : Int) ≤ S 4 b → x = zct (fun k => S 10 (40 * b + k) % 100 = a) k → S 4 b - k < m → MW X E cX12_wokeBy RX12 ({ frames := 0, cells := 0, slots := 0, locals := 0 }) (some .int) (fun r ν => r = some (zI (zWb S a b)) ∧ ν = μ) 5 [zR 393, zI a, zI b, zI x, zI (k : Int)] [] μ := by
    intro m
    induction m with
    | zero => intro k x hk1 hx h3; omega
    | succ m ih =>
      intro k x hk1 hx h3
      refine z_iload_4 dX12_wokeBy_5 ?_
      refine z_aload_0 dX12_wokeBy_7 ?_
      refine z_getF 408 15 rfl f_X12_53 zl_393 rfl rfl dX12_wokeBy_8 ?_
      refine z_iload_2 dX12_wokeBy_11 ?_
      refine z_iald zl_408 (by omega) (by omega) dX12_wokeBy_12 ?_
      rw [g2]
      refine z_icmpge (tgt := 46) dX12_wokeBy_13 (by decide) (fun h_13 => ?_) (fun h_13 => ?_)
      · refine z_iload_3 dX12_wokeBy_46 ?_
        exact z_iret dX12_wokeBy_47 (⟨congrArg (fun z => (some (zI z) : Option zAV)) (by rw [hx]; unfold zWb; rw [show (S 4 b).toNat = k by omega]), rfl⟩)
      · have gk := g5 k (by omega) (by omega)
        have cb := zct_b (Q := fun k => S 10 (40 * b + k) % 100 = a) (n := k)
        refine z_iload_3 dX12_wokeBy_16 ?_
        refine z_aload_0 dX12_wokeBy_17 ?_
        refine z_getF 410 17 rfl f_X12_59 zl_393 rfl rfl dX12_wokeBy_18 ?_
        refine z_bipush dX12_wokeBy_21 (by decide) ?_
        refine z_iload_2 dX12_wokeBy_23 ?_
        refine z_imul dX12_wokeBy_24 (by omega) ?_
        refine z_iload_4 dX12_wokeBy_25 ?_
        refine z_iadd dX12_wokeBy_27 (by omega) ?_
        refine z_iald zl_410 (by omega) (by omega) dX12_wokeBy_28 ?_
        refine z_iload_1 dX12_wokeBy_29 ?_
        refine z_icmpne (tgt := 37) dX12_wokeBy_30 (by decide) (fun h_30 => ?_) (fun h_30 => ?_)
        · refine z_iconst dX12_wokeBy_37 (by decide) ?_
          refine z_iadd dX12_wokeBy_38 (by omega) ?_
          refine z_istore_3 rfl dX12_wokeBy_39 ?_
          refine z_iinc_4 rfl dX12_wokeBy_40 (by omega) ?_
          refine z_goto (tgt := 5) dX12_wokeBy_43 (by decide) ?_
          exact ih (k + 1) _ (by omega) (by rw [hx, zct_s, zb_f (by rw [← gk.1]; omega)]) (by omega)
        · refine z_iconst dX12_wokeBy_33 (by decide) ?_
          refine z_goto (tgt := 38) dX12_wokeBy_34 (by decide) ?_
          refine z_iadd dX12_wokeBy_38 (by omega) ?_
          refine z_istore_3 rfl dX12_wokeBy_39 ?_
          refine z_iinc_4 rfl dX12_wokeBy_40 (by omega) ?_
          refine z_goto (tgt := 5) dX12_wokeBy_43 (by decide) ?_
          exact ih (k + 1) _ (by omega) (by rw [hx, zct_s, zb_t (by rw [← gk.1]; omega)]) (by omega)
  refine z_iconst dX12_wokeBy_0 (by decide) ?_
  refine z_istore_3 rfl dX12_wokeBy_1 ?_
  refine z_iconst dX12_wokeBy_2 (by decide) ?_
  refine z_istore_4 rfl dX12_wokeBy_3 ?_
  exact L 50 0 0 (by omega) rfl (by omega)
