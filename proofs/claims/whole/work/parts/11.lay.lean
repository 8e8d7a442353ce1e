/-! WHERE CELLS STAND; truth as a number -/
/-- from cell b on the cells are as the pattern has them -/
def zAt (pat : List (Nat × Nat)) (b : Nat) : Prop := ∀ (i : Nat) (e : Nat × Nat), pat[i]? = some e → zl (b + i) = e
theorem zAt.at {pat : List (Nat × Nat)} {b : Nat} (h : zAt pat b) (i : Nat) {e : Nat × Nat} (he : pat[i]? = some e) : zl (b + i) = e := h i e he
theorem zAt.of {pat : List (Nat × Nat)} {b : Nat} (h : (List.range pat.length).all (fun i => pat[i]? == some (zl (b + i))) = true) : zAt pat b := by
  intro i e he
  have hi : i < pat.length := (List.getElem?_eq_some_iff.mp he).1
  have := List.all_eq_true.mp h i (List.mem_range.mpr hi)
  have := eq_of_beq this
  rw [he] at this
  exact (Option.some.inj this).symm
/-- a block within a block -/
theorem zAt.sub {pat pat2 : List (Nat × Nat)} {b : Nat} (h : zAt pat b) (k : Nat) (hp : (pat.drop k).take pat2.length = pat2) : zAt pat2 (b + k) := by
  intro i e he
  have hi : i < pat2.length := (List.getElem?_eq_some_iff.mp he).1
  have e1 : pat[k + i]? = some e := by
    rw [← hp, List.getElem?_take, if_pos hi, List.getElem?_drop] at he
    exact he
  have := h (k + i) e e1
  rwa [show b + (k + i) = b + k + i by omega] at this
noncomputable def zb (P : Prop) : Int := @ite _ P (Classical.propDecidable P) 1 0
theorem zb_t {P : Prop} (h : P) : zb P = 1 := by unfold zb; exact if_pos h
theorem zb_f {P : Prop} (h : ¬ P) : zb P = 0 := by unfold zb; exact if_neg h
theorem zb_01 {P : Prop} : zb P = 0 ∨ zb P = 1 := by
  rcases Classical.em P with h | h
  · exact Or.inr (zb_t h)
  · exact Or.inl (zb_f h)
theorem zb_0 {P : Prop} : zb P = 0 ↔ ¬ P := ⟨fun e h => (by rw [zb_t h] at e; cases e), zb_f⟩
theorem zb_1 {P : Prop} : zb P = 1 ↔ P := ⟨fun e => Classical.byContradiction fun h => (by rw [zb_f h] at e; cases e), zb_t⟩
theorem zb_n {P : Prop} : zb P ≠ 0 ↔ P := ⟨fun e => Classical.byContradiction fun h => e (zb_f h), fun h => by rw [zb_t h]; decide⟩
theorem zb_c {P Q : Prop} (h : P ↔ Q) : zb P = zb Q := by rw [propext h]
theorem zb_in {P : Prop} : 0 ≤ zb P ∧ zb P ≤ 1 := by
  rcases zb_01 (P := P) with h | h <;> rw [h] <;> decide
theorem zb_r {P : Prop} {μ ν : zM} (h : P) (e : ν = μ) : (some (zI 1) : Option zAV) = some (zI (zb P)) ∧ ν = μ := ⟨by rw [zb_t h], e⟩
theorem zb_r0 {P : Prop} {μ ν : zM} (h : ¬ P) (e : ν = μ) : (some (zI 0) : Option zAV) = some (zI (zb P)) ∧ ν = μ := ⟨by rw [zb_f h], e⟩
abbrev zp0 : List (Nat × Nat) := [(0, 10), (6, 1), (20, 36), (22, 6), (20, 36), (20, 36), (20, 36), (20, 36), (20, 36), (20, 36), (20, 36), (22, 6), (20, 6), (20, 6), (20, 6), (20, 6), (20, 6), (20, 6), (22, 6), (20, 6), (20, 6), (20, 6), (20, 6), (20, 6), (20, 6), (22, 8), (20, 6), (20, 6), (20, 6), (20, 6), (20, 6), (20, 6), (20, 6), (20, 6), (20, 40), (20, 40), (22, 6), (20, 6), (20, 6), (20, 6), (20, 6), (20, 6), (20, 6), (1, 6), (21, 36), (20, 36), (20, 6)]
abbrev zp1 : List (Nat × Nat) := [(1, 6), (21, 36), (20, 36), (20, 6)]
abbrev zp2 : List (Nat × Nat) := [(2, 4), (1, 6), (21, 36), (20, 36), (20, 6), (5, 7), (20, 5), (20, 5), (20, 5), (20, 5), (20, 5), (20, 5), (9, 6), (20, 8), (20, 8), (20, 8), (20, 8), (20, 8), (7, 4), (20, 4), (20, 4), (21, 4)]
abbrev zp4 : List (Nat × Nat) := [(4, 15), (20, 5), (20, 5), (22, 5), (20, 40), (20, 40), (20, 40), (20, 40), (20, 40), (22, 5), (20, 40), (20, 40), (20, 40), (20, 40), (20, 40), (0, 10), (6, 1), (20, 36), (22, 6), (20, 36), (20, 36), (20, 36), (20, 36), (20, 36), (20, 36), (20, 36), (22, 6), (20, 6), (20, 6), (20, 6), (20, 6), (20, 6), (20, 6), (22, 6), (20, 6), (20, 6), (20, 6), (20, 6), (20, 6), (20, 6), (22, 8), (20, 6), (20, 6), (20, 6), (20, 6), (20, 6), (20, 6), (20, 6), (20, 6), (20, 40), (20, 40), (22, 6), (20, 6), (20, 6), (20, 6), (20, 6), (20, 6), (20, 6), (1, 6), (21, 36), (20, 36), (20, 6), (20, 5), (20, 5), (20, 5), (5, 7), (20, 5), (20, 5), (20, 5), (20, 5), (20, 5), (20, 5), (9, 6), (20, 8), (20, 8), (20, 8), (20, 8), (20, 8)]
abbrev zp5 : List (Nat × Nat) := [(5, 7), (20, 5), (20, 5), (20, 5), (20, 5), (20, 5), (20, 5)]
abbrev zp6 : List (Nat × Nat) := [(6, 1), (20, 36)]
abbrev zp7 : List (Nat × Nat) := [(7, 4), (20, 4), (20, 4), (21, 4)]
abbrev zp9 : List (Nat × Nat) := [(9, 6), (20, 8), (20, 8), (20, 8), (20, 8), (20, 8)]
theorem zl_0 : zl 0 = (11, 13) := by decide +kernel
theorem zl_1 : zl 1 = (2, 4) := by decide +kernel
theorem zl_23 : zl 23 = (2, 4) := by decide +kernel
theorem zl_45 : zl 45 = (23, 2) := by decide +kernel
theorem zl_46 : zl 46 = (21, 2) := by decide +kernel
theorem zl_47 : zl 47 = (10, 6) := by decide +kernel
theorem zl_48 : zl 48 = (20, 60) := by decide +kernel
theorem zl_49 : zl 49 = (22, 60) := by decide +kernel
theorem zl_110 : zl 110 = (20, 300) := by decide +kernel
theorem zl_111 : zl 111 = (4, 15) := by decide +kernel
theorem zl_189 : zl 189 = (8, 7) := by decide +kernel
theorem zl_190 : zl 190 = (20, 5) := by decide +kernel
theorem zl_191 : zl 191 = (20, 5) := by decide +kernel
theorem zl_192 : zl 192 = (2, 4) := by decide +kernel
theorem zl_214 : zl 214 = (4, 15) := by decide +kernel
theorem zl_292 : zl 292 = (3, 8) := by decide +kernel
theorem zl_293 : zl 293 = (0, 10) := by decide +kernel
theorem zl_340 : zl 340 = (6, 1) := by decide +kernel
theorem zl_342 : zl 342 = (20, 36) := by decide +kernel
theorem zl_343 : zl 343 = (21, 36) := by decide +kernel
theorem zl_344 : zl 344 = (20, 36) := by decide +kernel
theorem zl_345 : zl 345 = (6, 1) := by decide +kernel
theorem zl_347 : zl 347 = (20, 36) := by decide +kernel
theorem zl_348 : zl 348 = (20, 3) := by decide +kernel
theorem zl_393 : zl 393 = (12, 42) := by decide +kernel
theorem zl_394 : zl 394 = (20, 172) := by decide +kernel
theorem zl_395 : zl 395 = (20, 344) := by decide +kernel
theorem zl_396 : zl 396 = (21, 2) := by decide +kernel
theorem zl_397 : zl 397 = (20, 172) := by decide +kernel
theorem zl_398 : zl 398 = (20, 3) := by decide +kernel
theorem zl_399 : zl 399 = (20, 300) := by decide +kernel
theorem zl_400 : zl 400 = (20, 300) := by decide +kernel
theorem zl_401 : zl 401 = (20, 1500) := by decide +kernel
theorem zl_402 : zl 402 = (20, 1296) := by decide +kernel
theorem zl_403 : zl 403 = (20, 5) := by decide +kernel
theorem zl_404 : zl 404 = (20, 5) := by decide +kernel
theorem zl_405 : zl 405 = (20, 5) := by decide +kernel
theorem zl_406 : zl 406 = (20, 5) := by decide +kernel
theorem zl_407 : zl 407 = (20, 200) := by decide +kernel
theorem zl_408 : zl 408 = (20, 5) := by decide +kernel
theorem zl_409 : zl 409 = (20, 200) := by decide +kernel
theorem zl_410 : zl 410 = (20, 200) := by decide +kernel
theorem zl_411 : zl 411 = (20, 220) := by decide +kernel
theorem zl_412 : zl 412 = (20, 220) := by decide +kernel
theorem zl_413 : zl 413 = (20, 220) := by decide +kernel
theorem zl_414 : zl 414 = (20, 220) := by decide +kernel
theorem zl_415 : zl 415 = (20, 36) := by decide +kernel
theorem zl_416 : zl 416 = (20, 36) := by decide +kernel
theorem zl_417 : zl 417 = (20, 5) := by decide +kernel
theorem zl_418 : zl 418 = (20, 5) := by decide +kernel
theorem zl_419 : zl 419 = (20, 5) := by decide +kernel
theorem zq0_126 : zAt zp0 126 := zAt.of (by decide +kernel)
theorem zq0_229 : zAt zp0 229 := zAt.of (by decide +kernel)
theorem zq0_293 : zAt zp0 293 := zAt.of (by decide +kernel)
theorem zq1_2 : zAt zp1 2 := zAt.of (by decide +kernel)
theorem zq1_24 : zAt zp1 24 := zAt.of (by decide +kernel)
theorem zq1_169 : zAt zp1 169 := zAt.of (by decide +kernel)
theorem zq1_193 : zAt zp1 193 := zAt.of (by decide +kernel)
theorem zq1_272 : zAt zp1 272 := zAt.of (by decide +kernel)
theorem zq1_336 : zAt zp1 336 := zAt.of (by decide +kernel)
theorem zq1_350 : zAt zp1 350 := zAt.of (by decide +kernel)
theorem zq1_372 : zAt zp1 372 := zAt.of (by decide +kernel)
theorem zq2_1 : zAt zp2 1 := zAt.of (by decide +kernel)
theorem zq2_23 : zAt zp2 23 := zAt.of (by decide +kernel)
theorem zq2_192 : zAt zp2 192 := zAt.of (by decide +kernel)
theorem zq2_349 : zAt zp2 349 := zAt.of (by decide +kernel)
theorem zq2_371 : zAt zp2 371 := zAt.of (by decide +kernel)
theorem zq4_111 : zAt zp4 111 := zAt.of (by decide +kernel)
theorem zq4_214 : zAt zp4 214 := zAt.of (by decide +kernel)
theorem zq5_6 : zAt zp5 6 := zAt.of (by decide +kernel)
theorem zq5_28 : zAt zp5 28 := zAt.of (by decide +kernel)
theorem zq5_176 : zAt zp5 176 := zAt.of (by decide +kernel)
theorem zq5_197 : zAt zp5 197 := zAt.of (by decide +kernel)
theorem zq5_279 : zAt zp5 279 := zAt.of (by decide +kernel)
theorem zq5_354 : zAt zp5 354 := zAt.of (by decide +kernel)
theorem zq5_376 : zAt zp5 376 := zAt.of (by decide +kernel)
theorem zq6_127 : zAt zp6 127 := zAt.of (by decide +kernel)
theorem zq6_230 : zAt zp6 230 := zAt.of (by decide +kernel)
theorem zq6_294 : zAt zp6 294 := zAt.of (by decide +kernel)
theorem zq6_340 : zAt zp6 340 := zAt.of (by decide +kernel)
theorem zq6_345 : zAt zp6 345 := zAt.of (by decide +kernel)
theorem zq7_19 : zAt zp7 19 := zAt.of (by decide +kernel)
theorem zq7_41 : zAt zp7 41 := zAt.of (by decide +kernel)
theorem zq7_210 : zAt zp7 210 := zAt.of (by decide +kernel)
theorem zq7_367 : zAt zp7 367 := zAt.of (by decide +kernel)
theorem zq7_389 : zAt zp7 389 := zAt.of (by decide +kernel)
theorem zq9_13 : zAt zp9 13 := zAt.of (by decide +kernel)
theorem zq9_35 : zAt zp9 35 := zAt.of (by decide +kernel)
theorem zq9_183 : zAt zp9 183 := zAt.of (by decide +kernel)
theorem zq9_204 : zAt zp9 204 := zAt.of (by decide +kernel)
theorem zq9_286 : zAt zp9 286 := zAt.of (by decide +kernel)
theorem zq9_361 : zAt zp9 361 := zAt.of (by decide +kernel)
theorem zq9_383 : zAt zp9 383 := zAt.of (by decide +kernel)
theorem p_0_9 : zPl 0 9 (.object "OneRoom$Floor") := ⟨_, rfl, by decide +kernel, by decide +kernel⟩
theorem p_1_3 : zPl 1 3 .int := ⟨_, rfl, by decide +kernel, by decide +kernel⟩
theorem p_1_4 : zPl 1 4 .int := ⟨_, rfl, by decide +kernel, by decide +kernel⟩
theorem p_1_5 : zPl 1 5 .int := ⟨_, rfl, by decide +kernel, by decide +kernel⟩
theorem p_3_0 : zPl 3 0 .int := ⟨_, rfl, by decide +kernel, by decide +kernel⟩
theorem p_3_1 : zPl 3 1 .int := ⟨_, rfl, by decide +kernel, by decide +kernel⟩
theorem p_3_2 : zPl 3 2 .int := ⟨_, rfl, by decide +kernel, by decide +kernel⟩
theorem p_4_8 : zPl 4 8 (.object "OneRoom$People") := ⟨_, rfl, by decide +kernel, by decide +kernel⟩
theorem p_4_9 : zPl 4 9 (.object "OneRoom$Sounds") := ⟨_, rfl, by decide +kernel, by decide +kernel⟩
theorem p_4_10 : zPl 4 10 .int := ⟨_, rfl, by decide +kernel, by decide +kernel⟩
theorem p_4_11 : zPl 4 11 .int := ⟨_, rfl, by decide +kernel, by decide +kernel⟩
theorem p_4_12 : zPl 4 12 .int := ⟨_, rfl, by decide +kernel, by decide +kernel⟩
theorem p_4_13 : zPl 4 13 .int := ⟨_, rfl, by decide +kernel, by decide +kernel⟩
theorem p_4_14 : zPl 4 14 .int := ⟨_, rfl, by decide +kernel, by decide +kernel⟩
theorem p_5_6 : zPl 5 6 .int := ⟨_, rfl, by decide +kernel, by decide +kernel⟩
theorem p_7_3 : zPl 7 3 .int := ⟨_, rfl, by decide +kernel, by decide +kernel⟩
theorem p_8_1 : zPl 8 1 .int := ⟨_, rfl, by decide +kernel, by decide +kernel⟩
theorem p_8_2 : zPl 8 2 .int := ⟨_, rfl, by decide +kernel, by decide +kernel⟩
theorem p_8_3 : zPl 8 3 .boolean := ⟨_, rfl, by decide +kernel, by decide +kernel⟩
theorem p_9_5 : zPl 9 5 .int := ⟨_, rfl, by decide +kernel, by decide +kernel⟩
theorem p_10_0 : zPl 10 0 .int := ⟨_, rfl, by decide +kernel, by decide +kernel⟩
theorem p_10_1 : zPl 10 1 .int := ⟨_, rfl, by decide +kernel, by decide +kernel⟩
theorem p_10_5 : zPl 10 5 .int := ⟨_, rfl, by decide +kernel, by decide +kernel⟩
theorem p_11_11 : zPl 11 11 .int := ⟨_, rfl, by decide +kernel, by decide +kernel⟩
theorem p_11_12 : zPl 11 12 .int := ⟨_, rfl, by decide +kernel, by decide +kernel⟩
theorem p_12_5 : zPl 12 5 .int := ⟨_, rfl, by decide +kernel, by decide +kernel⟩
theorem p_12_6 : zPl 12 6 .int := ⟨_, rfl, by decide +kernel, by decide +kernel⟩
theorem p_12_7 : zPl 12 7 .boolean := ⟨_, rfl, by decide +kernel, by decide +kernel⟩
theorem p_12_9 : zPl 12 9 .int := ⟨_, rfl, by decide +kernel, by decide +kernel⟩
theorem p_12_10 : zPl 12 10 .int := ⟨_, rfl, by decide +kernel, by decide +kernel⟩
theorem p_12_11 : zPl 12 11 .int := ⟨_, rfl, by decide +kernel, by decide +kernel⟩
theorem p_12_12 : zPl 12 12 .int := ⟨_, rfl, by decide +kernel, by decide +kernel⟩
theorem p_12_13 : zPl 12 13 .int := ⟨_, rfl, by decide +kernel, by decide +kernel⟩
theorem p_12_16 : zPl 12 16 .int := ⟨_, rfl, by decide +kernel, by decide +kernel⟩
theorem p_12_18 : zPl 12 18 .int := ⟨_, rfl, by decide +kernel, by decide +kernel⟩
theorem p_12_31 : zPl 12 31 .int := ⟨_, rfl, by decide +kernel, by decide +kernel⟩
theorem p_12_32 : zPl 12 32 .int := ⟨_, rfl, by decide +kernel, by decide +kernel⟩
theorem p_12_33 : zPl 12 33 .int := ⟨_, rfl, by decide +kernel, by decide +kernel⟩
theorem p_12_39 : zPl 12 39 .int := ⟨_, rfl, by decide +kernel, by decide +kernel⟩
theorem p_12_40 : zPl 12 40 .int := ⟨_, rfl, by decide +kernel, by decide +kernel⟩
theorem p_12_41 : zPl 12 41 .boolean := ⟨_, rfl, by decide +kernel, by decide +kernel⟩
