/-! the reference's constructor -/
theorem rd_new (ci lim n : Nat) (U : Nat → Nat → Bool) (I : hf_M) (k : hf_K hg_M) (pl st : List Value) : d_new ci lim k pl st (n, U, I) = if hf_kd (n + 6) = ci + 3 ∧ n + 1 ≤ lim then k pl (.ref (n + 6) :: st) (n + 1, hg_u0 U (n + 6), hg_i0 I (n + 6)) else none := id rfl
theorem rd_newa (lim n : Nat) (x : Int32) (U : Nat → Nat → Bool) (I : hf_M) (k : hf_K hg_M) (pl st : List Value) : d_newa lim k pl (.int x :: st) (n, U, I) = if ¬ x < 0 ∧ x.toNatClampNeg = hf_ln (n + 6) ∧ hf_kd (n + 6) = 0 ∧ x.toNatClampNeg ≤ 100000 ∧ n + 1 ≤ lim then k pl (.ref (n + 6) :: st) (n + 1, hg_u0 U (n + 6), hg_i0 I (n + 6)) else none := id rfl
theorem rd_putR (ci j v c n : Nat) (U : Nat → Nat → Bool) (I : hf_M) (k : hf_K hg_M) (pl st : List Value) : d_putR ci j k pl (.ref v :: .ref c :: st) (n, U, I) = if hf_kd c = ci + 3 ∧ c < n + 6 ∧ hf_rf c j = some v then k pl st (n, hg_u U c j, I) else none := id rfl
theorem rd_putI (ci j c n : Nat) (v : Int32) (U : Nat → Nat → Bool) (I : hf_M) (k : hf_K hg_M) (pl st : List Value) : d_putI ci j k pl (.int v :: .ref c :: st) (n, U, I) = if hf_kd c = ci + 3 ∧ c < n + 6 then k pl st (n, U, hf_w I c j v) else none := id rfl
theorem rd_objI (c : Nat) (Y : hg_M) (k : hf_K hg_M) (pl : List Value) : d_objI k pl [.ref c] Y = k pl [] Y := id rfl
theorem rd_vret (lim n : Nat) (U : Nat → Nat → Bool) (I : hf_M) (pl : List Value) : d_vret lim pl [] (n, U, I) = if n = lim then some (none, (n, U, I)) else none := id rfl
theorem rd_beg (lim n : Nat) (f : hf_F) (U : Nat → Nat → Bool) (I : hf_M) (k : hf_K hg_M) (pl : List Value) : d_beg lim f k pl [.ref 204] (n, U, I) = if 204 = 204 ∧ n = 215 ∧ hg_full U = true ∧ 215 ≤ lim then match f [.ref 204] I with
  | some (none, J) => k pl [] (215, U, J)
  | _ => none
  else none := id rfl
def hm_U (U : Nat → Nat → Bool) : Nat → Nat → Bool := hg_u (hg_u0 (hg_u (hg_u0 (hg_u (hg_u0 (hg_u (hg_u0 (hg_u (hg_u0 (hg_u (hg_u0 (hg_u (hg_u0 (hg_u (hg_u0 (hg_u (hg_u0 (hg_u (hg_u0 (hg_u (hg_u0 (hg_u (hg_u0 (hg_u (hg_u0 (hg_u (hg_u0 (hg_u (hg_u0 (hg_u (hg_u0 U 205) 204 3) 206) 204 4) 207) 204 5) 208) 204 6) 209) 204 8) 210) 204 9) 211) 204 10) 212) 204 11) 213) 204 14) 214) 204 15) 215) 204 17) 216) 204 18) 217) 204 19) 218) 204 21) 219) 204 22) 220) 204 23
def hm_I (I : hf_M) : hf_M := hg_i0 (hg_i0 (hg_i0 (hf_w (hg_i0 (hg_i0 (hg_i0 (hg_i0 (hg_i0 (hg_i0 (hg_i0 (hg_i0 (hg_i0 (hg_i0 (hg_i0 (hg_i0 (hg_i0 (hf_w (hf_w (hf_w I 204 0 2) 204 1 2) 204 2 4) 205) 206) 207) 208) 209) 210) 211) 212) 213) 214) 215) 216) 217) 204 20 1) 218) 219) 220
set_option maxRecDepth 100000 in
theorem hm_e {N : Nat} {U : Nat → Nat → Bool} {I : hf_M} : EX8_init N 215 [.ref 204] [] (199, U, I) = d_beg 215 (fX8_begin N) (d_vret 215) [.ref 204] [.ref 204] (215, hm_U U, hm_I I) := by
  have c256 : (256 : Int32).toNatClampNeg = 256 := nI_clamp (n := 256) (by decide)
  have n256 : ((256 : Int32) < 0) = False := eq_false (by decide)
  have c16 : (16 : Int32).toNatClampNeg = 16 := nI_clamp (n := 16) (by decide)
  have n16 : ((16 : Int32) < 0) = False := eq_false (by decide)
  have c20 : (20 : Int32).toNatClampNeg = 20 := nI_clamp (n := 20) (by decide)
  have n20 : ((20 : Int32) < 0) = False := eq_false (by decide)
  have c1824 : (1824 : Int32).toNatClampNeg = 1824 := nI_clamp (n := 1824) (by decide)
  have n1824 : ((1824 : Int32) < 0) = False := eq_false (by decide)
  have c7296 : (7296 : Int32).toNatClampNeg = 7296 := nI_clamp (n := 7296) (by decide)
  have n7296 : ((7296 : Int32) < 0) = False := eq_false (by decide)
  have c3 : (3 : Int32).toNatClampNeg = 3 := nI_clamp (n := 3) (by decide)
  have n3 : ((3 : Int32) < 0) = False := eq_false (by decide)
  simp only [EX8_init, rd_newa, rd_putR, rd_putI, rd_objI, r_iload, r_aload, r_istore, r_astore, r_iinc, r_const, r_dupi, r_dupr, r_dup2, r_goto, r_iadd, r_isub, r_imul, r_iand, r_ixor, r_iushr, r_idiv, r_irem, r_ifeq, r_icmpeq, r_ifne, r_icmpne, r_iflt, r_icmplt, r_ifge, r_icmpge, r_ifgt, r_icmpgt, r_ifle, r_icmple, r_tsw, r_getI, r_getR, r_putI, r_putZ, r_iald, r_iast, r_aald, r_gets, r_copy, r_iret, r_zret, r_vret, r_mmax, r_mmin, r_callV, r_callS, r_fn, hf_pop, List.getElem?_cons_zero, List.getElem?_cons_succ, List.set_cons_zero, List.set_cons_succ, List.replicate_succ, List.replicate_zero, List.cons_append, List.nil_append, List.append_nil, List.length_cons, List.length_nil, List.take_succ_cons, List.take_zero, List.drop_succ_cons, List.drop_zero, List.reverse_cons, List.reverse_nil, List.map_cons, List.map_nil, List.sum_cons, List.sum_nil, List.all_cons, List.all_nil, Option.toList_some, Option.toList_none, Value.category, Nat.reduceAdd, Nat.reduceSub, Nat.reduceLeDiff, Nat.reduceMul, Nat.reduceLT, Nat.reduceEqDiff, beq_self_eq_true, Bool.and_self, Bool.and_true, and_self, and_true, true_and, ite_true, ite_false, if_true, if_false, ↓reduceIte, true_or, or_true, Nat.zero_add, Nat.le_refl, Nat.zero_le, not_false_eq_true, eq_self, true_implies, Int32.reduceLT, Int32.reduceLE, Int32.reduceGT, hf_rd6, hw6, iq_m6_m5, iq_m6_m4, iq_m6_m3, iq_m6_m2, iq_m6_m1, iq_m6_0, iq_m6_1, iq_m6_2, iq_m6_3, iq_m6_4, iq_m6_5, iq_m5_m6, iq_m5_m4, iq_m5_m3, iq_m5_m2, iq_m5_m1, iq_m5_0, iq_m5_1, iq_m5_2, iq_m5_3, iq_m5_4, iq_m5_5, iq_m4_m6, iq_m4_m5, iq_m4_m3, iq_m4_m2, iq_m4_m1, iq_m4_0, iq_m4_1, iq_m4_2, iq_m4_3, iq_m4_4, iq_m4_5, iq_m3_m6, iq_m3_m5, iq_m3_m4, iq_m3_m2, iq_m3_m1, iq_m3_0, iq_m3_1, iq_m3_2, iq_m3_3, iq_m3_4, iq_m3_5, iq_m2_m6, iq_m2_m5, iq_m2_m4, iq_m2_m3, iq_m2_m1, iq_m2_0, iq_m2_1, iq_m2_2, iq_m2_3, iq_m2_4, iq_m2_5, iq_m1_m6, iq_m1_m5, iq_m1_m4, iq_m1_m3, iq_m1_m2, iq_m1_0, iq_m1_1, iq_m1_2, iq_m1_3, iq_m1_4, iq_m1_5, iq_0_m6, iq_0_m5, iq_0_m4, iq_0_m3, iq_0_m2, iq_0_m1, iq_0_1, iq_0_2, iq_0_3, iq_0_4, iq_0_5, iq_1_m6, iq_1_m5, iq_1_m4, iq_1_m3, iq_1_m2, iq_1_m1, iq_1_0, iq_1_2, iq_1_3, iq_1_4, iq_1_5, iq_2_m6, iq_2_m5, iq_2_m4, iq_2_m3, iq_2_m2, iq_2_m1, iq_2_0, iq_2_1, iq_2_3, iq_2_4, iq_2_5, iq_3_m6, iq_3_m5, iq_3_m4, iq_3_m3, iq_3_m2, iq_3_m1, iq_3_0, iq_3_1, iq_3_2, iq_3_4, iq_3_5, iq_4_m6, iq_4_m5, iq_4_m4, iq_4_m3, iq_4_m2, iq_4_m1, iq_4_0, iq_4_1, iq_4_2, iq_4_3, iq_4_5, iq_5_m6, iq_5_m5, iq_5_m4, iq_5_m3, iq_5_m2, iq_5_m1, iq_5_0, iq_5_1, iq_5_2, iq_5_3, iq_5_4, lk_204, lk_205, lz_205, lr_204_3, lk_206, lz_206, lr_204_4, lk_207, lz_207, lr_204_5, lk_208, lz_208, lr_204_6, lk_209, lz_209, lr_204_8, lk_210, lz_210, lr_204_9, lk_211, lz_211, lr_204_10, lk_212, lz_212, lr_204_11, lk_213, lz_213, lr_204_14, lk_214, lz_214, lr_204_15, lk_215, lz_215, lr_204_17, lk_216, lz_216, lr_204_18, lk_217, lz_217, lr_204_19, lk_218, lz_218, lr_204_21, lk_219, lz_219, lr_204_22, lk_220, lz_220, lr_204_23, c256, n256, c16, n16, c20, n20, c1824, n1824, c7296, n7296, c3, n3, hm_U, hm_I]
theorem hgu_r (U : Nat → Nat → Bool) (c j c' j' : Nat) : hg_u U c j c' j' = if c' = c ∧ j' = j then true else U c' j' := rfl
theorem hgu_d {U : Nat → Nat → Bool} {c j c' j' : Nat} (h : ¬ c' = c) : hg_u U c j c' j' = U c' j' := by
  rw [hgu_r, if_neg (fun z => h z.1)]
theorem hgu0_r (U : Nat → Nat → Bool) (c c' j' : Nat) : hg_u0 U c c' j' = if c' = c then false else U c' j' := rfl
theorem hgu0_d {U : Nat → Nat → Bool} {c c' j' : Nat} (h : ¬ c' = c) : hg_u0 U c c' j' = U c' j' := by
  rw [hgu0_r, if_neg h]
theorem hm_Ud {U : Nat → Nat → Bool} {c j : Nat} (h : c < 204) : hm_U U c j = U c j := by
  simp (disch := omega) only [hm_U, hgu_d, hgu0_d]
theorem hm_Us {U : Nat → Nat → Bool} {j : Nat} (h : j = 3 ∨ j = 4 ∨ j = 5 ∨ j = 6 ∨ j = 8 ∨ j = 9 ∨ j = 10 ∨ j = 11 ∨ j = 14 ∨ j = 15 ∨ j = 17 ∨ j = 18 ∨ j = 19 ∨ j = 21 ∨ j = 22 ∨ j = 23) : hm_U U 204 j = true := by
  rcases h with rfl | rfl | rfl | rfl | rfl | rfl | rfl | rfl | rfl | rfl | rfl | rfl | rfl | rfl | rfl | rfl <;> simp only [hm_U, hgu_r, hgu0_r, Nat.reduceEqDiff, and_false, and_true, and_self, if_true, if_false, ite_true, ite_false, ↓reduceIte]
theorem hm_4 : ∀ j, j < 24 → (((hf_rs 204).getD j none).isSome = false ∨ (j = 3 ∨ j = 4 ∨ j = 5 ∨ j = 6 ∨ j = 8 ∨ j = 9 ∨ j = 10 ∨ j = 11 ∨ j = 14 ∨ j = 15 ∨ j = 17 ∨ j = 18 ∨ j = 19 ∨ j = 21 ∨ j = 22 ∨ j = 23)) := by decide +kernel
theorem hm_5 : (hf_rs 204).length = 24 := by decide +kernel
theorem hm_6 : ∀ k, k < 16 → (hf_rs (205 + k)).length = 0 := by decide +kernel
theorem hm_full {U : Nat → Nat → Bool} (h : ∀ c, c < 204 → ∀ j, j < (hf_rs c).length → (!((hf_rs c).getD j none).isSome || U c j) = true) : hg_full (hm_U U) = true := by
  unfold hg_full
  rw [List.all_eq_true]
  intro c hc
  rw [List.mem_range] at hc
  rw [List.all_eq_true]
  intro j hj
  rw [List.mem_range] at hj
  rcases Nat.lt_or_ge c 204 with c1 | c1
  · rw [hm_Ud c1]
    exact h c c1 j hj
  · by_cases c2 : c = 204
    · subst c2
      rw [hm_5] at hj
      rcases hm_4 j hj with hs | hs
      · rw [hs]
        rfl
      · rw [hm_Us hs, Bool.or_true]
    · have := hm_6 (c - 205) (by omega)
      rw [show 205 + (c - 205) = c by omega] at this
      omega
theorem i0_s (I : hf_M) (c j : Nat) : hg_i0 I c c j = 0 := by
  show (if c = c then _ else _) = _
  rw [if_pos rfl]
theorem i0_d {I : hf_M} {c d : Nat} (h : ¬ d = c) : hg_i0 I c d = I d := by
  funext j
  show (if d = c then _ else _) = _
  rw [if_neg h]
theorem hm_Id {I : hf_M} {d : Nat} (h : d < 204) : hm_I I d = I d := by
  unfold hm_I
  simp (disch := omega) only [i0_d, hw_d]
theorem hm_I4 {I : hf_M} : hm_I I 204 0 = 2 ∧ hm_I I 204 1 = 2 ∧ hm_I I 204 2 = 4 ∧ hm_I I 204 20 = 1 ∧ ∀ j, j ≠ 0 → j ≠ 1 → j ≠ 2 → j ≠ 20 → hm_I I 204 j = I 204 j := by
  unfold hm_I
  refine ⟨?_, ?_, ?_, ?_, fun j j0 j1 j2 j3 => ?_⟩
  · simp (disch := omega) only [i0_d, hw6, Nat.reduceEqDiff, ite_true, ite_false, if_true, if_false, ↓reduceIte]
  · simp (disch := omega) only [i0_d, hw6, Nat.reduceEqDiff, ite_true, ite_false, if_true, if_false, ↓reduceIte]
  · simp (disch := omega) only [i0_d, hw6, Nat.reduceEqDiff, ite_true, ite_false, if_true, if_false, ↓reduceIte]
  · simp (disch := omega) only [i0_d, hw6, Nat.reduceEqDiff, ite_true, ite_false, if_true, if_false, ↓reduceIte]
  · simp (disch := omega) only [i0_d, hw6, Nat.reduceEqDiff, ite_true, ite_false, if_true, if_false, ↓reduceIte, hn_ne]
theorem hm_Iz {I : hf_M} {d n : Nat} (h : d = 205 ∨ d = 206 ∨ d = 207 ∨ d = 208 ∨ d = 209 ∨ d = 210 ∨ d = 211 ∨ d = 212 ∨ d = 213 ∨ d = 214 ∨ d = 215 ∨ d = 216 ∨ d = 217 ∨ d = 218 ∨ d = 219 ∨ d = 220) : hm_I I d n = 0 := by
  unfold hm_I
  rcases h with rfl | rfl | rfl | rfl | rfl | rfl | rfl | rfl | rfl | rfl | rfl | rfl | rfl | rfl | rfl | rfl <;> simp (disch := omega) only [i0_d, i0_s, hw_d]
theorem rd_fn (a n mc ms : Nat) (k : Nat → hf_K hg_M) (av : List Value) (Y : hg_M) : hg_fn a n mc ms k av Y = if av.length = a ∧ av.all (fun v => v.category == 1) = true ∧ hg_sl (Y.1 + mc) = hg_sl Y.1 + ms ∧ Y.1 + mc ≤ 215 then match k (Y.1 + mc) (av ++ List.replicate (n - a) (.long 0)) [] Y with
  | some (r, Y') => if Y'.1 = Y.1 + mc then some (r, Y') else none
  | none => none
  else none := id rfl
theorem hm_sl : hg_sl 215 = hg_sl 199 + 11019 := by decide +kernel
theorem hm_q {N : Nat} {U : Nat → Nat → Bool} {I J : hf_M} (h : ∀ c, c < 204 → ∀ j, j < (hf_rs c).length → (!((hf_rs c).getD j none).isSome || U c j) = true) (e : fX8_begin N [.ref 204] (hm_I I) = some (none, J)) : gX8_init N [.ref 204] (199, U, I) = some (none, (215, hm_U U, J)) := by
  have e1 : EX8_init N 215 [.ref 204] [] (199, U, I) = some (none, (215, hm_U U, J)) := by
    rw [hm_e, rd_beg, if_pos ⟨rfl, rfl, hm_full h, Nat.le_refl _⟩, e]
    exact (rd_vret 215 215 (hm_U U) J _).trans (if_pos rfl)
  simp only [gX8_init, rd_fn, r_iload, r_aload, r_istore, r_astore, r_iinc, r_const, r_dupi, r_dupr, r_dup2, r_goto, r_iadd, r_isub, r_imul, r_iand, r_ixor, r_iushr, r_idiv, r_irem, r_ifeq, r_icmpeq, r_ifne, r_icmpne, r_iflt, r_icmplt, r_ifge, r_icmpge, r_ifgt, r_icmpgt, r_ifle, r_icmple, r_tsw, r_getI, r_getR, r_putI, r_putZ, r_iald, r_iast, r_aald, r_gets, r_copy, r_iret, r_zret, r_vret, r_mmax, r_mmin, r_callV, r_callS, r_fn, hf_pop, List.getElem?_cons_zero, List.getElem?_cons_succ, List.set_cons_zero, List.set_cons_succ, List.replicate_succ, List.replicate_zero, List.cons_append, List.nil_append, List.append_nil, List.length_cons, List.length_nil, List.take_succ_cons, List.take_zero, List.drop_succ_cons, List.drop_zero, List.reverse_cons, List.reverse_nil, List.map_cons, List.map_nil, List.sum_cons, List.sum_nil, List.all_cons, List.all_nil, Option.toList_some, Option.toList_none, Value.category, Nat.reduceAdd, Nat.reduceSub, Nat.reduceLeDiff, Nat.reduceMul, Nat.reduceLT, Nat.reduceEqDiff, beq_self_eq_true, Bool.and_self, Bool.and_true, and_self, and_true, true_and, ite_true, ite_false, if_true, if_false, ↓reduceIte, true_or, or_true, Nat.zero_add, Nat.le_refl, Nat.zero_le, not_false_eq_true, eq_self, true_implies, Int32.reduceLT, Int32.reduceLE, Int32.reduceGT, hf_rd6, hw6, iq_m6_m5, iq_m6_m4, iq_m6_m3, iq_m6_m2, iq_m6_m1, iq_m6_0, iq_m6_1, iq_m6_2, iq_m6_3, iq_m6_4, iq_m6_5, iq_m5_m6, iq_m5_m4, iq_m5_m3, iq_m5_m2, iq_m5_m1, iq_m5_0, iq_m5_1, iq_m5_2, iq_m5_3, iq_m5_4, iq_m5_5, iq_m4_m6, iq_m4_m5, iq_m4_m3, iq_m4_m2, iq_m4_m1, iq_m4_0, iq_m4_1, iq_m4_2, iq_m4_3, iq_m4_4, iq_m4_5, iq_m3_m6, iq_m3_m5, iq_m3_m4, iq_m3_m2, iq_m3_m1, iq_m3_0, iq_m3_1, iq_m3_2, iq_m3_3, iq_m3_4, iq_m3_5, iq_m2_m6, iq_m2_m5, iq_m2_m4, iq_m2_m3, iq_m2_m1, iq_m2_0, iq_m2_1, iq_m2_2, iq_m2_3, iq_m2_4, iq_m2_5, iq_m1_m6, iq_m1_m5, iq_m1_m4, iq_m1_m3, iq_m1_m2, iq_m1_0, iq_m1_1, iq_m1_2, iq_m1_3, iq_m1_4, iq_m1_5, iq_0_m6, iq_0_m5, iq_0_m4, iq_0_m3, iq_0_m2, iq_0_m1, iq_0_1, iq_0_2, iq_0_3, iq_0_4, iq_0_5, iq_1_m6, iq_1_m5, iq_1_m4, iq_1_m3, iq_1_m2, iq_1_m1, iq_1_0, iq_1_2, iq_1_3, iq_1_4, iq_1_5, iq_2_m6, iq_2_m5, iq_2_m4, iq_2_m3, iq_2_m2, iq_2_m1, iq_2_0, iq_2_1, iq_2_3, iq_2_4, iq_2_5, iq_3_m6, iq_3_m5, iq_3_m4, iq_3_m3, iq_3_m2, iq_3_m1, iq_3_0, iq_3_1, iq_3_2, iq_3_4, iq_3_5, iq_4_m6, iq_4_m5, iq_4_m4, iq_4_m3, iq_4_m2, iq_4_m1, iq_4_0, iq_4_1, iq_4_2, iq_4_3, iq_4_5, iq_5_m6, iq_5_m5, iq_5_m4, iq_5_m3, iq_5_m2, iq_5_m1, iq_5_0, iq_5_1, iq_5_2, iq_5_3, iq_5_4, hm_sl, e1]
