/-! the class copies a scene's strips -/
set_option maxRecDepth 100000 in
theorem tc_c {N S D : Nat} {I : hf_M} (hS : hsc S) (hD : hsc D) (hSD : S ≠ D) : ∃ I', fX5_copyFrom N [.ref (D + 8), .ref (S + 8)] I = some (none, I') ∧ (∀ j, j < 8 → I' (D + 9) j = I (S + 9) j ∧ I' (D + 10) j = I (S + 10) j ∧ I' (D + 11) j = I (S + 11) j) ∧ I' (D + 8) 3 = I (S + 8) 3 ∧ (∀ d, d ≠ D + 8 → d ≠ D + 9 → d ≠ D + 10 → d ≠ D + 11 → I' d = I d) := by
  have hb := hsc_b hS
  have hb2 := hsc_b hD
  have hne : S + 36 ≤ D ∨ D + 36 ≤ S := by
    have h1 := hS
    have h2 := hD
    unfold hsc at h1 h2
    omega
  have z0 : (0 : Int32).toNatClampNeg = 0 := nI_clamp (n := 0) (by decide)
  have z8 : (8 : Int32).toNatClampNeg = 8 := nI_clamp (n := 8) (by decide)
  have n8 : ((8 : Int32) < 0) = False := eq_false (by decide)
  have n00 : ((0 : Int32) < 0) = False := eq_false (by decide)
  obtain ⟨A1, hA1⟩ : ∃ A1, A1 = hf_cp I (D + 9) (va_cpy (I (S + 9)) (I (D + 9)) 0 0 8) := ⟨_, rfl⟩
  obtain ⟨A2, hA2⟩ : ∃ A2, A2 = hf_cp A1 (D + 10) (va_cpy (A1 (S + 10)) (A1 (D + 10)) 0 0 8) := ⟨_, rfl⟩
  obtain ⟨A3, hA3⟩ : ∃ A3, A3 = hf_cp A2 (D + 11) (va_cpy (A2 (S + 11)) (A2 (D + 11)) 0 0 8) := ⟨_, rfl⟩
  have g1 : ∀ d, d ≠ D + 9 → A1 d = I d := fun d d1 => by rw [hA1, cp_r, if_neg d1]
  have g2 : ∀ d, d ≠ D + 10 → A2 d = A1 d := fun d d1 => by rw [hA2, cp_r, if_neg d1]
  have g3 : ∀ d, d ≠ D + 11 → A3 d = A2 d := fun d d1 => by rw [hA3, cp_r, if_neg d1]
  refine ⟨hf_w A3 (D + 8) 3 (A3 (S + 8) 3), ?_, fun j hj => ⟨?_, ?_, ?_⟩, ?_, fun d d0 d1 d2 d3 => ?_⟩
  · simp (disch := omega) only [fX5_copyFrom, EX5_copyFrom, r_iload, r_aload, r_istore, r_astore, r_iinc, r_const, r_dupi, r_dupr, r_dup2, r_goto, r_iadd, r_isub, r_imul, r_iand, r_ixor, r_iushr, r_idiv, r_irem, r_ifeq, r_icmpeq, r_ifne, r_icmpne, r_iflt, r_icmplt, r_ifge, r_icmpge, r_ifgt, r_icmpgt, r_ifle, r_icmple, r_tsw, r_getI, r_getR, r_putI, r_putZ, r_iald, r_iast, r_aald, r_gets, r_copy, r_iret, r_zret, r_vret, r_mmax, r_mmin, r_callV, r_callS, r_fn, hf_pop, List.getElem?_cons_zero, List.getElem?_cons_succ, List.set_cons_zero, List.set_cons_succ, List.replicate_succ, List.replicate_zero, List.cons_append, List.nil_append, List.append_nil, List.length_cons, List.length_nil, List.take_succ_cons, List.take_zero, List.drop_succ_cons, List.drop_zero, List.reverse_cons, List.reverse_nil, List.map_cons, List.map_nil, List.sum_cons, List.sum_nil, List.all_cons, List.all_nil, Option.toList_some, Option.toList_none, Value.category, Nat.reduceAdd, Nat.reduceSub, Nat.reduceLeDiff, Nat.reduceMul, Nat.reduceLT, Nat.reduceEqDiff, beq_self_eq_true, Bool.and_self, Bool.and_true, and_self, and_true, true_and, ite_true, ite_false, if_true, if_false, ↓reduceIte, true_or, or_true, Nat.zero_add, Nat.le_refl, Nat.zero_le, not_false_eq_true, eq_self, true_implies, Int32.reduceLT, Int32.reduceLE, Int32.reduceGT, hf_rd6, hw6, iq_m6_m5, iq_m6_m4, iq_m6_m3, iq_m6_m2, iq_m6_m1, iq_m6_0, iq_m6_1, iq_m6_2, iq_m6_3, iq_m6_4, iq_m6_5, iq_m5_m6, iq_m5_m4, iq_m5_m3, iq_m5_m2, iq_m5_m1, iq_m5_0, iq_m5_1, iq_m5_2, iq_m5_3, iq_m5_4, iq_m5_5, iq_m4_m6, iq_m4_m5, iq_m4_m3, iq_m4_m2, iq_m4_m1, iq_m4_0, iq_m4_1, iq_m4_2, iq_m4_3, iq_m4_4, iq_m4_5, iq_m3_m6, iq_m3_m5, iq_m3_m4, iq_m3_m2, iq_m3_m1, iq_m3_0, iq_m3_1, iq_m3_2, iq_m3_3, iq_m3_4, iq_m3_5, iq_m2_m6, iq_m2_m5, iq_m2_m4, iq_m2_m3, iq_m2_m1, iq_m2_0, iq_m2_1, iq_m2_2, iq_m2_3, iq_m2_4, iq_m2_5, iq_m1_m6, iq_m1_m5, iq_m1_m4, iq_m1_m3, iq_m1_m2, iq_m1_0, iq_m1_1, iq_m1_2, iq_m1_3, iq_m1_4, iq_m1_5, iq_0_m6, iq_0_m5, iq_0_m4, iq_0_m3, iq_0_m2, iq_0_m1, iq_0_1, iq_0_2, iq_0_3, iq_0_4, iq_0_5, iq_1_m6, iq_1_m5, iq_1_m4, iq_1_m3, iq_1_m2, iq_1_m1, iq_1_0, iq_1_2, iq_1_3, iq_1_4, iq_1_5, iq_2_m6, iq_2_m5, iq_2_m4, iq_2_m3, iq_2_m2, iq_2_m1, iq_2_0, iq_2_1, iq_2_3, iq_2_4, iq_2_5, iq_3_m6, iq_3_m5, iq_3_m4, iq_3_m3, iq_3_m2, iq_3_m1, iq_3_0, iq_3_1, iq_3_2, iq_3_4, iq_3_5, iq_4_m6, iq_4_m5, iq_4_m4, iq_4_m3, iq_4_m2, iq_4_m1, iq_4_0, iq_4_1, iq_4_2, iq_4_3, iq_4_5, iq_5_m6, iq_5_m5, iq_5_m4, iq_5_m3, iq_5_m2, iq_5_m1, iq_5_0, iq_5_1, iq_5_2, iq_5_3, iq_5_4, ls_k8 hS, ls_t0 hS, ls_t1 hS, ls_t2 hS, ls_d9 hS, ls_d10 hS, ls_d11 hS, ls_n9 hS, ls_n10 hS, ls_n11 hS, ls_k8 hD, ls_t0 hD, ls_t1 hD, ls_t2 hD, ls_d9 hD, ls_d10 hD, ls_d11 hD, ls_n9 hD, ls_n10 hD, ls_n11 hD, z0, z8, n8, n00, ← hA1, ← hA2, ← hA3]
  · rw [hw_d (by omega), g3 _ (by omega), g2 _ (by omega), hA1, cp_r, if_pos rfl, cp0 hj]
  · rw [hw_d (by omega), g3 _ (by omega), hA2, cp_r, if_pos rfl, cp0 hj, g1 _ (by omega)]
  · rw [hw_d (by omega), hA3, cp_r, if_pos rfl, cp0 hj, g2 _ (by omega), g1 _ (by omega)]
  · rw [hw_s, g3 _ (by omega), g2 _ (by omega), g1 _ (by omega)]
  · rw [hw_d d0, g3 _ d3, g2 _ d2, g1 _ d1]
