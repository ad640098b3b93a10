/-! scenes at a code S -/
def hsc (S : Nat) : Prop := S = 22 ∨ S = 58 ∨ S = 96 ∨ S = 132 ∨ S = 168
theorem hsc_b {S : Nat} (h : hsc S) : 22 ≤ S ∧ S + 36 ≤ 204 := by unfold hsc at h; omega
theorem ls_k {S : Nat} (h : hsc S) : hf_kd S = 7 := by
  rcases h with h | h | h | h | h <;> subst h <;> rfl
theorem ls_r0 {S : Nat} (h : hsc S) : hf_rf S 0 = some (S + 1) := by
  rcases h with h | h | h | h | h <;> subst h <;> rfl
theorem ls_r1 {S : Nat} (h : hsc S) : hf_rf S 1 = some (S + 2) := by
  rcases h with h | h | h | h | h <;> subst h <;> rfl
theorem ls_r2 {S : Nat} (h : hsc S) : hf_rf S 2 = some (S + 3) := by
  rcases h with h | h | h | h | h <;> subst h <;> rfl
theorem ls_r3 {S : Nat} (h : hsc S) : hf_rf S 3 = some (S + 4) := by
  rcases h with h | h | h | h | h <;> subst h <;> rfl
theorem ls_r4 {S : Nat} (h : hsc S) : hf_rf S 4 = some (S + 5) := by
  rcases h with h | h | h | h | h <;> subst h <;> rfl
theorem ls_r5 {S : Nat} (h : hsc S) : hf_rf S 5 = some (S + 6) := by
  rcases h with h | h | h | h | h <;> subst h <;> rfl
theorem ls_r6 {S : Nat} (h : hsc S) : hf_rf S 6 = some (S + 7) := by
  rcases h with h | h | h | h | h <;> subst h <;> rfl
theorem ls_r7 {S : Nat} (h : hsc S) : hf_rf S 7 = some (S + 8) := by
  rcases h with h | h | h | h | h <;> subst h <;> rfl
theorem ls_a1 {S : Nat} (h : hsc S) : hf_al (S + 1) = 256 := by
  rcases h with h | h | h | h | h <;> subst h <;> rfl
theorem ls_a2 {S : Nat} (h : hsc S) : hf_al (S + 2) = 256 := by
  rcases h with h | h | h | h | h <;> subst h <;> rfl
theorem ls_a3 {S : Nat} (h : hsc S) : hf_al (S + 3) = 256 := by
  rcases h with h | h | h | h | h <;> subst h <;> rfl
theorem ls_a4 {S : Nat} (h : hsc S) : hf_al (S + 4) = 256 := by
  rcases h with h | h | h | h | h <;> subst h <;> rfl
theorem ls_a5 {S : Nat} (h : hsc S) : hf_al (S + 5) = 256 := by
  rcases h with h | h | h | h | h <;> subst h <;> rfl
theorem ls_a6 {S : Nat} (h : hsc S) : hf_al (S + 6) = 256 := by
  rcases h with h | h | h | h | h <;> subst h <;> rfl
theorem ls_k7 {S : Nat} (h : hsc S) : hf_kd (S + 7) = 2 := by
  rcases h with h | h | h | h | h <;> subst h <;> rfl
theorem ls_n7 {S : Nat} (h : hsc S) : hf_ln (S + 7) = 8 := by
  rcases h with h | h | h | h | h <;> subst h <;> rfl
theorem ls_k8 {S : Nat} (h : hsc S) : hf_kd (S + 8) = 8 := by
  rcases h with h | h | h | h | h <;> subst h <;> rfl
theorem ls_t0 {S : Nat} (h : hsc S) : hf_rf (S + 8) 0 = some (S + 9) := by
  rcases h with h | h | h | h | h <;> subst h <;> rfl
theorem ls_t1 {S : Nat} (h : hsc S) : hf_rf (S + 8) 1 = some (S + 10) := by
  rcases h with h | h | h | h | h <;> subst h <;> rfl
theorem ls_t2 {S : Nat} (h : hsc S) : hf_rf (S + 8) 2 = some (S + 11) := by
  rcases h with h | h | h | h | h <;> subst h <;> rfl
theorem ls_a9 {S : Nat} (h : hsc S) : hf_al (S + 9) = 8 := by
  rcases h with h | h | h | h | h <;> subst h <;> rfl
theorem ls_a10 {S : Nat} (h : hsc S) : hf_al (S + 10) = 8 := by
  rcases h with h | h | h | h | h <;> subst h <;> rfl
theorem ls_a11 {S : Nat} (h : hsc S) : hf_al (S + 11) = 8 := by
  rcases h with h | h | h | h | h <;> subst h <;> rfl
theorem ls_d1 {S : Nat} (h : hsc S) : hf_kd (S + 1) = 0 := by
  rcases h with h | h | h | h | h <;> subst h <;> rfl
theorem ls_n1 {S : Nat} (h : hsc S) : hf_ln (S + 1) = 256 := by
  rcases h with h | h | h | h | h <;> subst h <;> rfl
theorem ls_d2 {S : Nat} (h : hsc S) : hf_kd (S + 2) = 0 := by
  rcases h with h | h | h | h | h <;> subst h <;> rfl
theorem ls_n2 {S : Nat} (h : hsc S) : hf_ln (S + 2) = 256 := by
  rcases h with h | h | h | h | h <;> subst h <;> rfl
theorem ls_d3 {S : Nat} (h : hsc S) : hf_kd (S + 3) = 0 := by
  rcases h with h | h | h | h | h <;> subst h <;> rfl
theorem ls_n3 {S : Nat} (h : hsc S) : hf_ln (S + 3) = 256 := by
  rcases h with h | h | h | h | h <;> subst h <;> rfl
theorem ls_d4 {S : Nat} (h : hsc S) : hf_kd (S + 4) = 0 := by
  rcases h with h | h | h | h | h <;> subst h <;> rfl
theorem ls_n4 {S : Nat} (h : hsc S) : hf_ln (S + 4) = 256 := by
  rcases h with h | h | h | h | h <;> subst h <;> rfl
theorem ls_d5 {S : Nat} (h : hsc S) : hf_kd (S + 5) = 0 := by
  rcases h with h | h | h | h | h <;> subst h <;> rfl
theorem ls_n5 {S : Nat} (h : hsc S) : hf_ln (S + 5) = 256 := by
  rcases h with h | h | h | h | h <;> subst h <;> rfl
theorem ls_d6 {S : Nat} (h : hsc S) : hf_kd (S + 6) = 0 := by
  rcases h with h | h | h | h | h <;> subst h <;> rfl
theorem ls_n6 {S : Nat} (h : hsc S) : hf_ln (S + 6) = 256 := by
  rcases h with h | h | h | h | h <;> subst h <;> rfl
theorem ls_d9 {S : Nat} (h : hsc S) : hf_kd (S + 9) = 0 := by
  rcases h with h | h | h | h | h <;> subst h <;> rfl
theorem ls_n9 {S : Nat} (h : hsc S) : hf_ln (S + 9) = 8 := by
  rcases h with h | h | h | h | h <;> subst h <;> rfl
theorem ls_d10 {S : Nat} (h : hsc S) : hf_kd (S + 10) = 0 := by
  rcases h with h | h | h | h | h <;> subst h <;> rfl
theorem ls_n10 {S : Nat} (h : hsc S) : hf_ln (S + 10) = 8 := by
  rcases h with h | h | h | h | h <;> subst h <;> rfl
theorem ls_d11 {S : Nat} (h : hsc S) : hf_kd (S + 11) = 0 := by
  rcases h with h | h | h | h | h <;> subst h <;> rfl
theorem ls_n11 {S : Nat} (h : hsc S) : hf_ln (S + 11) = 8 := by
  rcases h with h | h | h | h | h <;> subst h <;> rfl
theorem lw_r {S i : Nat} (h : hsc S) (hi : i < 8) : hf_rf (S + 7) i = some (S + 12 + 3 * i) := by
  rcases h with h | h | h | h | h <;> subst h <;> revert i <;> decide
theorem lw_k {S i : Nat} (h : hsc S) (hi : i < 8) : hf_kd (S + 12 + 3 * i) = 3 := by
  rcases h with h | h | h | h | h <;> subst h <;> revert i <;> decide
theorem lw_0 {S i : Nat} (h : hsc S) (hi : i < 8) : hf_rf (S + 12 + 3 * i) 0 = some (S + 12 + 3 * i + 1) := by
  rcases h with h | h | h | h | h <;> subst h <;> revert i <;> decide
theorem lw_1 {S i : Nat} (h : hsc S) (hi : i < 8) : hf_rf (S + 12 + 3 * i) 1 = some (S + 12 + 3 * i + 2) := by
  rcases h with h | h | h | h | h <;> subst h <;> revert i <;> decide
theorem lw_a {S i : Nat} (h : hsc S) (hi : i < 8) : hf_al (S + 12 + 3 * i + 1) = 12 := by
  rcases h with h | h | h | h | h <;> subst h <;> revert i <;> decide
theorem lw_b {S i : Nat} (h : hsc S) (hi : i < 8) : hf_al (S + 12 + 3 * i + 2) = 12 := by
  rcases h with h | h | h | h | h <;> subst h <;> revert i <;> decide
theorem lw_d1 {S i : Nat} (h : hsc S) (hi : i < 8) : hf_kd (S + 12 + 3 * i + 1) = 0 := by
  rcases h with h | h | h | h | h <;> subst h <;> revert i <;> decide
theorem lw_d2 {S i : Nat} (h : hsc S) (hi : i < 8) : hf_kd (S + 12 + 3 * i + 2) = 0 := by
  rcases h with h | h | h | h | h <;> subst h <;> revert i <;> decide
theorem lw_n1 {S i : Nat} (h : hsc S) (hi : i < 8) : hf_ln (S + 12 + 3 * i + 1) = 12 := by
  rcases h with h | h | h | h | h <;> subst h <;> revert i <;> decide
theorem lw_n2 {S i : Nat} (h : hsc S) (hi : i < 8) : hf_ln (S + 12 + 3 * i + 2) = 12 := by
  rcases h with h | h | h | h | h <;> subst h <;> revert i <;> decide
theorem nI_ne1 {n m : Nat} (h : ¬ n = m) : (n = m) = False := eq_false h
set_option maxRecDepth 100000 in
theorem kin_c {N S n : Nat} {I : hf_M} (hS : hsc S) (hn : n < 256) : fX4_kindle N [.ref S, .int (nI n)] I = some (none, if I (S + 1) n = 1 then hf_w (hf_w I (S + 1) n 2) (S + 6) n (I S 9) else I) := by
  have hb := hsc_b hS
  by_cases h : I (S + 1) n = 1
  · simp (disch := omega) only [fX4_kindle, EX4_kindle, r_iload, r_aload, r_istore, r_astore, r_iinc, r_const, r_dupi, r_dupr, r_dup2, r_goto, r_iadd, r_isub, r_imul, r_iand, r_ixor, r_iushr, r_idiv, r_irem, r_ifeq, r_icmpeq, r_ifne, r_icmpne, r_iflt, r_icmplt, r_ifge, r_icmpge, r_ifgt, r_icmpgt, r_ifle, r_icmple, r_tsw, r_getI, r_getR, r_putI, r_putZ, r_iald, r_iast, r_aald, r_gets, r_copy, r_iret, r_zret, r_vret, r_mmax, r_mmin, r_callV, r_callS, r_fn, hf_pop, List.getElem?_cons_zero, List.getElem?_cons_succ, List.set_cons_zero, List.set_cons_succ, List.replicate_succ, List.replicate_zero, List.cons_append, List.nil_append, List.append_nil, List.length_cons, List.length_nil, List.take_succ_cons, List.take_zero, List.drop_succ_cons, List.drop_zero, List.reverse_cons, List.reverse_nil, List.map_cons, List.map_nil, List.sum_cons, List.sum_nil, List.all_cons, List.all_nil, Option.toList_some, Option.toList_none, Value.category, Nat.reduceAdd, Nat.reduceSub, Nat.reduceLeDiff, Nat.reduceMul, Nat.reduceLT, Nat.reduceEqDiff, beq_self_eq_true, Bool.and_self, Bool.and_true, and_self, and_true, true_and, ite_true, ite_false, if_true, if_false, reduceIte, true_or, or_true, Nat.zero_add, Nat.le_refl, Nat.zero_le, not_false_eq_true, eq_self, true_implies, Int32.reduceLT, Int32.reduceLE, Int32.reduceGT, hf_rd6, hw6, iq_m6_m5, iq_m6_m4, iq_m6_m3, iq_m6_m2, iq_m6_m1, iq_m6_0, iq_m6_1, iq_m6_2, iq_m6_3, iq_m6_4, iq_m6_5, iq_m5_m6, iq_m5_m4, iq_m5_m3, iq_m5_m2, iq_m5_m1, iq_m5_0, iq_m5_1, iq_m5_2, iq_m5_3, iq_m5_4, iq_m5_5, iq_m4_m6, iq_m4_m5, iq_m4_m3, iq_m4_m2, iq_m4_m1, iq_m4_0, iq_m4_1, iq_m4_2, iq_m4_3, iq_m4_4, iq_m4_5, iq_m3_m6, iq_m3_m5, iq_m3_m4, iq_m3_m2, iq_m3_m1, iq_m3_0, iq_m3_1, iq_m3_2, iq_m3_3, iq_m3_4, iq_m3_5, iq_m2_m6, iq_m2_m5, iq_m2_m4, iq_m2_m3, iq_m2_m1, iq_m2_0, iq_m2_1, iq_m2_2, iq_m2_3, iq_m2_4, iq_m2_5, iq_m1_m6, iq_m1_m5, iq_m1_m4, iq_m1_m3, iq_m1_m2, iq_m1_0, iq_m1_1, iq_m1_2, iq_m1_3, iq_m1_4, iq_m1_5, iq_0_m6, iq_0_m5, iq_0_m4, iq_0_m3, iq_0_m2, iq_0_m1, iq_0_1, iq_0_2, iq_0_3, iq_0_4, iq_0_5, iq_1_m6, iq_1_m5, iq_1_m4, iq_1_m3, iq_1_m2, iq_1_m1, iq_1_0, iq_1_2, iq_1_3, iq_1_4, iq_1_5, iq_2_m6, iq_2_m5, iq_2_m4, iq_2_m3, iq_2_m2, iq_2_m1, iq_2_0, iq_2_1, iq_2_3, iq_2_4, iq_2_5, iq_3_m6, iq_3_m5, iq_3_m4, iq_3_m3, iq_3_m2, iq_3_m1, iq_3_0, iq_3_1, iq_3_2, iq_3_4, iq_3_5, iq_4_m6, iq_4_m5, iq_4_m4, iq_4_m3, iq_4_m2, iq_4_m1, iq_4_0, iq_4_1, iq_4_2, iq_4_3, iq_4_5, iq_5_m6, iq_5_m5, iq_5_m4, iq_5_m3, iq_5_m2, iq_5_m1, iq_5_0, iq_5_1, iq_5_2, iq_5_3, iq_5_4, ls_k hS, ls_r0 hS, ls_r1 hS, ls_r2 hS, ls_r3 hS, ls_r4 hS, ls_r5 hS, ls_r6 hS, ls_r7 hS, ls_a1 hS, ls_a2 hS, ls_a3 hS, ls_a4 hS, ls_a5 hS, ls_a6 hS, ls_k7 hS, ls_n7 hS, ls_k8 hS, ls_t0 hS, ls_t1 hS, ls_t2 hS, ls_a9 hS, ls_a10 hS, ls_a11 hS, hf_inI, nI_clamp, h, hn_ne, hn_nlt, and_true]
  · have h2 := eq_false h
    simp (disch := omega) only [fX4_kindle, EX4_kindle, r_iload, r_aload, r_istore, r_astore, r_iinc, r_const, r_dupi, r_dupr, r_dup2, r_goto, r_iadd, r_isub, r_imul, r_iand, r_ixor, r_iushr, r_idiv, r_irem, r_ifeq, r_icmpeq, r_ifne, r_icmpne, r_iflt, r_icmplt, r_ifge, r_icmpge, r_ifgt, r_icmpgt, r_ifle, r_icmple, r_tsw, r_getI, r_getR, r_putI, r_putZ, r_iald, r_iast, r_aald, r_gets, r_copy, r_iret, r_zret, r_vret, r_mmax, r_mmin, r_callV, r_callS, r_fn, hf_pop, List.getElem?_cons_zero, List.getElem?_cons_succ, List.set_cons_zero, List.set_cons_succ, List.replicate_succ, List.replicate_zero, List.cons_append, List.nil_append, List.append_nil, List.length_cons, List.length_nil, List.take_succ_cons, List.take_zero, List.drop_succ_cons, List.drop_zero, List.reverse_cons, List.reverse_nil, List.map_cons, List.map_nil, List.sum_cons, List.sum_nil, List.all_cons, List.all_nil, Option.toList_some, Option.toList_none, Value.category, Nat.reduceAdd, Nat.reduceSub, Nat.reduceLeDiff, Nat.reduceMul, Nat.reduceLT, Nat.reduceEqDiff, beq_self_eq_true, Bool.and_self, Bool.and_true, and_self, and_true, true_and, ite_true, ite_false, if_true, if_false, reduceIte, true_or, or_true, Nat.zero_add, Nat.le_refl, Nat.zero_le, not_false_eq_true, eq_self, true_implies, Int32.reduceLT, Int32.reduceLE, Int32.reduceGT, hf_rd6, hw6, iq_m6_m5, iq_m6_m4, iq_m6_m3, iq_m6_m2, iq_m6_m1, iq_m6_0, iq_m6_1, iq_m6_2, iq_m6_3, iq_m6_4, iq_m6_5, iq_m5_m6, iq_m5_m4, iq_m5_m3, iq_m5_m2, iq_m5_m1, iq_m5_0, iq_m5_1, iq_m5_2, iq_m5_3, iq_m5_4, iq_m5_5, iq_m4_m6, iq_m4_m5, iq_m4_m3, iq_m4_m2, iq_m4_m1, iq_m4_0, iq_m4_1, iq_m4_2, iq_m4_3, iq_m4_4, iq_m4_5, iq_m3_m6, iq_m3_m5, iq_m3_m4, iq_m3_m2, iq_m3_m1, iq_m3_0, iq_m3_1, iq_m3_2, iq_m3_3, iq_m3_4, iq_m3_5, iq_m2_m6, iq_m2_m5, iq_m2_m4, iq_m2_m3, iq_m2_m1, iq_m2_0, iq_m2_1, iq_m2_2, iq_m2_3, iq_m2_4, iq_m2_5, iq_m1_m6, iq_m1_m5, iq_m1_m4, iq_m1_m3, iq_m1_m2, iq_m1_0, iq_m1_1, iq_m1_2, iq_m1_3, iq_m1_4, iq_m1_5, iq_0_m6, iq_0_m5, iq_0_m4, iq_0_m3, iq_0_m2, iq_0_m1, iq_0_1, iq_0_2, iq_0_3, iq_0_4, iq_0_5, iq_1_m6, iq_1_m5, iq_1_m4, iq_1_m3, iq_1_m2, iq_1_m1, iq_1_0, iq_1_2, iq_1_3, iq_1_4, iq_1_5, iq_2_m6, iq_2_m5, iq_2_m4, iq_2_m3, iq_2_m2, iq_2_m1, iq_2_0, iq_2_1, iq_2_3, iq_2_4, iq_2_5, iq_3_m6, iq_3_m5, iq_3_m4, iq_3_m3, iq_3_m2, iq_3_m1, iq_3_0, iq_3_1, iq_3_2, iq_3_4, iq_3_5, iq_4_m6, iq_4_m5, iq_4_m4, iq_4_m3, iq_4_m2, iq_4_m1, iq_4_0, iq_4_1, iq_4_2, iq_4_3, iq_4_5, iq_5_m6, iq_5_m5, iq_5_m4, iq_5_m3, iq_5_m2, iq_5_m1, iq_5_0, iq_5_1, iq_5_2, iq_5_3, iq_5_4, ls_k hS, ls_r0 hS, ls_r1 hS, ls_r2 hS, ls_r3 hS, ls_r4 hS, ls_r5 hS, ls_r6 hS, ls_r7 hS, ls_a1 hS, ls_a2 hS, ls_a3 hS, ls_a4 hS, ls_a5 hS, ls_a6 hS, ls_k7 hS, ls_n7 hS, ls_k8 hS, ls_t0 hS, ls_t1 hS, ls_t2 hS, ls_a9 hS, ls_a10 hS, ls_a11 hS, hf_inI, nI_clamp, h2, hn_ne]
set_option maxRecDepth 100000 in
theorem kin_m {N n : Nat} {J : hf_M} (hn : n < 256) (ha : J 215 n = 1 → J 215 (1280 + n) = -6) : fX8_kindle N [.ref 204, .int (nI n)] J = some (none, if J 215 n = 1 then hf_w (hf_w J 215 n 2) 215 (1280 + n) (J 215 1816) else J) := by
  by_cases h : J 215 n = 1
  · have h6 := ha h
    simp (disch := omega) only [fX8_kindle, EX8_kindle, r_iload, r_aload, r_istore, r_astore, r_iinc, r_const, r_dupi, r_dupr, r_dup2, r_goto, r_iadd, r_isub, r_imul, r_iand, r_ixor, r_iushr, r_idiv, r_irem, r_ifeq, r_icmpeq, r_ifne, r_icmpne, r_iflt, r_icmplt, r_ifge, r_icmpge, r_ifgt, r_icmpgt, r_ifle, r_icmple, r_tsw, r_getI, r_getR, r_putI, r_putZ, r_iald, r_iast, r_aald, r_gets, r_copy, r_iret, r_zret, r_vret, r_mmax, r_mmin, r_callV, r_callS, r_fn, hf_pop, List.getElem?_cons_zero, List.getElem?_cons_succ, List.set_cons_zero, List.set_cons_succ, List.replicate_succ, List.replicate_zero, List.cons_append, List.nil_append, List.append_nil, List.length_cons, List.length_nil, List.take_succ_cons, List.take_zero, List.drop_succ_cons, List.drop_zero, List.reverse_cons, List.reverse_nil, List.map_cons, List.map_nil, List.sum_cons, List.sum_nil, List.all_cons, List.all_nil, Option.toList_some, Option.toList_none, Value.category, Nat.reduceAdd, Nat.reduceSub, Nat.reduceLeDiff, Nat.reduceMul, Nat.reduceLT, Nat.reduceEqDiff, beq_self_eq_true, Bool.and_self, Bool.and_true, and_self, and_true, true_and, ite_true, ite_false, if_true, if_false, reduceIte, true_or, or_true, Nat.zero_add, Nat.le_refl, Nat.zero_le, not_false_eq_true, eq_self, true_implies, Int32.reduceLT, Int32.reduceLE, Int32.reduceGT, hf_rd6, hw6, iq_m6_m5, iq_m6_m4, iq_m6_m3, iq_m6_m2, iq_m6_m1, iq_m6_0, iq_m6_1, iq_m6_2, iq_m6_3, iq_m6_4, iq_m6_5, iq_m5_m6, iq_m5_m4, iq_m5_m3, iq_m5_m2, iq_m5_m1, iq_m5_0, iq_m5_1, iq_m5_2, iq_m5_3, iq_m5_4, iq_m5_5, iq_m4_m6, iq_m4_m5, iq_m4_m3, iq_m4_m2, iq_m4_m1, iq_m4_0, iq_m4_1, iq_m4_2, iq_m4_3, iq_m4_4, iq_m4_5, iq_m3_m6, iq_m3_m5, iq_m3_m4, iq_m3_m2, iq_m3_m1, iq_m3_0, iq_m3_1, iq_m3_2, iq_m3_3, iq_m3_4, iq_m3_5, iq_m2_m6, iq_m2_m5, iq_m2_m4, iq_m2_m3, iq_m2_m1, iq_m2_0, iq_m2_1, iq_m2_2, iq_m2_3, iq_m2_4, iq_m2_5, iq_m1_m6, iq_m1_m5, iq_m1_m4, iq_m1_m3, iq_m1_m2, iq_m1_0, iq_m1_1, iq_m1_2, iq_m1_3, iq_m1_4, iq_m1_5, iq_0_m6, iq_0_m5, iq_0_m4, iq_0_m3, iq_0_m2, iq_0_m1, iq_0_1, iq_0_2, iq_0_3, iq_0_4, iq_0_5, iq_1_m6, iq_1_m5, iq_1_m4, iq_1_m3, iq_1_m2, iq_1_m1, iq_1_0, iq_1_2, iq_1_3, iq_1_4, iq_1_5, iq_2_m6, iq_2_m5, iq_2_m4, iq_2_m3, iq_2_m2, iq_2_m1, iq_2_0, iq_2_1, iq_2_3, iq_2_4, iq_2_5, iq_3_m6, iq_3_m5, iq_3_m4, iq_3_m3, iq_3_m2, iq_3_m1, iq_3_0, iq_3_1, iq_3_2, iq_3_4, iq_3_5, iq_4_m6, iq_4_m5, iq_4_m4, iq_4_m3, iq_4_m2, iq_4_m1, iq_4_0, iq_4_1, iq_4_2, iq_4_3, iq_4_5, iq_5_m6, iq_5_m5, iq_5_m4, iq_5_m3, iq_5_m2, iq_5_m1, iq_5_0, iq_5_1, iq_5_2, iq_5_3, iq_5_4, lk_204, lr_204_17, la_215, i0_add, ni_1280, ni_1816, nI_add, hf_inI, nI_clamp, h, h6, hn_ne]
  · have h2 := eq_false h
    simp (disch := omega) only [fX8_kindle, EX8_kindle, r_iload, r_aload, r_istore, r_astore, r_iinc, r_const, r_dupi, r_dupr, r_dup2, r_goto, r_iadd, r_isub, r_imul, r_iand, r_ixor, r_iushr, r_idiv, r_irem, r_ifeq, r_icmpeq, r_ifne, r_icmpne, r_iflt, r_icmplt, r_ifge, r_icmpge, r_ifgt, r_icmpgt, r_ifle, r_icmple, r_tsw, r_getI, r_getR, r_putI, r_putZ, r_iald, r_iast, r_aald, r_gets, r_copy, r_iret, r_zret, r_vret, r_mmax, r_mmin, r_callV, r_callS, r_fn, hf_pop, List.getElem?_cons_zero, List.getElem?_cons_succ, List.set_cons_zero, List.set_cons_succ, List.replicate_succ, List.replicate_zero, List.cons_append, List.nil_append, List.append_nil, List.length_cons, List.length_nil, List.take_succ_cons, List.take_zero, List.drop_succ_cons, List.drop_zero, List.reverse_cons, List.reverse_nil, List.map_cons, List.map_nil, List.sum_cons, List.sum_nil, List.all_cons, List.all_nil, Option.toList_some, Option.toList_none, Value.category, Nat.reduceAdd, Nat.reduceSub, Nat.reduceLeDiff, Nat.reduceMul, Nat.reduceLT, Nat.reduceEqDiff, beq_self_eq_true, Bool.and_self, Bool.and_true, and_self, and_true, true_and, ite_true, ite_false, if_true, if_false, reduceIte, true_or, or_true, Nat.zero_add, Nat.le_refl, Nat.zero_le, not_false_eq_true, eq_self, true_implies, Int32.reduceLT, Int32.reduceLE, Int32.reduceGT, hf_rd6, hw6, iq_m6_m5, iq_m6_m4, iq_m6_m3, iq_m6_m2, iq_m6_m1, iq_m6_0, iq_m6_1, iq_m6_2, iq_m6_3, iq_m6_4, iq_m6_5, iq_m5_m6, iq_m5_m4, iq_m5_m3, iq_m5_m2, iq_m5_m1, iq_m5_0, iq_m5_1, iq_m5_2, iq_m5_3, iq_m5_4, iq_m5_5, iq_m4_m6, iq_m4_m5, iq_m4_m3, iq_m4_m2, iq_m4_m1, iq_m4_0, iq_m4_1, iq_m4_2, iq_m4_3, iq_m4_4, iq_m4_5, iq_m3_m6, iq_m3_m5, iq_m3_m4, iq_m3_m2, iq_m3_m1, iq_m3_0, iq_m3_1, iq_m3_2, iq_m3_3, iq_m3_4, iq_m3_5, iq_m2_m6, iq_m2_m5, iq_m2_m4, iq_m2_m3, iq_m2_m1, iq_m2_0, iq_m2_1, iq_m2_2, iq_m2_3, iq_m2_4, iq_m2_5, iq_m1_m6, iq_m1_m5, iq_m1_m4, iq_m1_m3, iq_m1_m2, iq_m1_0, iq_m1_1, iq_m1_2, iq_m1_3, iq_m1_4, iq_m1_5, iq_0_m6, iq_0_m5, iq_0_m4, iq_0_m3, iq_0_m2, iq_0_m1, iq_0_1, iq_0_2, iq_0_3, iq_0_4, iq_0_5, iq_1_m6, iq_1_m5, iq_1_m4, iq_1_m3, iq_1_m2, iq_1_m1, iq_1_0, iq_1_2, iq_1_3, iq_1_4, iq_1_5, iq_2_m6, iq_2_m5, iq_2_m4, iq_2_m3, iq_2_m2, iq_2_m1, iq_2_0, iq_2_1, iq_2_3, iq_2_4, iq_2_5, iq_3_m6, iq_3_m5, iq_3_m4, iq_3_m3, iq_3_m2, iq_3_m1, iq_3_0, iq_3_1, iq_3_2, iq_3_4, iq_3_5, iq_4_m6, iq_4_m5, iq_4_m4, iq_4_m3, iq_4_m2, iq_4_m1, iq_4_0, iq_4_1, iq_4_2, iq_4_3, iq_4_5, iq_5_m6, iq_5_m5, iq_5_m4, iq_5_m3, iq_5_m2, iq_5_m1, iq_5_0, iq_5_1, iq_5_2, iq_5_3, iq_5_4, lk_204, lr_204_17, la_215, i0_add, hf_inI, nI_clamp, h2, hn_ne]
/-- one cell of a scene changes -/
theorem sc_cell {r c S n : Nat} {I I' J J' : hf_M} (hS : hsc S) (hrc : r * c ≤ 256) (hn : n < r * c) (h : hr_sc r c I S J 215 0) (hI : ∀ d, d ≤ S ∨ S + 6 < d → I' d = I d) (hI2 : ∀ d j, j ≠ n → I' d j = I d j) (hJ : ∀ j, (j ≠ n ∧ j ≠ 256 + n ∧ j ≠ 512 + n ∧ j ≠ 768 + n ∧ j ≠ 1024 + n ∧ j ≠ 1280 + n) → J' 215 j = J 215 j)
  (hc : I' (S + 1) n = J' 215 n ∧ I' (S + 2) n = J' 215 (256 + n) ∧ I' (S + 3) n = J' 215 (512 + n) ∧ I' (S + 4) n = J' 215 (768 + n) ∧ I' (S + 5) n = J' 215 (1024 + n) ∧ I' (S + 6) n = J' 215 (1280 + n) ∧ (I' (S + 1) n = 1 ∨ I' (S + 1) n = 2 → I (S + 1) n = 1 ∨ I (S + 1) n = 2) ∧ (I' (S + 1) n = 1 → I' (S + 6) n = -6)) : hr_sc r c I' S J' 215 0 := by
  have hb := hsc_b hS
  obtain ⟨b1, b2, ⟨sk, sa, s1, s2, s3, s4, s5, s6, s7, s8⟩, k, k8, b5, b6, b7⟩ := h
  have hjh : ∀ j, 1536 ≤ j → J' 215 j = J 215 j := fun j hj => hJ j (by omega)
  refine ⟨?_, ?_, ?_, k, k8, ?_, ?_, fun i hi => ?_⟩
  · intro m hm
    rw [hI 8 (by omega)]
    by_cases hmn : m = n
    · subst hmn
      simp only [Nat.zero_add]
      obtain ⟨c1, c2, c3, c4, c5, c6, c7, c8⟩ := hc
      exact ⟨c1, c2, c3, c4, c5, c6, fun x => (b1 m hm).2.2.2.2.2.2.1 (c7 x), c8⟩
    · rw [hI2 _ m hmn, hI2 _ m hmn, hI2 _ m hmn, hI2 _ m hmn, hI2 _ m hmn, hI2 _ m hmn, hJ (0 + m) (by omega), hJ (0 + (256 + m)) (by omega), hJ (0 + (512 + m)) (by omega), hJ (0 + (768 + m)) (by omega), hJ (0 + (1024 + m)) (by omega), hJ (0 + (1280 + m)) (by omega)]
      exact b1 m hm
  · unfold hr_num at b2 ⊢
    rw [hI S (by omega), hjh (0 + 1816) (by decide), hjh (0 + 1819) (by decide), hjh (0 + 1820) (by decide), hjh (0 + 1821) (by decide), hjh (0 + 1822) (by decide), hjh (0 + 1823) (by decide)]
    exact b2
  · refine ⟨sk, sa, s1, s2, s3, s4, s5, by rw [hI (S + 8) (by omega)]; exact s6, by rw [hjh _ (by decide)]; exact s7, fun i hi => ?_⟩
    rw [hI (S + 9) (by omega), hI (S + 10) (by omega), hI (S + 11) (by omega), hjh (0 + (1792 + 3 * i)) (by omega), hjh (0 + (1792 + 3 * i + 1)) (by omega), hjh (0 + (1792 + 3 * i + 2)) (by omega)]
    exact s8 i hi
  · rw [hI S (by omega)]; exact b5
  · rw [hjh _ (by decide)]; exact b6
  · obtain ⟨x1, x2, ⟨a, x3, x4, x5, x6, x7, x8⟩, x9⟩ := b7 i hi
    unfold hr_crew
    rw [hI (S + 12 + 3 * i) (by omega), hI (S + 12 + 3 * i + 1) (by omega), hI (S + 12 + 3 * i + 2) (by omega), hjh (0 + (1536 + 8 * i)) (by omega), hjh (0 + (1536 + 8 * i + 1)) (by omega), hjh (0 + (1536 + 8 * i + 2)) (by omega), hjh (0 + (1536 + 8 * i + 3)) (by omega), hjh (0 + (1536 + 8 * i + 4)) (by omega), hjh (0 + (1536 + 8 * i + 5)) (by omega), hjh (0 + (1536 + 8 * i + 6)) (by omega), hjh (0 + (1536 + 8 * i + 7)) (by omega)]
    refine ⟨x1, x2, ⟨a, x3, x4, x5, x6, fun j hj => ?_, x8⟩, x9⟩
    rw [hjh (0 + (1600 + 24 * i + 2 * j)) (by omega), hjh (0 + (1600 + 24 * i + 2 * j + 1)) (by omega)]
    exact x7 j hj
/-- only crew i of a scene changes -/
theorem sc_crew {r c S i : Nat} {I I' J J' : hf_M} (hS : hsc S) (hrc : r * c ≤ 256) (h : hr_sc r c I S J 215 0) (hi8 : i < 8) (hI : ∀ d, d ≠ S + 12 + 3 * i → d ≠ S + 12 + 3 * i + 1 → d ≠ S + 12 + 3 * i + 2 → I' d = I d) (hJ2 : ∀ j, (j < 1536 + 8 * i ∨ 1536 + 8 * i + 8 ≤ j) → (j < 1600 + 24 * i ∨ 1600 + 24 * i + 24 ≤ j) → J' 215 j = J 215 j) (hc : hr_crew r c I' (S + 12 + 3 * i) J' 215 0 i) : hr_sc r c I' S J' 215 0 := by
  have hb := hsc_b hS
  obtain ⟨b1, b2, ⟨sk, sa, s1, s2, s3, s4, s5, s6, s7, s8⟩, k, k8, b5, b6, b7⟩ := h
  have hz : ∀ d, d < S + 12 → I' d = I d := fun d hd => hI d (by omega) (by omega) (by omega)
  have hjl : ∀ j, j < 1536 → J' 215 j = J 215 j := fun j hj => hJ2 j (Or.inl (by omega)) (Or.inl (by omega))
  have hjh : ∀ j, 1792 ≤ j → J' 215 j = J 215 j := fun j hj => hJ2 j (Or.inr (by omega)) (Or.inr (by omega))
  refine ⟨?_, ?_, ?_, k, k8, ?_, ?_, fun i2 hi2 => ?_⟩
  · intro n hn
    have := b1 n hn
    rw [hz 8 (by omega), hz (S + 1) (by omega), hz (S + 2) (by omega), hz (S + 3) (by omega), hz (S + 4) (by omega), hz (S + 5) (by omega), hz (S + 6) (by omega), hjl (0 + n) (by omega), hjl (0 + (256 + n)) (by omega), hjl (0 + (512 + n)) (by omega), hjl (0 + (768 + n)) (by omega), hjl (0 + (1024 + n)) (by omega), hjl (0 + (1280 + n)) (by omega)]
    exact this
  · unfold hr_num at b2 ⊢
    rw [hz S (by omega), hjh (0 + 1816) (by decide), hjh (0 + 1819) (by decide), hjh (0 + 1820) (by decide), hjh (0 + 1821) (by decide), hjh (0 + 1822) (by decide), hjh (0 + 1823) (by decide)]
    exact b2
  · refine ⟨sk, sa, s1, s2, s3, s4, s5, by rw [hz (S + 8) (by omega)]; exact s6, by rw [hjh _ (by decide)]; exact s7, fun i hi => ?_⟩
    rw [hz (S + 9) (by omega), hz (S + 10) (by omega), hz (S + 11) (by omega), hjh (0 + (1792 + 3 * i)) (by omega), hjh (0 + (1792 + 3 * i + 1)) (by omega), hjh (0 + (1792 + 3 * i + 2)) (by omega)]
    exact s8 i hi
  · rw [hz S (by omega)]; exact b5
  · rw [hjh _ (by decide)]; exact b6
  · by_cases hii : i2 = i
    · subst hii; exact hc
    · have h9 := b7 i2 hi2
      have e1 := hI (S + 12 + 3 * i2) (by omega) (by omega) (by omega)
      have e2 := hI (S + 12 + 3 * i2 + 1) (by omega) (by omega) (by omega)
      have e3 := hI (S + 12 + 3 * i2 + 2) (by omega) (by omega) (by omega)
      have f : ∀ j, j < 8 → J' 215 (0 + (1536 + 8 * i2 + j)) = J 215 (0 + (1536 + 8 * i2 + j)) := fun j hj => hJ2 _ (by omega) (Or.inl (by omega))
      have f0 : J' 215 (0 + (1536 + 8 * i2)) = J 215 (0 + (1536 + 8 * i2)) := f 0 (by decide)
      obtain ⟨x1, x2, ⟨a, x3, x4, x5, x6, x7, x8⟩, x9⟩ := h9
      unfold hr_crew
      rw [e1, e2, e3, f0, f 1 (by decide), f 2 (by decide), f 3 (by decide), f 4 (by decide), f 5 (by decide), f 6 (by decide), f 7 (by decide)]
      refine ⟨x1, x2, ⟨a, x3, x4, x5, x6, fun j hj => ?_, x8⟩, x9⟩
      rw [hJ2 (0 + (1600 + 24 * i2 + 2 * j)) (by omega) (by omega), hJ2 (0 + (1600 + 24 * i2 + 2 * j + 1)) (by omega) (by omega)]
      exact x7 j hj
/-- what a step holds while it goes on: all but the scene and the reference's now stays -/
def hq (r c S : Nat) (I0 J0 I J : hf_M) : Prop := (∀ d, d < S ∨ S + 36 ≤ d → I d = I0 d) ∧ (∀ d, d ≠ 215 → J d = J0 d) ∧ I S = I0 S ∧ hr_sc r c I S J 215 0
theorem hq_steps {r c S : Nat} {I0 J0 I J : hf_M} (h : hq r c S I0 J0 I J) : J 215 1816 = I0 S 9 := by
  rw [← h.2.2.1]; exact (h.2.2.2.2.1.1.trans (by rw [Nat.zero_add])).symm
theorem kin_q {r c S n : Nat} {I0 J0 I J : hf_M} (hS : hsc S) (hrc : r * c ≤ 256) (hn : n < r * c) (h : hq r c S I0 J0 I J) : hq r c S I0 J0 (if I (S + 1) n = 1 then hf_w (hf_w I (S + 1) n 2) (S + 6) n (I S 9) else I) (if J 215 n = 1 then hf_w (hf_w J 215 n 2) 215 (1280 + n) (J 215 1816) else J) := by
  have hb := hsc_b hS
  have hc := h.2.2.2.1 n hn
  have hs := hq_steps h
  simp only [Nat.zero_add] at hc
  by_cases h1 : I (S + 1) n = 1
  · have h2 : J 215 n = 1 := by rw [← hc.1]; exact h1
    rw [if_pos h1, if_pos h2]
    refine ⟨fun d hd => ?_, fun d hd => ?_, ?_, ?_⟩
    · rw [hw_d (by omega), hw_d (by omega)]; exact h.1 d hd
    · rw [hw_d hd, hw_d hd]; exact h.2.1 d hd
    · rw [hw_d (by omega), hw_d (by omega)]; exact h.2.2.1
    · refine sc_cell hS hrc hn h.2.2.2 (fun d hd => by rw [hw_d (by omega), hw_d (by omega)]) (fun d j hj => by rw [hw_o (Or.inr hj), hw_o (Or.inr hj)]) (fun j hj => by rw [hw_o (Or.inr (by omega)), hw_o (Or.inr (by omega))]) ?_
      rw [hs, h.2.2.1]
      obtain ⟨c1, c2, c3, c4, c5, c6, c7, c8⟩ := hc
      simp (disch := omega) only [hw6, hn_ne, ite_true, ite_false, if_true, if_false, reduceIte, Nat.reduceEqDiff, Nat.reduceAdd, Nat.zero_add]
      exact ⟨trivial, c2, c3, c4, c5, trivial, fun _ => Or.inl h1, fun x => absurd x (by decide)⟩
  · have h2 : ¬ J 215 n = 1 := by rw [← hc.1]; exact h1
    rw [if_neg h1, if_neg h2]
    exact h

