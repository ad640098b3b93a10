/-! balance: both sides together -/
set_option maxRecDepth 100000 in
theorem bc_0 {N S k : Nat} {K : hf_M} (hS : hsc S) (h3 : K (S + 8) 3 = nI k) (hk : k < 2) : fX4_balance N [.ref S] K = some (none, K) := by
  have l : ((2 : Int32) ≤ nI k) = False := eq_false (nI_ge (b := 2) hk (by decide))
  simp (disch := omega) only [fX4_balance, EX4_balance, r_iload, r_aload, r_istore, r_astore, r_iinc, r_const, r_dupi, r_dupr, r_dup2, r_goto, r_iadd, r_isub, r_imul, r_iand, r_ixor, r_iushr, r_idiv, r_irem, r_ifeq, r_icmpeq, r_ifne, r_icmpne, r_iflt, r_icmplt, r_ifge, r_icmpge, r_ifgt, r_icmpgt, r_ifle, r_icmple, r_tsw, r_getI, r_getR, r_putI, r_putZ, r_iald, r_iast, r_aald, r_gets, r_copy, r_iret, r_zret, r_vret, r_mmax, r_mmin, r_callV, r_callS, r_fn, hf_pop, List.getElem?_cons_zero, List.getElem?_cons_succ, List.set_cons_zero, List.set_cons_succ, List.replicate_succ, List.replicate_zero, List.cons_append, List.nil_append, List.append_nil, List.length_cons, List.length_nil, List.take_succ_cons, List.take_zero, List.drop_succ_cons, List.drop_zero, List.reverse_cons, List.reverse_nil, List.map_cons, List.map_nil, List.sum_cons, List.sum_nil, List.all_cons, List.all_nil, Option.toList_some, Option.toList_none, Value.category, Nat.reduceAdd, Nat.reduceSub, Nat.reduceLeDiff, Nat.reduceMul, Nat.reduceLT, Nat.reduceEqDiff, beq_self_eq_true, Bool.and_self, Bool.and_true, and_self, and_true, true_and, ite_true, ite_false, if_true, if_false, ↓reduceIte, true_or, or_true, Nat.zero_add, Nat.le_refl, Nat.zero_le, not_false_eq_true, eq_self, true_implies, Int32.reduceLT, Int32.reduceLE, Int32.reduceGT, hf_rd6, hw6, iq_m6_m5, iq_m6_m4, iq_m6_m3, iq_m6_m2, iq_m6_m1, iq_m6_0, iq_m6_1, iq_m6_2, iq_m6_3, iq_m6_4, iq_m6_5, iq_m5_m6, iq_m5_m4, iq_m5_m3, iq_m5_m2, iq_m5_m1, iq_m5_0, iq_m5_1, iq_m5_2, iq_m5_3, iq_m5_4, iq_m5_5, iq_m4_m6, iq_m4_m5, iq_m4_m3, iq_m4_m2, iq_m4_m1, iq_m4_0, iq_m4_1, iq_m4_2, iq_m4_3, iq_m4_4, iq_m4_5, iq_m3_m6, iq_m3_m5, iq_m3_m4, iq_m3_m2, iq_m3_m1, iq_m3_0, iq_m3_1, iq_m3_2, iq_m3_3, iq_m3_4, iq_m3_5, iq_m2_m6, iq_m2_m5, iq_m2_m4, iq_m2_m3, iq_m2_m1, iq_m2_0, iq_m2_1, iq_m2_2, iq_m2_3, iq_m2_4, iq_m2_5, iq_m1_m6, iq_m1_m5, iq_m1_m4, iq_m1_m3, iq_m1_m2, iq_m1_0, iq_m1_1, iq_m1_2, iq_m1_3, iq_m1_4, iq_m1_5, iq_0_m6, iq_0_m5, iq_0_m4, iq_0_m3, iq_0_m2, iq_0_m1, iq_0_1, iq_0_2, iq_0_3, iq_0_4, iq_0_5, iq_1_m6, iq_1_m5, iq_1_m4, iq_1_m3, iq_1_m2, iq_1_m1, iq_1_0, iq_1_2, iq_1_3, iq_1_4, iq_1_5, iq_2_m6, iq_2_m5, iq_2_m4, iq_2_m3, iq_2_m2, iq_2_m1, iq_2_0, iq_2_1, iq_2_3, iq_2_4, iq_2_5, iq_3_m6, iq_3_m5, iq_3_m4, iq_3_m3, iq_3_m2, iq_3_m1, iq_3_0, iq_3_1, iq_3_2, iq_3_4, iq_3_5, iq_4_m6, iq_4_m5, iq_4_m4, iq_4_m3, iq_4_m2, iq_4_m1, iq_4_0, iq_4_1, iq_4_2, iq_4_3, iq_4_5, iq_5_m6, iq_5_m5, iq_5_m4, iq_5_m3, iq_5_m2, iq_5_m1, iq_5_0, iq_5_1, iq_5_2, iq_5_3, iq_5_4, ls_k hS, ls_r7 hS, ls_k8 hS, h3, l]
set_option maxRecDepth 100000 in
theorem bc_1 {N S k : Nat} {K K1 : hf_M} (hS : hsc S) (h3 : K (S + 8) 3 = nI k) (hk : 2 ≤ k) (k8 : k ≤ 8) (e : fX5_splitBusiest N [.ref (S + 8)] K = some (some (Value.int 1), K1)) : fX4_balance N [.ref S] K = some (none, hf_w K1 S 13 (K1 S 13 + 1)) := by
  have l : ((2 : Int32) ≤ nI k) = True := eq_true (nI_le (a := 2) hk (by omega))
  simp (disch := omega) only [fX4_balance, EX4_balance, r_iload, r_aload, r_istore, r_astore, r_iinc, r_const, r_dupi, r_dupr, r_dup2, r_goto, r_iadd, r_isub, r_imul, r_iand, r_ixor, r_iushr, r_idiv, r_irem, r_ifeq, r_icmpeq, r_ifne, r_icmpne, r_iflt, r_icmplt, r_ifge, r_icmpge, r_ifgt, r_icmpgt, r_ifle, r_icmple, r_tsw, r_getI, r_getR, r_putI, r_putZ, r_iald, r_iast, r_aald, r_gets, r_copy, r_iret, r_zret, r_vret, r_mmax, r_mmin, r_callV, r_callS, r_fn, hf_pop, List.getElem?_cons_zero, List.getElem?_cons_succ, List.set_cons_zero, List.set_cons_succ, List.replicate_succ, List.replicate_zero, List.cons_append, List.nil_append, List.append_nil, List.length_cons, List.length_nil, List.take_succ_cons, List.take_zero, List.drop_succ_cons, List.drop_zero, List.reverse_cons, List.reverse_nil, List.map_cons, List.map_nil, List.sum_cons, List.sum_nil, List.all_cons, List.all_nil, Option.toList_some, Option.toList_none, Value.category, Nat.reduceAdd, Nat.reduceSub, Nat.reduceLeDiff, Nat.reduceMul, Nat.reduceLT, Nat.reduceEqDiff, beq_self_eq_true, Bool.and_self, Bool.and_true, and_self, and_true, true_and, ite_true, ite_false, if_true, if_false, ↓reduceIte, true_or, or_true, Nat.zero_add, Nat.le_refl, Nat.zero_le, not_false_eq_true, eq_self, true_implies, Int32.reduceLT, Int32.reduceLE, Int32.reduceGT, hf_rd6, hw6, iq_m6_m5, iq_m6_m4, iq_m6_m3, iq_m6_m2, iq_m6_m1, iq_m6_0, iq_m6_1, iq_m6_2, iq_m6_3, iq_m6_4, iq_m6_5, iq_m5_m6, iq_m5_m4, iq_m5_m3, iq_m5_m2, iq_m5_m1, iq_m5_0, iq_m5_1, iq_m5_2, iq_m5_3, iq_m5_4, iq_m5_5, iq_m4_m6, iq_m4_m5, iq_m4_m3, iq_m4_m2, iq_m4_m1, iq_m4_0, iq_m4_1, iq_m4_2, iq_m4_3, iq_m4_4, iq_m4_5, iq_m3_m6, iq_m3_m5, iq_m3_m4, iq_m3_m2, iq_m3_m1, iq_m3_0, iq_m3_1, iq_m3_2, iq_m3_3, iq_m3_4, iq_m3_5, iq_m2_m6, iq_m2_m5, iq_m2_m4, iq_m2_m3, iq_m2_m1, iq_m2_0, iq_m2_1, iq_m2_2, iq_m2_3, iq_m2_4, iq_m2_5, iq_m1_m6, iq_m1_m5, iq_m1_m4, iq_m1_m3, iq_m1_m2, iq_m1_0, iq_m1_1, iq_m1_2, iq_m1_3, iq_m1_4, iq_m1_5, iq_0_m6, iq_0_m5, iq_0_m4, iq_0_m3, iq_0_m2, iq_0_m1, iq_0_1, iq_0_2, iq_0_3, iq_0_4, iq_0_5, iq_1_m6, iq_1_m5, iq_1_m4, iq_1_m3, iq_1_m2, iq_1_m1, iq_1_0, iq_1_2, iq_1_3, iq_1_4, iq_1_5, iq_2_m6, iq_2_m5, iq_2_m4, iq_2_m3, iq_2_m2, iq_2_m1, iq_2_0, iq_2_1, iq_2_3, iq_2_4, iq_2_5, iq_3_m6, iq_3_m5, iq_3_m4, iq_3_m3, iq_3_m2, iq_3_m1, iq_3_0, iq_3_1, iq_3_2, iq_3_4, iq_3_5, iq_4_m6, iq_4_m5, iq_4_m4, iq_4_m3, iq_4_m2, iq_4_m1, iq_4_0, iq_4_1, iq_4_2, iq_4_3, iq_4_5, iq_5_m6, iq_5_m5, iq_5_m4, iq_5_m3, iq_5_m2, iq_5_m1, iq_5_0, iq_5_1, iq_5_2, iq_5_3, iq_5_4, ls_k hS, ls_r7 hS, ls_k8 hS, h3, l, e]
set_option maxRecDepth 100000 in
theorem bc_2 {N S k : Nat} {K : hf_M} (hS : hsc S) (h3 : K (S + 8) 3 = nI k) (hk : 2 ≤ k) (k8 : k ≤ 8) (e : fX5_splitBusiest N [.ref (S + 8)] K = some (some (Value.int 0), K)) (e2 : fX5_joinIdle N [.ref (S + 8)] K = some (some (Value.int 0), K)) : fX4_balance N [.ref S] K = some (none, K) := by
  have l : ((2 : Int32) ≤ nI k) = True := eq_true (nI_le (a := 2) hk (by omega))
  simp (disch := omega) only [fX4_balance, EX4_balance, r_iload, r_aload, r_istore, r_astore, r_iinc, r_const, r_dupi, r_dupr, r_dup2, r_goto, r_iadd, r_isub, r_imul, r_iand, r_ixor, r_iushr, r_idiv, r_irem, r_ifeq, r_icmpeq, r_ifne, r_icmpne, r_iflt, r_icmplt, r_ifge, r_icmpge, r_ifgt, r_icmpgt, r_ifle, r_icmple, r_tsw, r_getI, r_getR, r_putI, r_putZ, r_iald, r_iast, r_aald, r_gets, r_copy, r_iret, r_zret, r_vret, r_mmax, r_mmin, r_callV, r_callS, r_fn, hf_pop, List.getElem?_cons_zero, List.getElem?_cons_succ, List.set_cons_zero, List.set_cons_succ, List.replicate_succ, List.replicate_zero, List.cons_append, List.nil_append, List.append_nil, List.length_cons, List.length_nil, List.take_succ_cons, List.take_zero, List.drop_succ_cons, List.drop_zero, List.reverse_cons, List.reverse_nil, List.map_cons, List.map_nil, List.sum_cons, List.sum_nil, List.all_cons, List.all_nil, Option.toList_some, Option.toList_none, Value.category, Nat.reduceAdd, Nat.reduceSub, Nat.reduceLeDiff, Nat.reduceMul, Nat.reduceLT, Nat.reduceEqDiff, beq_self_eq_true, Bool.and_self, Bool.and_true, and_self, and_true, true_and, ite_true, ite_false, if_true, if_false, ↓reduceIte, true_or, or_true, Nat.zero_add, Nat.le_refl, Nat.zero_le, not_false_eq_true, eq_self, true_implies, Int32.reduceLT, Int32.reduceLE, Int32.reduceGT, hf_rd6, hw6, iq_m6_m5, iq_m6_m4, iq_m6_m3, iq_m6_m2, iq_m6_m1, iq_m6_0, iq_m6_1, iq_m6_2, iq_m6_3, iq_m6_4, iq_m6_5, iq_m5_m6, iq_m5_m4, iq_m5_m3, iq_m5_m2, iq_m5_m1, iq_m5_0, iq_m5_1, iq_m5_2, iq_m5_3, iq_m5_4, iq_m5_5, iq_m4_m6, iq_m4_m5, iq_m4_m3, iq_m4_m2, iq_m4_m1, iq_m4_0, iq_m4_1, iq_m4_2, iq_m4_3, iq_m4_4, iq_m4_5, iq_m3_m6, iq_m3_m5, iq_m3_m4, iq_m3_m2, iq_m3_m1, iq_m3_0, iq_m3_1, iq_m3_2, iq_m3_3, iq_m3_4, iq_m3_5, iq_m2_m6, iq_m2_m5, iq_m2_m4, iq_m2_m3, iq_m2_m1, iq_m2_0, iq_m2_1, iq_m2_2, iq_m2_3, iq_m2_4, iq_m2_5, iq_m1_m6, iq_m1_m5, iq_m1_m4, iq_m1_m3, iq_m1_m2, iq_m1_0, iq_m1_1, iq_m1_2, iq_m1_3, iq_m1_4, iq_m1_5, iq_0_m6, iq_0_m5, iq_0_m4, iq_0_m3, iq_0_m2, iq_0_m1, iq_0_1, iq_0_2, iq_0_3, iq_0_4, iq_0_5, iq_1_m6, iq_1_m5, iq_1_m4, iq_1_m3, iq_1_m2, iq_1_m1, iq_1_0, iq_1_2, iq_1_3, iq_1_4, iq_1_5, iq_2_m6, iq_2_m5, iq_2_m4, iq_2_m3, iq_2_m2, iq_2_m1, iq_2_0, iq_2_1, iq_2_3, iq_2_4, iq_2_5, iq_3_m6, iq_3_m5, iq_3_m4, iq_3_m3, iq_3_m2, iq_3_m1, iq_3_0, iq_3_1, iq_3_2, iq_3_4, iq_3_5, iq_4_m6, iq_4_m5, iq_4_m4, iq_4_m3, iq_4_m2, iq_4_m1, iq_4_0, iq_4_1, iq_4_2, iq_4_3, iq_4_5, iq_5_m6, iq_5_m5, iq_5_m4, iq_5_m3, iq_5_m2, iq_5_m1, iq_5_0, iq_5_1, iq_5_2, iq_5_3, iq_5_4, ls_k hS, ls_r7 hS, ls_k8 hS, h3, l, e, e2]
set_option maxRecDepth 100000 in
theorem bc_3 {N S k : Nat} {K K2 : hf_M} (hS : hsc S) (h3 : K (S + 8) 3 = nI k) (hk : 2 ≤ k) (k8 : k ≤ 8) (e : fX5_splitBusiest N [.ref (S + 8)] K = some (some (Value.int 0), K)) (e2 : fX5_joinIdle N [.ref (S + 8)] K = some (some (Value.int 1), K2)) : fX4_balance N [.ref S] K = some (none, hf_w K2 S 14 (K2 S 14 + 1)) := by
  have l : ((2 : Int32) ≤ nI k) = True := eq_true (nI_le (a := 2) hk (by omega))
  simp (disch := omega) only [fX4_balance, EX4_balance, r_iload, r_aload, r_istore, r_astore, r_iinc, r_const, r_dupi, r_dupr, r_dup2, r_goto, r_iadd, r_isub, r_imul, r_iand, r_ixor, r_iushr, r_idiv, r_irem, r_ifeq, r_icmpeq, r_ifne, r_icmpne, r_iflt, r_icmplt, r_ifge, r_icmpge, r_ifgt, r_icmpgt, r_ifle, r_icmple, r_tsw, r_getI, r_getR, r_putI, r_putZ, r_iald, r_iast, r_aald, r_gets, r_copy, r_iret, r_zret, r_vret, r_mmax, r_mmin, r_callV, r_callS, r_fn, hf_pop, List.getElem?_cons_zero, List.getElem?_cons_succ, List.set_cons_zero, List.set_cons_succ, List.replicate_succ, List.replicate_zero, List.cons_append, List.nil_append, List.append_nil, List.length_cons, List.length_nil, List.take_succ_cons, List.take_zero, List.drop_succ_cons, List.drop_zero, List.reverse_cons, List.reverse_nil, List.map_cons, List.map_nil, List.sum_cons, List.sum_nil, List.all_cons, List.all_nil, Option.toList_some, Option.toList_none, Value.category, Nat.reduceAdd, Nat.reduceSub, Nat.reduceLeDiff, Nat.reduceMul, Nat.reduceLT, Nat.reduceEqDiff, beq_self_eq_true, Bool.and_self, Bool.and_true, and_self, and_true, true_and, ite_true, ite_false, if_true, if_false, ↓reduceIte, true_or, or_true, Nat.zero_add, Nat.le_refl, Nat.zero_le, not_false_eq_true, eq_self, true_implies, Int32.reduceLT, Int32.reduceLE, Int32.reduceGT, hf_rd6, hw6, iq_m6_m5, iq_m6_m4, iq_m6_m3, iq_m6_m2, iq_m6_m1, iq_m6_0, iq_m6_1, iq_m6_2, iq_m6_3, iq_m6_4, iq_m6_5, iq_m5_m6, iq_m5_m4, iq_m5_m3, iq_m5_m2, iq_m5_m1, iq_m5_0, iq_m5_1, iq_m5_2, iq_m5_3, iq_m5_4, iq_m5_5, iq_m4_m6, iq_m4_m5, iq_m4_m3, iq_m4_m2, iq_m4_m1, iq_m4_0, iq_m4_1, iq_m4_2, iq_m4_3, iq_m4_4, iq_m4_5, iq_m3_m6, iq_m3_m5, iq_m3_m4, iq_m3_m2, iq_m3_m1, iq_m3_0, iq_m3_1, iq_m3_2, iq_m3_3, iq_m3_4, iq_m3_5, iq_m2_m6, iq_m2_m5, iq_m2_m4, iq_m2_m3, iq_m2_m1, iq_m2_0, iq_m2_1, iq_m2_2, iq_m2_3, iq_m2_4, iq_m2_5, iq_m1_m6, iq_m1_m5, iq_m1_m4, iq_m1_m3, iq_m1_m2, iq_m1_0, iq_m1_1, iq_m1_2, iq_m1_3, iq_m1_4, iq_m1_5, iq_0_m6, iq_0_m5, iq_0_m4, iq_0_m3, iq_0_m2, iq_0_m1, iq_0_1, iq_0_2, iq_0_3, iq_0_4, iq_0_5, iq_1_m6, iq_1_m5, iq_1_m4, iq_1_m3, iq_1_m2, iq_1_m1, iq_1_0, iq_1_2, iq_1_3, iq_1_4, iq_1_5, iq_2_m6, iq_2_m5, iq_2_m4, iq_2_m3, iq_2_m2, iq_2_m1, iq_2_0, iq_2_1, iq_2_3, iq_2_4, iq_2_5, iq_3_m6, iq_3_m5, iq_3_m4, iq_3_m3, iq_3_m2, iq_3_m1, iq_3_0, iq_3_1, iq_3_2, iq_3_4, iq_3_5, iq_4_m6, iq_4_m5, iq_4_m4, iq_4_m3, iq_4_m2, iq_4_m1, iq_4_0, iq_4_1, iq_4_2, iq_4_3, iq_4_5, iq_5_m6, iq_5_m5, iq_5_m4, iq_5_m3, iq_5_m2, iq_5_m1, iq_5_0, iq_5_1, iq_5_2, iq_5_3, iq_5_4, ls_k hS, ls_r7 hS, ls_k8 hS, h3, l, e, e2]
set_option maxRecDepth 100000 in
theorem ij_e {N S : Nat} {K : hf_M} {m : Int32} (hS : hsc S) (em : fX5_meanWork N [.ref (S + 8)] K = some (some (Value.int m), K)) : fX5_joinIdle N [.ref (S + 8)] K = BX5_joinIdle_9 N N [.ref (S + 8), .int (m / 2), .int (nI 0)] [] K := by
  have e0 : nI 0 = 0 := rfl
  simp (disch := omega) only [fX5_joinIdle, EX5_joinIdle, r_iload, r_aload, r_istore, r_astore, r_iinc, r_const, r_dupi, r_dupr, r_dup2, r_goto, r_iadd, r_isub, r_imul, r_iand, r_ixor, r_iushr, r_idiv, r_irem, r_ifeq, r_icmpeq, r_ifne, r_icmpne, r_iflt, r_icmplt, r_ifge, r_icmpge, r_ifgt, r_icmpgt, r_ifle, r_icmple, r_tsw, r_getI, r_getR, r_putI, r_putZ, r_iald, r_iast, r_aald, r_gets, r_copy, r_iret, r_zret, r_vret, r_mmax, r_mmin, r_callV, r_callS, r_fn, hf_pop, List.getElem?_cons_zero, List.getElem?_cons_succ, List.set_cons_zero, List.set_cons_succ, List.replicate_succ, List.replicate_zero, List.cons_append, List.nil_append, List.append_nil, List.length_cons, List.length_nil, List.take_succ_cons, List.take_zero, List.drop_succ_cons, List.drop_zero, List.reverse_cons, List.reverse_nil, List.map_cons, List.map_nil, List.sum_cons, List.sum_nil, List.all_cons, List.all_nil, Option.toList_some, Option.toList_none, Value.category, Nat.reduceAdd, Nat.reduceSub, Nat.reduceLeDiff, Nat.reduceMul, Nat.reduceLT, Nat.reduceEqDiff, beq_self_eq_true, Bool.and_self, Bool.and_true, and_self, and_true, true_and, ite_true, ite_false, if_true, if_false, ↓reduceIte, true_or, or_true, Nat.zero_add, Nat.le_refl, Nat.zero_le, not_false_eq_true, eq_self, true_implies, Int32.reduceLT, Int32.reduceLE, Int32.reduceGT, hf_rd6, hw6, iq_m6_m5, iq_m6_m4, iq_m6_m3, iq_m6_m2, iq_m6_m1, iq_m6_0, iq_m6_1, iq_m6_2, iq_m6_3, iq_m6_4, iq_m6_5, iq_m5_m6, iq_m5_m4, iq_m5_m3, iq_m5_m2, iq_m5_m1, iq_m5_0, iq_m5_1, iq_m5_2, iq_m5_3, iq_m5_4, iq_m5_5, iq_m4_m6, iq_m4_m5, iq_m4_m3, iq_m4_m2, iq_m4_m1, iq_m4_0, iq_m4_1, iq_m4_2, iq_m4_3, iq_m4_4, iq_m4_5, iq_m3_m6, iq_m3_m5, iq_m3_m4, iq_m3_m2, iq_m3_m1, iq_m3_0, iq_m3_1, iq_m3_2, iq_m3_3, iq_m3_4, iq_m3_5, iq_m2_m6, iq_m2_m5, iq_m2_m4, iq_m2_m3, iq_m2_m1, iq_m2_0, iq_m2_1, iq_m2_2, iq_m2_3, iq_m2_4, iq_m2_5, iq_m1_m6, iq_m1_m5, iq_m1_m4, iq_m1_m3, iq_m1_m2, iq_m1_0, iq_m1_1, iq_m1_2, iq_m1_3, iq_m1_4, iq_m1_5, iq_0_m6, iq_0_m5, iq_0_m4, iq_0_m3, iq_0_m2, iq_0_m1, iq_0_1, iq_0_2, iq_0_3, iq_0_4, iq_0_5, iq_1_m6, iq_1_m5, iq_1_m4, iq_1_m3, iq_1_m2, iq_1_m1, iq_1_0, iq_1_2, iq_1_3, iq_1_4, iq_1_5, iq_2_m6, iq_2_m5, iq_2_m4, iq_2_m3, iq_2_m2, iq_2_m1, iq_2_0, iq_2_1, iq_2_3, iq_2_4, iq_2_5, iq_3_m6, iq_3_m5, iq_3_m4, iq_3_m3, iq_3_m2, iq_3_m1, iq_3_0, iq_3_1, iq_3_2, iq_3_4, iq_3_5, iq_4_m6, iq_4_m5, iq_4_m4, iq_4_m3, iq_4_m2, iq_4_m1, iq_4_0, iq_4_1, iq_4_2, iq_4_3, iq_4_5, iq_5_m6, iq_5_m5, iq_5_m4, iq_5_m3, iq_5_m2, iq_5_m1, iq_5_0, iq_5_1, iq_5_2, iq_5_3, iq_5_4, ls_k8 hS, em, i20, e0]
set_option maxRecDepth 100000 in
theorem sl_e {N S k : Nat} {K : hf_M} {b : Int32} (hS : hsc S) (h3 : K (S + 8) 3 = nI k) : fX5_split N [.ref (S + 8), .int b] K = BX5_split_5 N N [.ref (S + 8), .int b, .int (nI k)] [] K := by
  simp (disch := omega) only [fX5_split, EX5_split, r_iload, r_aload, r_istore, r_astore, r_iinc, r_const, r_dupi, r_dupr, r_dup2, r_goto, r_iadd, r_isub, r_imul, r_iand, r_ixor, r_iushr, r_idiv, r_irem, r_ifeq, r_icmpeq, r_ifne, r_icmpne, r_iflt, r_icmplt, r_ifge, r_icmpge, r_ifgt, r_icmpgt, r_ifle, r_icmple, r_tsw, r_getI, r_getR, r_putI, r_putZ, r_iald, r_iast, r_aald, r_gets, r_copy, r_iret, r_zret, r_vret, r_mmax, r_mmin, r_callV, r_callS, r_fn, hf_pop, List.getElem?_cons_zero, List.getElem?_cons_succ, List.set_cons_zero, List.set_cons_succ, List.replicate_succ, List.replicate_zero, List.cons_append, List.nil_append, List.append_nil, List.length_cons, List.length_nil, List.take_succ_cons, List.take_zero, List.drop_succ_cons, List.drop_zero, List.reverse_cons, List.reverse_nil, List.map_cons, List.map_nil, List.sum_cons, List.sum_nil, List.all_cons, List.all_nil, Option.toList_some, Option.toList_none, Value.category, Nat.reduceAdd, Nat.reduceSub, Nat.reduceLeDiff, Nat.reduceMul, Nat.reduceLT, Nat.reduceEqDiff, beq_self_eq_true, Bool.and_self, Bool.and_true, and_self, and_true, true_and, ite_true, ite_false, if_true, if_false, ↓reduceIte, true_or, or_true, Nat.zero_add, Nat.le_refl, Nat.zero_le, not_false_eq_true, eq_self, true_implies, Int32.reduceLT, Int32.reduceLE, Int32.reduceGT, hf_rd6, hw6, iq_m6_m5, iq_m6_m4, iq_m6_m3, iq_m6_m2, iq_m6_m1, iq_m6_0, iq_m6_1, iq_m6_2, iq_m6_3, iq_m6_4, iq_m6_5, iq_m5_m6, iq_m5_m4, iq_m5_m3, iq_m5_m2, iq_m5_m1, iq_m5_0, iq_m5_1, iq_m5_2, iq_m5_3, iq_m5_4, iq_m5_5, iq_m4_m6, iq_m4_m5, iq_m4_m3, iq_m4_m2, iq_m4_m1, iq_m4_0, iq_m4_1, iq_m4_2, iq_m4_3, iq_m4_4, iq_m4_5, iq_m3_m6, iq_m3_m5, iq_m3_m4, iq_m3_m2, iq_m3_m1, iq_m3_0, iq_m3_1, iq_m3_2, iq_m3_3, iq_m3_4, iq_m3_5, iq_m2_m6, iq_m2_m5, iq_m2_m4, iq_m2_m3, iq_m2_m1, iq_m2_0, iq_m2_1, iq_m2_2, iq_m2_3, iq_m2_4, iq_m2_5, iq_m1_m6, iq_m1_m5, iq_m1_m4, iq_m1_m3, iq_m1_m2, iq_m1_0, iq_m1_1, iq_m1_2, iq_m1_3, iq_m1_4, iq_m1_5, iq_0_m6, iq_0_m5, iq_0_m4, iq_0_m3, iq_0_m2, iq_0_m1, iq_0_1, iq_0_2, iq_0_3, iq_0_4, iq_0_5, iq_1_m6, iq_1_m5, iq_1_m4, iq_1_m3, iq_1_m2, iq_1_m1, iq_1_0, iq_1_2, iq_1_3, iq_1_4, iq_1_5, iq_2_m6, iq_2_m5, iq_2_m4, iq_2_m3, iq_2_m2, iq_2_m1, iq_2_0, iq_2_1, iq_2_3, iq_2_4, iq_2_5, iq_3_m6, iq_3_m5, iq_3_m4, iq_3_m3, iq_3_m2, iq_3_m1, iq_3_0, iq_3_1, iq_3_2, iq_3_4, iq_3_5, iq_4_m6, iq_4_m5, iq_4_m4, iq_4_m3, iq_4_m2, iq_4_m1, iq_4_0, iq_4_1, iq_4_2, iq_4_3, iq_4_5, iq_5_m6, iq_5_m5, iq_5_m4, iq_5_m3, iq_5_m2, iq_5_m1, iq_5_0, iq_5_1, iq_5_2, iq_5_3, iq_5_4, ls_k8 hS, h3]
set_option maxRecDepth 100000 in
theorem mb_s {N k : Nat} {L : hf_M} (h8 : L 215 1818 = nI k) : fX8_balance N [.ref 204] L = BX8_balance_16 N N [.ref 204, .int (nI k), .int 0, .int (nI 0), .int (nI 0), .long 0, .long 0, .long 0, .long 0] [] L := by
  have e0 : nI 0 = 0 := rfl
  have c1 : (1818 : Int32).toNatClampNeg = 1818 := nI_clamp (n := 1818) (by decide)
  have c2 : hf_in 1818 1824 = True := hf_inI (k := 1818) (by decide) (by decide)
  simp (disch := omega) only [fX8_balance, EX8_balance, r_iload, r_aload, r_istore, r_astore, r_iinc, r_const, r_dupi, r_dupr, r_dup2, r_goto, r_iadd, r_isub, r_imul, r_iand, r_ixor, r_iushr, r_idiv, r_irem, r_ifeq, r_icmpeq, r_ifne, r_icmpne, r_iflt, r_icmplt, r_ifge, r_icmpge, r_ifgt, r_icmpgt, r_ifle, r_icmple, r_tsw, r_getI, r_getR, r_putI, r_putZ, r_iald, r_iast, r_aald, r_gets, r_copy, r_iret, r_zret, r_vret, r_mmax, r_mmin, r_callV, r_callS, r_fn, hf_pop, List.getElem?_cons_zero, List.getElem?_cons_succ, List.set_cons_zero, List.set_cons_succ, List.replicate_succ, List.replicate_zero, List.cons_append, List.nil_append, List.append_nil, List.length_cons, List.length_nil, List.take_succ_cons, List.take_zero, List.drop_succ_cons, List.drop_zero, List.reverse_cons, List.reverse_nil, List.map_cons, List.map_nil, List.sum_cons, List.sum_nil, List.all_cons, List.all_nil, Option.toList_some, Option.toList_none, Value.category, Nat.reduceAdd, Nat.reduceSub, Nat.reduceLeDiff, Nat.reduceMul, Nat.reduceLT, Nat.reduceEqDiff, beq_self_eq_true, Bool.and_self, Bool.and_true, and_self, and_true, true_and, ite_true, ite_false, if_true, if_false, ↓reduceIte, true_or, or_true, Nat.zero_add, Nat.le_refl, Nat.zero_le, not_false_eq_true, eq_self, true_implies, Int32.reduceLT, Int32.reduceLE, Int32.reduceGT, hf_rd6, hw6, iq_m6_m5, iq_m6_m4, iq_m6_m3, iq_m6_m2, iq_m6_m1, iq_m6_0, iq_m6_1, iq_m6_2, iq_m6_3, iq_m6_4, iq_m6_5, iq_m5_m6, iq_m5_m4, iq_m5_m3, iq_m5_m2, iq_m5_m1, iq_m5_0, iq_m5_1, iq_m5_2, iq_m5_3, iq_m5_4, iq_m5_5, iq_m4_m6, iq_m4_m5, iq_m4_m3, iq_m4_m2, iq_m4_m1, iq_m4_0, iq_m4_1, iq_m4_2, iq_m4_3, iq_m4_4, iq_m4_5, iq_m3_m6, iq_m3_m5, iq_m3_m4, iq_m3_m2, iq_m3_m1, iq_m3_0, iq_m3_1, iq_m3_2, iq_m3_3, iq_m3_4, iq_m3_5, iq_m2_m6, iq_m2_m5, iq_m2_m4, iq_m2_m3, iq_m2_m1, iq_m2_0, iq_m2_1, iq_m2_2, iq_m2_3, iq_m2_4, iq_m2_5, iq_m1_m6, iq_m1_m5, iq_m1_m4, iq_m1_m3, iq_m1_m2, iq_m1_0, iq_m1_1, iq_m1_2, iq_m1_3, iq_m1_4, iq_m1_5, iq_0_m6, iq_0_m5, iq_0_m4, iq_0_m3, iq_0_m2, iq_0_m1, iq_0_1, iq_0_2, iq_0_3, iq_0_4, iq_0_5, iq_1_m6, iq_1_m5, iq_1_m4, iq_1_m3, iq_1_m2, iq_1_m1, iq_1_0, iq_1_2, iq_1_3, iq_1_4, iq_1_5, iq_2_m6, iq_2_m5, iq_2_m4, iq_2_m3, iq_2_m2, iq_2_m1, iq_2_0, iq_2_1, iq_2_3, iq_2_4, iq_2_5, iq_3_m6, iq_3_m5, iq_3_m4, iq_3_m3, iq_3_m2, iq_3_m1, iq_3_0, iq_3_1, iq_3_2, iq_3_4, iq_3_5, iq_4_m6, iq_4_m5, iq_4_m4, iq_4_m3, iq_4_m2, iq_4_m1, iq_4_0, iq_4_1, iq_4_2, iq_4_3, iq_4_5, iq_5_m6, iq_5_m5, iq_5_m4, iq_5_m3, iq_5_m2, iq_5_m1, iq_5_0, iq_5_1, iq_5_2, iq_5_3, iq_5_4, lk_204, lr_204_17, la_215, c1, c2, h8, e0]
/-- what balance leaves as it was -/
def hBF (S : Nat) (K L K' L' : hf_M) : Prop := (∀ d, d ≠ S → d ≠ S + 8 → d ≠ S + 9 → d ≠ S + 10 → d ≠ S + 11 → K' d = K d) ∧ (∀ j, j ≠ 13 → j ≠ 14 → K' S j = K S j) ∧ (∀ d, d ≠ 215 → L' d = L d) ∧ (∀ x, x < 1792 ∨ 1816 ≤ x → x ≠ 1818 → x ≠ 1822 → x ≠ 1823 → L' 215 x = L 215 x)
theorem bal_q {N r S : Nat} {K L : hf_M} (hN : 4096 ≤ N) (hr : r ≤ 16) (hS : hsc S) (h : hr_str r K S L 215 0) (hw : ∃ w, w < 2 ^ 29 ∧ K (S + 11) 0 = nI w) (h13 : K S 13 = L 215 1822) (h14 : K S 14 = L 215 1823) : ∃ K' L', fX4_balance N [.ref S] K = some (none, K') ∧ fX8_balance N [.ref 204] L = some (none, L') ∧ hr_str r K' S L' 215 0 ∧ K' S 13 = L' 215 1822 ∧ K' S 14 = L' 215 1823 ∧ hBF S K L K' L' := by
  have hSb := hsc_b hS
  obtain ⟨k, a, k1, k8, a0, ak, am, h3, h8, hst⟩ := id h
  simp only [Nat.zero_add] at h8 hst
  have hal : ∀ i, i ≤ k → a i ≤ 16 := fun i hi => by have := a_mono am k i hi (Nat.le_refl _); omega
  have hW : ∀ j, j < k → K (S + 11) j = hp_wm L j := fun j hj => (hst j hj).2.2.2.2
  obtain ⟨m, hm⟩ : ∃ m, m = hp_sum (K (S + 11)) k 0 0 / nI k := ⟨_, rfl⟩
  have hm2 : hp_sum (hp_wm L) k 0 0 / nI k = m := by rw [hm, hp_sum_congr (g := K (S + 11)) (g' := hp_wm L) k 0 0 (fun j _ hj => hW j (by omega))]
  have em : fX5_meanWork N [.ref (S + 8)] K = some (some (Value.int m), K) := by rw [hm]; exact mw_c hN hS k1 k8 h3
  obtain ⟨b, hb⟩ : ∃ b, b = hp_mx (K (S + 11)) (k - 1) 1 0 := ⟨_, rfl⟩
  have hbk : b < k := by rw [hb]; exact hp_mx_lt (k - 1) 1 0 (by omega) (by omega)
  have hb2 : hp_mx (hp_wm L) k 0 0 = b := by
    obtain ⟨k', rfl⟩ : ∃ y, k = y + 1 := ⟨k - 1, by omega⟩
    rw [hb, ← hp_mx_congr (g := K (S + 11)) (g' := hp_wm L) (m := k' + 1) hW (k' + 1) 0 0 (by omega) (by omega)]
    show hp_mx (K (S + 11)) k' 1 (if K (S + 11) 0 ≤ K (S + 11) 0 then 0 else 0) = _
    rw [if_pos (Int32.le_refl _)]; rfl
  obtain ⟨f', e16⟩ := b6_l (N := N) (J := L) k8 (.long 0) (.long 0) (.long 0) (.long 0) k 0 0 N 0 (by omega) (by omega) (by omega)
  rw [hb2] at e16
  obtain ⟨fc, eb⟩ := sb_l (N := N) (K := K) hS k8 h3 (k - 1) 1 0 N (by omega) (by omega) (by omega)
  rw [← hb] at eb
  have hsb : fX5_splitBusiest N [.ref (S + 8)] K = BX5_splitBusiest_4 N (fc + 1) [.ref (S + 8), .int (nI b), .int (nI k)] [] K := eb
  have hmb : fX8_balance N [.ref 204] L = BX8_balance_16 N (f' + 1) [.ref 204, .int (nI k), .int (hp_sum (hp_wm L) k 0 0), .int (nI b), .int (nI k), .long 0, .long 0, .long 0, .long 0] [] L := (mb_s h8).trans e16
  obtain ⟨s1, s2, s3, s4, s5⟩ := hst b hbk
  have hab := am b hbk
  have er : fX5_rowsOf N [.ref (S + 8), .int (nI b)] K = some (some (Value.int (nI (a (b + 1) - a b))), K) := by
    have := ro_c (N := N) (K := K) (i := b) hS (by omega) s1 s2 (by omega)
    rw [Nat.sub_add_cancel (by omega)] at this
    exact this
  have q1 := hal b (by omega)
  have q2 := hal (b + 1) (by omega)
  by_cases hsplit : ¬ K (S + 11) b ≤ 2 * m ∧ 2 ≤ a (b + 1) - a b ∧ k < 8
  · obtain ⟨p1, p2, p3⟩ := hsplit
    have hk2 : 2 ≤ k := by
      rcases Nat.lt_or_ge k 2 with z | z
      · exfalso
        have hk1 : k = 1 := by omega
        subst hk1
        have hb0 : b = 0 := by omega
        subst hb0
        obtain ⟨w, w1, w2⟩ := hw
        apply p1
        have : m = nI w := by
          rw [hm]
          show (0 + K (S + 11) 0) / nI 1 = _
          rw [w2, Int32.zero_add, pk_div (by omega) (by decide) (by decide), Nat.div_one]
        rw [this, w2, (by rfl : (2 : Int32) = nI 2), pk_mul]
        exact nI_le (by omega) (by omega)
      · exact z
    obtain ⟨kk, rfl⟩ : ∃ y, k = y + 1 := ⟨k - 1, by omega⟩
    -- the class
    obtain ⟨f2, Kl, el, l1, l2⟩ := sp_l (N := N) (b := b) hS (kk + 1 - b) N K (by omega) (by omega)
    rw [show b + (kk + 1 - b) = kk + 1 by omega] at el l1
    have l9 : Kl (S + 9) b = nI (a b) := by rw [(l1 9 (Or.inl rfl)).2 b (by omega)]; exact s1
    have l10 : Kl (S + 10) b = nI (a (b + 1) - 1) := by rw [(l1 10 (Or.inr (Or.inl rfl))).2 b (by omega)]; exact s2
    have e1 := sp_1 (N := N) (f := f2) (k := kk + 1) hS p3 (by rw [l2 (S + 8) (by omega) (by omega) (by omega)]; exact h3) hbk l9 l10 (by omega) (by omega)
    have es : fX5_split N [.ref (S + 8), .int (nI b)] K = some (none, _) := (sl_e hS h3).trans (el.trans e1)
    have ec := bc_1 hS h3 hk2 k8 (hsb.trans (sx_3 hS p3 h3 hbk em (eq_false p1) er p2 (by omega) es))
    -- the reference
    have hx := bx_3 (N := N) (f := f') (n := kk) (b := b) (x := a b) (y := a (b + 1) - 1) (al := hp_sum (hp_wm L) (kk + 1) 0 0) (J := L) (u5 := .long 0) (u6 := .long 0) (u7 := .long 0) (u8 := .long 0) (by omega) hbk s3 s4 (by omega) (by omega) (eq_false (by
      rw [hm2]
      have : L 215 (1792 + 3 * b + 2) = K (S + 11) b := s5.symm
      rw [this]
      exact p1)) (by omega)
    obtain ⟨f3, Jl, e3, m1, m2, m3⟩ := sq_l (N := N) (n := kk + 1) (b := b) (al := hp_sum (hp_wm L) (kk + 1) 0 0) (m := hp_sum (hp_wm L) (kk + 1) 0 0 / nI (kk + 1)) (x := nI (a b)) (y := nI (a (b + 1) - 1)) (u8 := .long 0) (3 * kk + 2 - 3 * b) N L (by omega) (by omega)
    rw [show 3 * b + (3 * kk + 2 - 3 * b) = 3 * kk + 2 by omega] at e3
    have e4 := sq_1 (N := N) (f := f3) (n := kk + 1) (b := b) (x := a b) (y := a (b + 1) - 1) (al := hp_sum (hp_wm L) (kk + 1) 0 0) (m := hp_sum (hp_wm L) (kk + 1) 0 0 / nI (kk + 1)) (v := nI (3 * b) + (-1)) (J := Jl) (u8 := .long 0) (by omega) (by omega) (by omega) (m1_l (by omega))
    have et := hmb.trans (hx.trans (e3.trans e4))
    have hU : a b + (a (b + 1) - 1 + 1 - a b) / 2 = a b + (a (b + 1) - a b) / 2 := by rw [Nat.sub_add_cancel (by omega)]
    rw [hU] at ec et
    refine ⟨_, _, ec, et, ⟨kk + 1 + 1, fun j => if j ≤ b then a j else if j = b + 1 then a b + (a (b + 1) - a b) / 2 else a (j - 1), by omega, by omega, ?_, ?_, fun i hi => ?_, ?_, ?_, fun i hi => ?_⟩, ?_, ?_, fun d d0 d1 d2 d3 d4 => ?_, fun j j1 j2 => ?_, fun d hd => ?_, fun x hx1 x1 x2 x3 => ?_⟩
    · simp only []; rw [if_pos (Nat.zero_le _)]; exact a0
    · simp only []; rw [if_neg (by omega), if_neg (by omega)]; exact ak
    · simp only []
      by_cases c1 : i + 1 ≤ b
      · rw [if_pos (by omega), if_pos c1]; exact am i (by omega)
      · by_cases c2 : i = b
        · subst c2; rw [if_pos (Nat.le_refl _), if_neg (by omega), if_pos rfl]; omega
        · by_cases c3 : i = b + 1
          · subst c3; rw [if_neg (by omega), if_pos rfl, if_neg (by omega), if_neg (by omega), Nat.add_sub_cancel]; omega
          · rw [if_neg (by omega), if_neg c3, if_neg (by omega), if_neg (by omega)]
            have := am (i - 1) (by omega)
            rw [Nat.sub_add_cancel (by omega)] at this
            rw [Nat.add_sub_cancel]; exact this
    · simp (disch := omega) only [hw6, hn_ne, ite_true, ite_false, if_true, if_false, reduceIte, Nat.reduceEqDiff, Nat.reduceAdd, Nat.zero_add]
    · simp (disch := omega) only [hw6, hn_ne, ite_true, ite_false, if_true, if_false, reduceIte, Nat.reduceEqDiff, Nat.reduceAdd, Nat.zero_add, Nat.zero_add]
      rw [m2 1818 (by omega), h8]; exact nI_1 _
    · simp only [Nat.zero_add]
      by_cases c1 : i < b
      · obtain ⟨t1, t2, t3, t4, t5⟩ := hst i (by omega)
        rw [if_pos (by omega), if_pos (by omega)]
        simp (disch := omega) only [hw6, hn_ne, ite_true, ite_false, if_true, if_false, reduceIte, Nat.reduceEqDiff, Nat.reduceAdd, Nat.zero_add]
        rw [(l1 9 (Or.inl rfl)).2 i (by omega), (l1 10 (Or.inr (Or.inl rfl))).2 i (by omega), (l1 11 (Or.inr (Or.inr rfl))).2 i (by omega), m2 (1792 + 3 * i) (by omega), m2 (1792 + 3 * i + 1) (by omega), m2 (1792 + 3 * i + 2) (by omega)]
        exact ⟨t1, t2, t3, t4, t5⟩
      · by_cases c2 : i = b
        · subst c2
          rw [if_pos (Nat.le_refl _), if_neg (by omega), if_pos rfl]
          simp (disch := omega) only [hw6, hn_ne, ite_true, ite_false, if_true, if_false, reduceIte, Nat.reduceEqDiff, Nat.reduceAdd, Nat.zero_add]
          rw [m2 (1792 + 3 * i) (by omega)]
          exact ⟨l9, trivial, s3, trivial, rfl⟩
        · by_cases c3 : i = b + 1
          · subst c3
            rw [if_neg (by omega), if_pos rfl, if_neg (by omega), if_neg (by omega), Nat.add_sub_cancel]
            rw [show 1792 + 3 * (b + 1) = 1792 + 3 * b + 3 by omega, show 1792 + 3 * b + 3 + 1 = 1792 + 3 * b + 4 by omega, show 1792 + 3 * b + 3 + 2 = 1792 + 3 * b + 5 by omega]
            simp (disch := omega) only [hw6, hn_ne, ite_true, ite_false, if_true, if_false, reduceIte, Nat.reduceEqDiff, Nat.reduceAdd, Nat.zero_add]
            have u1 := (l1 10 (Or.inr (Or.inl rfl))).1 (b + 1) (by omega) (by omega)
            rw [Nat.add_sub_cancel] at u1
            have u2 := m1 (3 * b + 1) (by omega) (by omega)
            rw [show 1792 + (3 * b + 1) + 3 = 1792 + 3 * b + 4 by omega, show 1792 + (3 * b + 1) = 1792 + 3 * b + 1 by omega] at u2
            rw [u1, u2]
            exact ⟨trivial, s2, trivial, s4, rfl⟩
          · obtain ⟨t1, t2, t3, t4, t5⟩ := hst (i - 1) (by omega)
            rw [Nat.sub_add_cancel (by omega)] at t2 t4
            rw [if_neg (by omega), if_neg c3, if_neg (by omega), if_neg (by omega), Nat.add_sub_cancel]
            simp (disch := omega) only [hw6, hn_ne, ite_true, ite_false, if_true, if_false, reduceIte, Nat.reduceEqDiff, Nat.reduceAdd, Nat.zero_add]
            rw [(l1 9 (Or.inl rfl)).1 i (by omega) (by omega), (l1 10 (Or.inr (Or.inl rfl))).1 i (by omega) (by omega), (l1 11 (Or.inr (Or.inr rfl))).1 i (by omega) (by omega)]
            have u0 := m1 (3 * (i - 1)) (by omega) (by omega)
            have u1 := m1 (3 * (i - 1) + 1) (by omega) (by omega)
            have u2 := m1 (3 * (i - 1) + 2) (by omega) (by omega)
            rw [show 1792 + 3 * (i - 1) + 3 = 1792 + 3 * i by omega] at u0
            rw [show 1792 + (3 * (i - 1) + 1) + 3 = 1792 + 3 * i + 1 by omega, show 1792 + (3 * (i - 1) + 1) = 1792 + 3 * (i - 1) + 1 by omega] at u1
            rw [show 1792 + (3 * (i - 1) + 2) + 3 = 1792 + 3 * i + 2 by omega, show 1792 + (3 * (i - 1) + 2) = 1792 + 3 * (i - 1) + 2 by omega] at u2
            rw [u0, u1, u2]
            exact ⟨t1, t2, t3, t4, t5⟩
    · simp (disch := omega) only [hw6, hn_ne, ite_true, ite_false, if_true, if_false, reduceIte, Nat.reduceEqDiff, Nat.reduceAdd, Nat.zero_add]
      rw [l2 S (by omega) (by omega) (by omega), m2 1822 (by omega), h13]; rfl
    · simp (disch := omega) only [hw6, hn_ne, ite_true, ite_false, if_true, if_false, reduceIte, Nat.reduceEqDiff, Nat.reduceAdd, Nat.zero_add]
      rw [l2 S (by omega) (by omega) (by omega), m2 1823 (by omega)]; exact h14
    · rw [hw_d d0, hw_d d4, hw_d d4, hw_d d2, hw_d d3, hw_d d1]; exact l2 d d2 d3 d4
    · rw [hw_o (Or.inr j1), hw_d (by omega), hw_d (by omega), hw_d (by omega), hw_d (by omega), hw_d (by omega), l2 S (by omega) (by omega) (by omega)]
    · rw [hw_d hd, hw_d hd, hw_d hd, hw_d hd, hw_d hd, hw_d hd]; exact m3 d hd
    · rw [hw_o (Or.inr x2), hw_o (Or.inr x1), hw_o (Or.inr (by omega)), hw_o (Or.inr (by omega)), hw_o (Or.inr (by omega)), hw_o (Or.inr (by omega))]; exact m2 x (by omega)
  · have hc305 : fX8_balance N [.ref 204] L = BX8_balance_308 N N [.ref 204, .int (nI k), .int (hp_sum (hp_wm L) k 0 0), .int (nI b), .int m, .int (nI (a b)), .int (nI (a (b + 1) - 1)), .int (nI 0), .long 0] [] L := by
      rw [hmb, ← hm2]
      have hW2 : L 215 (1792 + 3 * b + 2) = K (S + 11) b := s5.symm
      by_cases p1 : K (S + 11) b ≤ 2 * m
      · exact bx_0 k1 k8 hbk s3 s4 (by omega) (by omega) (eq_true (by rw [hm2, hW2]; exact p1))
      · have p1' : (L 215 (1792 + 3 * b + 2) ≤ nI 2 * (hp_sum (hp_wm L) k 0 0 / nI k)) = False := eq_false (by rw [hm2, hW2]; exact p1)
        by_cases p2 : 2 ≤ a (b + 1) - a b
        · have hk8 : k = 8 := by
            rcases Nat.lt_or_ge k 8 with z | z
            · exact absurd ⟨p1, p2, z⟩ hsplit
            · omega
          subst hk8
          exact bx_2 hbk s3 s4 (by omega) (by omega) p1' (by omega)
        · exact bx_1 k1 k8 hbk s3 s4 (by omega) (by omega) p1' (by omega)
    obtain ⟨j1, j2⟩ := j8_l (N := N) (n := k) (mm := m) (J := L) (a := .int (hp_sum (hp_wm L) k 0 0)) (b := .int (nI b)) (x := .int (nI (a b))) (y := .int (nI (a (b + 1) - 1))) (u8 := .long 0) k8 (k - 1) 0 N (by omega) (by omega)
    rcases Nat.lt_or_ge k 2 with hk2 | hk2
    · have : k = 1 := by omega
      subst this
      exact ⟨K, L, bc_0 hS h3 hk2, hc305.trans (j1 rfl), h, h13, h14, fun _ _ _ _ _ _ => rfl, fun _ _ _ => rfl, fun _ _ => rfl, fun _ _ _ _ _ => rfl⟩
    have es0 : fX5_splitBusiest N [.ref (S + 8)] K = some (some (Value.int 0), K) := by
      rw [hsb]
      by_cases p1 : K (S + 11) b ≤ 2 * m
      · exact sx_0 hS k8 h3 hbk em (eq_true p1)
      · by_cases p2 : 2 ≤ a (b + 1) - a b
        · have hk8 : k = 8 := by
            rcases Nat.lt_or_ge k 8 with z | z
            · exact absurd ⟨p1, p2, z⟩ hsplit
            · omega
          subst hk8
          exact sx_2 hS h3 hbk em (eq_false p1) er p2 (by omega)
        · exact sx_1 hS k8 h3 hbk em (eq_false p1) er (by omega)
    obtain ⟨c1, c2⟩ := ji_l (N := N) (bd := m / 2) (K := K) hS k8 h3 (k - 1) 0 N (by omega) (by omega)
    have hji : hp_ji (hp_wm L) (m / nI 2) (k - 1) 0 = hp_ji (K (S + 11)) (m / 2) (k - 1) 0 := (hp_ji_congr (g := K (S + 11)) (g' := hp_wm L) (bd := m / nI 2) (m := k) hW (k - 1) 0 (by omega)).symm
    have hje := ij_e hS em
    cases ej : hp_ji (K (S + 11)) (m / 2) (k - 1) 0 with
    | none =>
      exact ⟨K, L, bc_2 hS h3 hk2 k8 es0 (hje.trans (c1 ej)), hc305.trans (j1 (hji.trans ej)), h, h13, h14, fun _ _ _ _ _ _ => rfl, fun _ _ _ => rfl, fun _ _ => rfl, fun _ _ _ _ _ => rfl⟩
    | some q =>
      have hq := (hp_ji_lt _ _ _ ej).2
      obtain ⟨kk, rfl⟩ : ∃ y, k = y + 1 := ⟨k - 1, by omega⟩
      obtain ⟨K2, e2, l1, l2, l3, l4⟩ := jn_l (N := N) (i := q) (k := kk) hS (by omega) (kk - (q + 1)) (q + 1) N (hf_w (hf_w K (S + 10) q (K (S + 10) (q + 1))) (S + 11) q 0) (by omega) (by omega) (by rw [hw_d (by omega), hw_d (by omega)]; exact h3)
      have ejo : fX5_join N [.ref (S + 8), .int (nI q)] K = some (none, K2) := (jn_e hS (by omega)).trans e2
      have ec := bc_3 hS h3 hk2 k8 es0 (hje.trans (c2 q K2 ej ejo))
      obtain ⟨f4, e4⟩ := j2 q (hji.trans ej)
      obtain ⟨L2, e5, m1, m2, m3, m4, m5⟩ := j4_l (N := N) (n := kk) (k3 := BX8_balance_308 N f4) (a := .int (hp_sum (hp_wm L) (kk + 1) 0 0)) (b := .int (nI b)) (m := .int m) (x := .int (nI (a b))) (y := .int (nI (a (b + 1) - 1))) (u7 := .int (nI q)) (by omega) (3 * kk - (3 * q + 3)) (3 * q + 3) N (hf_w (hf_w L 215 (1792 + 3 * q + 1) (L 215 (1792 + 3 * q + 4))) 215 (1792 + 3 * q + 2) (nI 0)) (by omega) (by omega) (by rw [hw_o (Or.inr (by omega)), hw_o (Or.inr (by omega))]; exact h8)
      have et := hc305.trans (e4.trans e5)
      refine ⟨_, _, ec, et, ⟨kk, fun j => if j ≤ q then a j else a (j + 1), by omega, by omega, ?_, ?_, fun i hi => ?_, ?_, ?_, fun i hi => ?_⟩, ?_, ?_, fun d d0 d1 d2 d3 d4 => ?_, fun j j1 j2 => ?_, fun d hd => ?_, fun x hx1 x1 x2 x3 => ?_⟩
      · simp only []; rw [if_pos (Nat.zero_le _)]; exact a0
      · simp only []; rw [if_neg (by omega)]; exact ak
      · simp only []
        by_cases z1 : i + 1 ≤ q
        · rw [if_pos (by omega), if_pos z1]; exact am i (by omega)
        · by_cases z2 : i = q
          · subst z2
            rw [if_pos (Nat.le_refl _), if_neg (by omega)]
            have y1 := am i (by omega)
            have y2 := am (i + 1) (by omega)
            omega
          · rw [if_neg (by omega), if_neg (by omega)]; exact am (i + 1) (by omega)
      · rw [hw_d (by omega)]; exact l2
      · rw [Nat.zero_add]; exact m2
      · simp only [Nat.zero_add]
        rw [hw_d (d := S + 9) (by omega), hw_d (d := S + 10) (by omega), hw_d (d := S + 11) (by omega)]
        by_cases z1 : i < q
        · obtain ⟨t1, t2, t3, t4, t5⟩ := hst i (by omega)
          rw [if_pos (by omega), if_pos (by omega), (l1 9 (Or.inl rfl)).2 i (by omega), (l1 10 (Or.inr (Or.inl rfl))).2 i (by omega), (l1 11 (Or.inr (Or.inr rfl))).2 i (by omega), m4 (1792 + 3 * i) (Or.inl (by omega)) (by omega) (by omega), m4 (1792 + 3 * i + 1) (Or.inl (by omega)) (by omega) (by omega), m4 (1792 + 3 * i + 2) (Or.inl (by omega)) (by omega) (by omega)]
          simp (disch := omega) only [hw6, hn_ne, ite_true, ite_false, if_true, if_false, reduceIte, Nat.reduceEqDiff, Nat.reduceAdd, Nat.zero_add]
          exact ⟨t1, t2, t3, t4, t5⟩
        · by_cases z2 : i = q
          · subst z2
            obtain ⟨t1, t2, t3, t4, t5⟩ := hst i (by omega)
            obtain ⟨v1, v2, v3, v4, v5⟩ := hst (i + 1) (by omega)
            rw [if_pos (Nat.le_refl _), if_neg (by omega), (l1 9 (Or.inl rfl)).2 i (by omega), (l1 10 (Or.inr (Or.inl rfl))).2 i (by omega), (l1 11 (Or.inr (Or.inr rfl))).2 i (by omega), m4 (1792 + 3 * i) (Or.inl (by omega)) (by omega) (by omega), m4 (1792 + 3 * i + 1) (Or.inl (by omega)) (by omega) (by omega), m4 (1792 + 3 * i + 2) (Or.inl (by omega)) (by omega) (by omega)]
            simp (disch := omega) only [hw6, hn_ne, ite_true, ite_false, if_true, if_false, reduceIte, Nat.reduceEqDiff, Nat.reduceAdd, Nat.zero_add]
            rw [show 1792 + 3 * (i + 1) + 1 = 1792 + 3 * i + 4 by omega] at v4
            exact ⟨t1, v2, t3, v4, rfl⟩
          · obtain ⟨t1, t2, t3, t4, t5⟩ := hst (i + 1) (by omega)
            have u0 := m1 (3 * i) (by omega) (by omega)
            have u1 := m1 (3 * i + 1) (by omega) (by omega)
            have u2 := m1 (3 * i + 2) (by omega) (by omega)
            rw [show 1792 + (3 * i + 1) + 3 = 1792 + 3 * (i + 1) + 1 by omega, show 1792 + (3 * i + 1) = 1792 + 3 * i + 1 by omega] at u1
            rw [show 1792 + (3 * i + 2) + 3 = 1792 + 3 * (i + 1) + 2 by omega, show 1792 + (3 * i + 2) = 1792 + 3 * i + 2 by omega] at u2
            rw [show 1792 + 3 * i + 3 = 1792 + 3 * (i + 1) by omega] at u0
            rw [if_neg (by omega), if_neg (by omega), (l1 9 (Or.inl rfl)).1 i (by omega) hi, (l1 10 (Or.inr (Or.inl rfl))).1 i (by omega) hi, (l1 11 (Or.inr (Or.inr rfl))).1 i (by omega) hi, u0, u1, u2]
            simp (disch := omega) only [hw6, hn_ne, ite_true, ite_false, if_true, if_false, reduceIte, Nat.reduceEqDiff, Nat.reduceAdd, Nat.zero_add]
            exact ⟨t1, t2, t3, t4, t5⟩
      · rw [hw_o (Or.inr (by decide)), l4 S (by omega) (by omega) (by omega) (by omega), m4 1822 (Or.inr (by omega)) (by decide) (by decide)]
        simp (disch := omega) only [hw6, hn_ne, ite_true, ite_false, if_true, if_false, reduceIte, Nat.reduceEqDiff, Nat.reduceAdd, Nat.zero_add]
        exact h13
      · rw [hw_s, l4 S (by omega) (by omega) (by omega) (by omega), m3]
        simp (disch := omega) only [hw6, hn_ne, ite_true, ite_false, if_true, if_false, reduceIte, Nat.reduceEqDiff, Nat.reduceAdd, Nat.zero_add]
        rw [h14]; rfl
      · rw [hw_d d0, l4 d d1 d2 d3 d4, hw_d d4, hw_d d3]
      · rw [hw_o (Or.inr j2), l4 S (by omega) (by omega) (by omega) (by omega), hw_d (by omega), hw_d (by omega)]
      · rw [m5 d hd, hw_d hd, hw_d hd]
      · rw [m4 x (by omega) x1 x3, hw_o (Or.inr (by omega)), hw_o (Or.inr (by omega))]
