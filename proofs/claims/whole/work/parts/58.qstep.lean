/-! step -/
theorem sky_c {I I' J J' : hf_M} (hI : ∀ d, 12 ≤ d → d ≤ 14 → I' d = I d) (hJ : ∀ d, 204 ≤ d → d ≤ 212 → J' d = J d) (h : hr_sky I J) : hr_sky I' J' := by
  unfold hr_sky at h ⊢
  rw [hI 12 (by decide) (by decide), hI 13 (by decide) (by decide), hI 14 (by decide) (by decide), hJ 204 (by decide) (by decide), hJ 209 (by decide) (by decide), hJ 210 (by decide) (by decide), hJ 211 (by decide) (by decide), hJ 212 (by decide) (by decide)]
  exact h
theorem lit_c {r c : Nat} {I I' J J' : hf_M} (hI : ∀ d, 15 ≤ d → d ≤ 17 → I' d = I d) (hJ : ∀ d, d = 204 ∨ d = 213 ∨ d = 214 → J' d = J d) (h : hr_lit r c I J) : hr_lit r c I' J' := by
  unfold hr_lit at h ⊢
  rw [hI 15 (by decide) (by decide), hI 16 (by decide) (by decide), hI 17 (by decide) (by decide), hJ 204 (by omega), hJ 213 (by omega), hJ 214 (by omega)]
  exact h
/-- what stays while scene S is stepped -/
def hSt (r c S s0 : Nat) (I0 J0 I J : hf_M) (i : Nat) : Prop := (∀ d, d ≠ 18 → d ≠ 19 → d ≠ 20 → d ≠ 21 → d < S ∨ S + 36 ≤ d → I d = I0 d) ∧ (∀ d, d ≠ 215 → d ≠ 218 → d ≠ 219 → d ≠ 220 → J d = J0 d) ∧ hr_sc r c I S J 215 0 ∧ (∀ n, n < 256 → I 20 n = 0 ∧ I 21 n = 0) ∧ I S 9 = nI (s0 + i) ∧ (i = 0 → I = I0)
theorem st_n {N r c S s0 i : Nat} {I0 J0 I J : hf_M} (hN : 4096 ≤ N) (hS : hsc S) (hl : hr_land r c I0 J0) (hk : hr_sky I0 J0) (hli : hr_lit r c I0 J0) (ho : hr_one I0 J0) (h : hSt r c S s0 I0 J0 I J i) : ∃ I' J', fX7_work N [.ref 6, .ref S] I = some (none, I') ∧ fX8_step1 N [.ref 204] J = some (none, J') ∧ hSt r c S s0 I0 J0 I' J' (i + 1) := by
  have hb := hsc_b hS
  obtain ⟨h1, h2, h3, h4, h5, h6⟩ := h
  obtain ⟨I', J', e1, e2, e3, e4, e5, e6, e7⟩ := work_q hN hS (land_c (fun d d1 d2 => h1 d (by omega) (by omega) (by omega) (by omega) (by omega)) (fun d d1 d2 => h2 d (by omega) (by omega) (by omega) (by omega)) hl) (sky_c (fun d d1 d2 => h1 d (by omega) (by omega) (by omega) (by omega) (by omega)) (fun d d1 d2 => h2 d (by omega) (by omega) (by omega) (by omega)) hk) (lit_c (fun d d1 d2 => h1 d (by omega) (by omega) (by omega) (by omega) (by omega)) (fun d d1 => h2 d (by omega) (by omega) (by omega) (by omega)) hli) h3 ⟨by rw [h1 6 (by decide) (by decide) (by decide) (by decide) (by omega), h2 204 (by decide) (by decide) (by decide) (by decide)]; exact ho.1, by rw [h1 6 (by decide) (by decide) (by decide) (by decide) (by omega), h2 204 (by decide) (by decide) (by decide) (by decide)]; exact ho.2.1, by rw [h1 6 (by decide) (by decide) (by decide) (by decide) (by omega)]; exact ho.2.2.1, h4⟩
  refine ⟨I', J', e1, e2, fun d d1 d2 d3 d4 d5 => ?_, fun d d1 d2 d3 d4 => ?_, e3, e5, ?_, fun z => by omega⟩
  · rw [e6 d d1 d2 d3 d4 d5]; exact h1 d d1 d2 d3 d4 d5
  · rw [e7 d d1 d2 d3 d4]; exact h2 d d1 d2 d3 d4
  · rw [e4, h5]; exact nI_1 _
set_option maxRecDepth 100000 in
theorem ts_c {N f m i : Nat} {I I' : hf_M} (hm : m ≤ 500) (hi : i < m) (e : fX7_work N [.ref 6, .ref 22] I = some (none, I')) : BX7_step_16 N (f + 1) [.ref 6, .int (nI m), .int (nI i)] [] I = BX7_step_16 N f [.ref 6, .int (nI m), .int (nI (i + 1))] [] I' := by
  simp (disch := omega) only [BX7_step_16, r_iload, r_aload, r_istore, r_astore, r_iinc, r_const, r_dupi, r_dupr, r_dup2, r_goto, r_iadd, r_isub, r_imul, r_iand, r_ixor, r_iushr, r_idiv, r_irem, r_ifeq, r_icmpeq, r_ifne, r_icmpne, r_iflt, r_icmplt, r_ifge, r_icmpge, r_ifgt, r_icmpgt, r_ifle, r_icmple, r_tsw, r_getI, r_getR, r_putI, r_putZ, r_iald, r_iast, r_aald, r_gets, r_copy, r_iret, r_zret, r_vret, r_mmax, r_mmin, r_callV, r_callS, r_fn, hf_pop, List.getElem?_cons_zero, List.getElem?_cons_succ, List.set_cons_zero, List.set_cons_succ, List.replicate_succ, List.replicate_zero, List.cons_append, List.nil_append, List.append_nil, List.length_cons, List.length_nil, List.take_succ_cons, List.take_zero, List.drop_succ_cons, List.drop_zero, List.reverse_cons, List.reverse_nil, List.map_cons, List.map_nil, List.sum_cons, List.sum_nil, List.all_cons, List.all_nil, Option.toList_some, Option.toList_none, Value.category, Nat.reduceAdd, Nat.reduceSub, Nat.reduceLeDiff, Nat.reduceMul, Nat.reduceLT, Nat.reduceEqDiff, beq_self_eq_true, Bool.and_self, Bool.and_true, and_self, and_true, true_and, ite_true, ite_false, if_true, if_false, ↓reduceIte, true_or, or_true, Nat.zero_add, Nat.le_refl, Nat.zero_le, not_false_eq_true, eq_self, true_implies, Int32.reduceLT, Int32.reduceLE, Int32.reduceGT, hf_rd6, hw6, iq_m6_m5, iq_m6_m4, iq_m6_m3, iq_m6_m2, iq_m6_m1, iq_m6_0, iq_m6_1, iq_m6_2, iq_m6_3, iq_m6_4, iq_m6_5, iq_m5_m6, iq_m5_m4, iq_m5_m3, iq_m5_m2, iq_m5_m1, iq_m5_0, iq_m5_1, iq_m5_2, iq_m5_3, iq_m5_4, iq_m5_5, iq_m4_m6, iq_m4_m5, iq_m4_m3, iq_m4_m2, iq_m4_m1, iq_m4_0, iq_m4_1, iq_m4_2, iq_m4_3, iq_m4_4, iq_m4_5, iq_m3_m6, iq_m3_m5, iq_m3_m4, iq_m3_m2, iq_m3_m1, iq_m3_0, iq_m3_1, iq_m3_2, iq_m3_3, iq_m3_4, iq_m3_5, iq_m2_m6, iq_m2_m5, iq_m2_m4, iq_m2_m3, iq_m2_m1, iq_m2_0, iq_m2_1, iq_m2_2, iq_m2_3, iq_m2_4, iq_m2_5, iq_m1_m6, iq_m1_m5, iq_m1_m4, iq_m1_m3, iq_m1_m2, iq_m1_0, iq_m1_1, iq_m1_2, iq_m1_3, iq_m1_4, iq_m1_5, iq_0_m6, iq_0_m5, iq_0_m4, iq_0_m3, iq_0_m2, iq_0_m1, iq_0_1, iq_0_2, iq_0_3, iq_0_4, iq_0_5, iq_1_m6, iq_1_m5, iq_1_m4, iq_1_m3, iq_1_m2, iq_1_m1, iq_1_0, iq_1_2, iq_1_3, iq_1_4, iq_1_5, iq_2_m6, iq_2_m5, iq_2_m4, iq_2_m3, iq_2_m2, iq_2_m1, iq_2_0, iq_2_1, iq_2_3, iq_2_4, iq_2_5, iq_3_m6, iq_3_m5, iq_3_m4, iq_3_m3, iq_3_m2, iq_3_m1, iq_3_0, iq_3_1, iq_3_2, iq_3_4, iq_3_5, iq_4_m6, iq_4_m5, iq_4_m4, iq_4_m3, iq_4_m2, iq_4_m1, iq_4_0, iq_4_1, iq_4_2, iq_4_3, iq_4_5, iq_5_m6, iq_5_m5, iq_5_m4, iq_5_m3, iq_5_m2, iq_5_m1, iq_5_0, iq_5_1, iq_5_2, iq_5_3, iq_5_4, lk_6, lr_6_4, hx_nle, e, nI_p1]
set_option maxRecDepth 100000 in
theorem ts_m {N f m i : Nat} {J J' : hf_M} (hm : m ≤ 500) (hi : i < m) (e : fX8_step1 N [.ref 204] J = some (none, J')) : BX8_step_16 N (f + 1) [.ref 204, .int (nI m), .int (nI i)] [] J = BX8_step_16 N f [.ref 204, .int (nI m), .int (nI (i + 1))] [] J' := by
  simp (disch := omega) only [BX8_step_16, r_iload, r_aload, r_istore, r_astore, r_iinc, r_const, r_dupi, r_dupr, r_dup2, r_goto, r_iadd, r_isub, r_imul, r_iand, r_ixor, r_iushr, r_idiv, r_irem, r_ifeq, r_icmpeq, r_ifne, r_icmpne, r_iflt, r_icmplt, r_ifge, r_icmpge, r_ifgt, r_icmpgt, r_ifle, r_icmple, r_tsw, r_getI, r_getR, r_putI, r_putZ, r_iald, r_iast, r_aald, r_gets, r_copy, r_iret, r_zret, r_vret, r_mmax, r_mmin, r_callV, r_callS, r_fn, hf_pop, List.getElem?_cons_zero, List.getElem?_cons_succ, List.set_cons_zero, List.set_cons_succ, List.replicate_succ, List.replicate_zero, List.cons_append, List.nil_append, List.append_nil, List.length_cons, List.length_nil, List.take_succ_cons, List.take_zero, List.drop_succ_cons, List.drop_zero, List.reverse_cons, List.reverse_nil, List.map_cons, List.map_nil, List.sum_cons, List.sum_nil, List.all_cons, List.all_nil, Option.toList_some, Option.toList_none, Value.category, Nat.reduceAdd, Nat.reduceSub, Nat.reduceLeDiff, Nat.reduceMul, Nat.reduceLT, Nat.reduceEqDiff, beq_self_eq_true, Bool.and_self, Bool.and_true, and_self, and_true, true_and, ite_true, ite_false, if_true, if_false, ↓reduceIte, true_or, or_true, Nat.zero_add, Nat.le_refl, Nat.zero_le, not_false_eq_true, eq_self, true_implies, Int32.reduceLT, Int32.reduceLE, Int32.reduceGT, hf_rd6, hw6, iq_m6_m5, iq_m6_m4, iq_m6_m3, iq_m6_m2, iq_m6_m1, iq_m6_0, iq_m6_1, iq_m6_2, iq_m6_3, iq_m6_4, iq_m6_5, iq_m5_m6, iq_m5_m4, iq_m5_m3, iq_m5_m2, iq_m5_m1, iq_m5_0, iq_m5_1, iq_m5_2, iq_m5_3, iq_m5_4, iq_m5_5, iq_m4_m6, iq_m4_m5, iq_m4_m3, iq_m4_m2, iq_m4_m1, iq_m4_0, iq_m4_1, iq_m4_2, iq_m4_3, iq_m4_4, iq_m4_5, iq_m3_m6, iq_m3_m5, iq_m3_m4, iq_m3_m2, iq_m3_m1, iq_m3_0, iq_m3_1, iq_m3_2, iq_m3_3, iq_m3_4, iq_m3_5, iq_m2_m6, iq_m2_m5, iq_m2_m4, iq_m2_m3, iq_m2_m1, iq_m2_0, iq_m2_1, iq_m2_2, iq_m2_3, iq_m2_4, iq_m2_5, iq_m1_m6, iq_m1_m5, iq_m1_m4, iq_m1_m3, iq_m1_m2, iq_m1_0, iq_m1_1, iq_m1_2, iq_m1_3, iq_m1_4, iq_m1_5, iq_0_m6, iq_0_m5, iq_0_m4, iq_0_m3, iq_0_m2, iq_0_m1, iq_0_1, iq_0_2, iq_0_3, iq_0_4, iq_0_5, iq_1_m6, iq_1_m5, iq_1_m4, iq_1_m3, iq_1_m2, iq_1_m1, iq_1_0, iq_1_2, iq_1_3, iq_1_4, iq_1_5, iq_2_m6, iq_2_m5, iq_2_m4, iq_2_m3, iq_2_m2, iq_2_m1, iq_2_0, iq_2_1, iq_2_3, iq_2_4, iq_2_5, iq_3_m6, iq_3_m5, iq_3_m4, iq_3_m3, iq_3_m2, iq_3_m1, iq_3_0, iq_3_1, iq_3_2, iq_3_4, iq_3_5, iq_4_m6, iq_4_m5, iq_4_m4, iq_4_m3, iq_4_m2, iq_4_m1, iq_4_0, iq_4_1, iq_4_2, iq_4_3, iq_4_5, iq_5_m6, iq_5_m5, iq_5_m4, iq_5_m3, iq_5_m2, iq_5_m1, iq_5_0, iq_5_1, iq_5_2, iq_5_3, iq_5_4, lk_204, hx_nle, e, nI_p1]
set_option maxRecDepth 100000 in
theorem ts_ce {N f m : Nat} {I : hf_M} (hm : m ≤ 500) : BX7_step_16 N (f + 1) [.ref 6, .int (nI m), .int (nI m)] [] I = some (some (Value.int (I 22 9)), I) := by
  simp (disch := omega) only [BX7_step_16, r_iload, r_aload, r_istore, r_astore, r_iinc, r_const, r_dupi, r_dupr, r_dup2, r_goto, r_iadd, r_isub, r_imul, r_iand, r_ixor, r_iushr, r_idiv, r_irem, r_ifeq, r_icmpeq, r_ifne, r_icmpne, r_iflt, r_icmplt, r_ifge, r_icmpge, r_ifgt, r_icmpgt, r_ifle, r_icmple, r_tsw, r_getI, r_getR, r_putI, r_putZ, r_iald, r_iast, r_aald, r_gets, r_copy, r_iret, r_zret, r_vret, r_mmax, r_mmin, r_callV, r_callS, r_fn, hf_pop, List.getElem?_cons_zero, List.getElem?_cons_succ, List.set_cons_zero, List.set_cons_succ, List.replicate_succ, List.replicate_zero, List.cons_append, List.nil_append, List.append_nil, List.length_cons, List.length_nil, List.take_succ_cons, List.take_zero, List.drop_succ_cons, List.drop_zero, List.reverse_cons, List.reverse_nil, List.map_cons, List.map_nil, List.sum_cons, List.sum_nil, List.all_cons, List.all_nil, Option.toList_some, Option.toList_none, Value.category, Nat.reduceAdd, Nat.reduceSub, Nat.reduceLeDiff, Nat.reduceMul, Nat.reduceLT, Nat.reduceEqDiff, beq_self_eq_true, Bool.and_self, Bool.and_true, and_self, and_true, true_and, ite_true, ite_false, if_true, if_false, ↓reduceIte, true_or, or_true, Nat.zero_add, Nat.le_refl, Nat.zero_le, not_false_eq_true, eq_self, true_implies, Int32.reduceLT, Int32.reduceLE, Int32.reduceGT, hf_rd6, hw6, iq_m6_m5, iq_m6_m4, iq_m6_m3, iq_m6_m2, iq_m6_m1, iq_m6_0, iq_m6_1, iq_m6_2, iq_m6_3, iq_m6_4, iq_m6_5, iq_m5_m6, iq_m5_m4, iq_m5_m3, iq_m5_m2, iq_m5_m1, iq_m5_0, iq_m5_1, iq_m5_2, iq_m5_3, iq_m5_4, iq_m5_5, iq_m4_m6, iq_m4_m5, iq_m4_m3, iq_m4_m2, iq_m4_m1, iq_m4_0, iq_m4_1, iq_m4_2, iq_m4_3, iq_m4_4, iq_m4_5, iq_m3_m6, iq_m3_m5, iq_m3_m4, iq_m3_m2, iq_m3_m1, iq_m3_0, iq_m3_1, iq_m3_2, iq_m3_3, iq_m3_4, iq_m3_5, iq_m2_m6, iq_m2_m5, iq_m2_m4, iq_m2_m3, iq_m2_m1, iq_m2_0, iq_m2_1, iq_m2_2, iq_m2_3, iq_m2_4, iq_m2_5, iq_m1_m6, iq_m1_m5, iq_m1_m4, iq_m1_m3, iq_m1_m2, iq_m1_0, iq_m1_1, iq_m1_2, iq_m1_3, iq_m1_4, iq_m1_5, iq_0_m6, iq_0_m5, iq_0_m4, iq_0_m3, iq_0_m2, iq_0_m1, iq_0_1, iq_0_2, iq_0_3, iq_0_4, iq_0_5, iq_1_m6, iq_1_m5, iq_1_m4, iq_1_m3, iq_1_m2, iq_1_m1, iq_1_0, iq_1_2, iq_1_3, iq_1_4, iq_1_5, iq_2_m6, iq_2_m5, iq_2_m4, iq_2_m3, iq_2_m2, iq_2_m1, iq_2_0, iq_2_1, iq_2_3, iq_2_4, iq_2_5, iq_3_m6, iq_3_m5, iq_3_m4, iq_3_m3, iq_3_m2, iq_3_m1, iq_3_0, iq_3_1, iq_3_2, iq_3_4, iq_3_5, iq_4_m6, iq_4_m5, iq_4_m4, iq_4_m3, iq_4_m2, iq_4_m1, iq_4_0, iq_4_1, iq_4_2, iq_4_3, iq_4_5, iq_5_m6, iq_5_m5, iq_5_m4, iq_5_m3, iq_5_m2, iq_5_m1, iq_5_0, iq_5_1, iq_5_2, iq_5_3, iq_5_4, lk_6, lr_6_4, lk_22, hx_le]
set_option maxRecDepth 100000 in
theorem ts_me {N f m : Nat} {J : hf_M} (hm : m ≤ 500) : BX8_step_16 N (f + 1) [.ref 204, .int (nI m), .int (nI m)] [] J = some (some (Value.int (J 215 1816)), J) := by
  have c1 : (1816 : Int32).toNatClampNeg = 1816 := nI_clamp (n := 1816) (by decide)
  have c2 : hf_in 1816 1824 = True := hf_inI (k := 1816) (by decide) (by decide)
  simp (disch := omega) only [BX8_step_16, r_iload, r_aload, r_istore, r_astore, r_iinc, r_const, r_dupi, r_dupr, r_dup2, r_goto, r_iadd, r_isub, r_imul, r_iand, r_ixor, r_iushr, r_idiv, r_irem, r_ifeq, r_icmpeq, r_ifne, r_icmpne, r_iflt, r_icmplt, r_ifge, r_icmpge, r_ifgt, r_icmpgt, r_ifle, r_icmple, r_tsw, r_getI, r_getR, r_putI, r_putZ, r_iald, r_iast, r_aald, r_gets, r_copy, r_iret, r_zret, r_vret, r_mmax, r_mmin, r_callV, r_callS, r_fn, hf_pop, List.getElem?_cons_zero, List.getElem?_cons_succ, List.set_cons_zero, List.set_cons_succ, List.replicate_succ, List.replicate_zero, List.cons_append, List.nil_append, List.append_nil, List.length_cons, List.length_nil, List.take_succ_cons, List.take_zero, List.drop_succ_cons, List.drop_zero, List.reverse_cons, List.reverse_nil, List.map_cons, List.map_nil, List.sum_cons, List.sum_nil, List.all_cons, List.all_nil, Option.toList_some, Option.toList_none, Value.category, Nat.reduceAdd, Nat.reduceSub, Nat.reduceLeDiff, Nat.reduceMul, Nat.reduceLT, Nat.reduceEqDiff, beq_self_eq_true, Bool.and_self, Bool.and_true, and_self, and_true, true_and, ite_true, ite_false, if_true, if_false, ↓reduceIte, true_or, or_true, Nat.zero_add, Nat.le_refl, Nat.zero_le, not_false_eq_true, eq_self, true_implies, Int32.reduceLT, Int32.reduceLE, Int32.reduceGT, hf_rd6, hw6, iq_m6_m5, iq_m6_m4, iq_m6_m3, iq_m6_m2, iq_m6_m1, iq_m6_0, iq_m6_1, iq_m6_2, iq_m6_3, iq_m6_4, iq_m6_5, iq_m5_m6, iq_m5_m4, iq_m5_m3, iq_m5_m2, iq_m5_m1, iq_m5_0, iq_m5_1, iq_m5_2, iq_m5_3, iq_m5_4, iq_m5_5, iq_m4_m6, iq_m4_m5, iq_m4_m3, iq_m4_m2, iq_m4_m1, iq_m4_0, iq_m4_1, iq_m4_2, iq_m4_3, iq_m4_4, iq_m4_5, iq_m3_m6, iq_m3_m5, iq_m3_m4, iq_m3_m2, iq_m3_m1, iq_m3_0, iq_m3_1, iq_m3_2, iq_m3_3, iq_m3_4, iq_m3_5, iq_m2_m6, iq_m2_m5, iq_m2_m4, iq_m2_m3, iq_m2_m1, iq_m2_0, iq_m2_1, iq_m2_2, iq_m2_3, iq_m2_4, iq_m2_5, iq_m1_m6, iq_m1_m5, iq_m1_m4, iq_m1_m3, iq_m1_m2, iq_m1_0, iq_m1_1, iq_m1_2, iq_m1_3, iq_m1_4, iq_m1_5, iq_0_m6, iq_0_m5, iq_0_m4, iq_0_m3, iq_0_m2, iq_0_m1, iq_0_1, iq_0_2, iq_0_3, iq_0_4, iq_0_5, iq_1_m6, iq_1_m5, iq_1_m4, iq_1_m3, iq_1_m2, iq_1_m1, iq_1_0, iq_1_2, iq_1_3, iq_1_4, iq_1_5, iq_2_m6, iq_2_m5, iq_2_m4, iq_2_m3, iq_2_m2, iq_2_m1, iq_2_0, iq_2_1, iq_2_3, iq_2_4, iq_2_5, iq_3_m6, iq_3_m5, iq_3_m4, iq_3_m3, iq_3_m2, iq_3_m1, iq_3_0, iq_3_1, iq_3_2, iq_3_4, iq_3_5, iq_4_m6, iq_4_m5, iq_4_m4, iq_4_m3, iq_4_m2, iq_4_m1, iq_4_0, iq_4_1, iq_4_2, iq_4_3, iq_4_5, iq_5_m6, iq_5_m5, iq_5_m4, iq_5_m3, iq_5_m2, iq_5_m1, iq_5_0, iq_5_1, iq_5_2, iq_5_3, iq_5_4, lk_204, lr_204_17, la_215, hx_le, c1, c2]
theorem ts_l {N r c s0 m : Nat} {I0 J0 : hf_M} (hN : 4096 ≤ N) (hm : m ≤ 500) (hl : hr_land r c I0 J0) (hk : hr_sky I0 J0) (hli : hr_lit r c I0 J0) (ho : hr_one I0 J0) : ∀ (d i f f' : Nat) (I J : hf_M), i + d = m → d < f → d < f' → hSt r c 22 s0 I0 J0 I J i → ∃ I' J', BX7_step_16 N f [.ref 6, .int (nI m), .int (nI i)] [] I = some (some (Value.int (I' 22 9)), I') ∧ BX8_step_16 N f' [.ref 204, .int (nI m), .int (nI i)] [] J = some (some (Value.int (J' 215 1816)), J') ∧ hSt r c 22 s0 I0 J0 I' J' m := by
  intro d
  induction d with
  | zero =>
    intro i f f' I J hi hf hf' h
    obtain ⟨f, rfl⟩ : ∃ k, f = k + 1 := ⟨f - 1, by omega⟩
    obtain ⟨f', rfl⟩ : ∃ k, f' = k + 1 := ⟨f' - 1, by omega⟩
    have : i = m := by omega
    subst this
    exact ⟨I, J, ts_ce hm, ts_me hm, h⟩
  | succ d ih =>
    intro i f f' I J hi hf hf' h
    obtain ⟨f, rfl⟩ : ∃ k, f = k + 1 := ⟨f - 1, by omega⟩
    obtain ⟨f', rfl⟩ : ∃ k, f' = k + 1 := ⟨f' - 1, by omega⟩
    obtain ⟨I', J', e1, e2, e3⟩ := st_n hN (Or.inl rfl) hl hk hli ho h
    rw [ts_c hm (by omega) e1, ts_m hm (by omega) e2]
    exact ih (i + 1) f f' I' J' (by omega) (by omega) (by omega) e3
theorem step_ce (N : Nat) (I : hf_M) (x : Int32) : fX7_step N [.ref 6, .int x] I = if x < 0 then some (some (.int (-2)), I) else if 500 < x then some (some (.int (-2)), I) else BX7_step_16 N N [.ref 6, .int x, .int (nI 0)] [] I := by
  show (match fX7_isWithin N [.int x, .int 0, .int 500] I with
    | some (v, J) => _
    | none => _) = _
  rw [e_within]
  dsimp only
  split
  · rfl
  · split <;> rfl
theorem step_me (N : Nat) (J : hf_M) (x : Int32) : fX8_step N [.ref 204, .int x] J = if x < 0 then some (some (.int (-2)), J) else if 500 < x then some (some (.int (-2)), J) else BX8_step_16 N N [.ref 204, .int x, .int (nI 0)] [] J := by
  show (match fX8_in N [.int x, .int 0, .int 500] J with
    | some (v, J) => _
    | none => _) = _
  rw [e_in]
  dsimp only
  split
  · rfl
  · split <;> rfl
/-- scene now may have been stepped; all else stands -/
theorem all_st {r c q s0 m : Nat} {I J I' J' : hf_M} (hm : m ≤ 500) (hR : hr_all r c q I J) (hs : I 22 9 = nI s0) (hs2 : s0 ≤ 500 * q) (hf : s0 = 0 → ∀ n, n < r * c → I 26 n = 0 ∧ I 27 n = 0 ∧ I 28 n = -6) (h : hSt r c 22 s0 I J I' J' m) : hr_all r c (q + 1) I' J' := by
  obtain ⟨r1, r2, r3, r4, r5, r6⟩ := hr_all_q hR
  obtain ⟨h1, h2, h3, h4, h5, h6⟩ := h
  refine ⟨land_c (fun d d1 d2 => h1 d (by omega) (by omega) (by omega) (by omega) (by omega)) (fun d d1 d2 => h2 d (by omega) (by omega) (by omega) (by omega)) r1, sky_c (fun d d1 d2 => h1 d (by omega) (by omega) (by omega) (by omega) (by omega)) (fun d d1 d2 => h2 d (by omega) (by omega) (by omega) (by omega)) r2, lit_c (fun d d1 d2 => h1 d (by omega) (by omega) (by omega) (by omega) (by omega)) (fun d d1 => h2 d (by omega) (by omega) (by omega) (by omega)) r3, h3, ?_, ⟨by rw [h1 6 (by decide) (by decide) (by decide) (by decide) (by omega), h2 204 (by decide) (by decide) (by decide) (by decide)]; exact r6.1, by rw [h1 6 (by decide) (by decide) (by decide) (by decide) (by omega), h2 204 (by decide) (by decide) (by decide) (by decide)]; exact r6.2.1, by rw [h1 6 (by decide) (by decide) (by decide) (by decide) (by omega)]; exact r6.2.2.1, h4⟩⟩
  obtain ⟨age, ch, a1, a2, a3, a4, a5, af, a6⟩ := r5
  refine ⟨age, ch, by rw [h1 7 (by decide) (by decide) (by decide) (by decide) (by omega)]; exact a1, by rw [h2 204 (by decide) (by decide) (by decide) (by decide)]; exact a2, a3, a4, a5, ⟨s0 + m, h5, by omega, fun z => ?_⟩, fun p hp => ?_⟩
  · have e : I' = I := h6 (by omega)
    rw [e]
    exact hf (by omega)
  · rw [h1 95 (by decide) (by decide) (by decide) (by decide) (by omega), h2 217 (by decide) (by decide) (by decide) (by decide)]
    rcases a6 p hp with z | ⟨a, b, b1, b2, b3, b4, b5, b6, b7⟩
    · exact Or.inl z
    · exact Or.inr ⟨a, b, b1, b2, b3, b4, b5, b6, fun e => ⟨hr_sc_c (fun d d1 d2 => h1 d (by omega) (by omega) (by omega) (by omega) (by omega)) (h1 8 (by decide) (by decide) (by decide) (by decide) (by omega)) (h2 216 (by decide) (by decide) (by decide) (by decide)) (b7 e).1, hr_fr_c (fun d _ _ => h1 d (by omega) (by omega) (by omega) (by omega) (by omega)) (b7 e).2⟩⟩
theorem q_step (q N : Nat) (hN : 4096 ≤ N) (x : Int32) : hr_call q (fX7_step N [.ref 6, .int x]) (fX8_step N [.ref 204, .int x]) := by
  intro r c I J _ hR
  by_cases s1 : x < 0
  · exact hr_no hR (-2) (by rw [step_ce, if_pos s1]) (by rw [step_me, if_pos s1])
  by_cases s2 : 500 < x
  · exact hr_no hR (-2) (by rw [step_ce, if_neg s1, if_pos s2]) (by rw [step_me, if_neg s1, if_pos s2])
  have ec := step_ce N I x
  have em := step_me N J x
  rw [if_neg s1, if_neg s2] at ec em
  obtain ⟨m, hm, rfl⟩ := hr_rng (n := 500) (by decide) s1 s2
  obtain ⟨age, ch, a1, a2, a3, a4, a5, ⟨s0, f1, f2, f3⟩, a6⟩ := id hR.2.2.2.2.1
  obtain ⟨I', J', e1, e2, e3⟩ := ts_l (s0 := s0) hN hm hR.1 hR.2.1 hR.2.2.1 hR.2.2.2.2.2 m 0 N N I J (by omega) (by omega) (by omega) ⟨fun _ _ _ _ _ _ => rfl, fun _ _ _ _ _ => rfl, hR.2.2.2.1, hR.2.2.2.2.2.2.2.2, f1, fun _ => rfl⟩
  have hv : J' 215 1816 = I' 22 9 := by
    have := e3.2.2.1.2.1.1
    rw [Nat.zero_add] at this
    exact this.symm
  refine ⟨I' 22 9, r, c, I', J', ec.trans e1, em.trans (by rw [e2, hv]), all_st hm hR f1 f2 f3 e3, fun d hd => e3.1 d (by omega) (by omega) (by omega) (by omega) (by omega), fun d hd => e3.2.1 d (by omega) (by omega) (by omega) (by omega)⟩
