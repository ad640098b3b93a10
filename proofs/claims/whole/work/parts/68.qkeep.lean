/-! places: both sides; keep -/
theorem pl_0 {N : Nat} {x : Int32} {I : hf_M} (h : x < 0 ∨ nI 3 ≤ x) : fX7_isPlace N [.int x] I = some (some (Value.int 0), I) := by
  show (if x < 0 then _ else if (3 : Int32) ≤ x then _ else _) = _
  by_cases h0 : x < 0
  · rw [if_pos h0]; rfl
  · have h3 : (3 : Int32) ≤ x := h.resolve_left h0
    rw [if_neg h0, if_pos h3]; rfl
theorem pl_1 {N p : Nat} {I : hf_M} (hp : p < 3) : fX7_isPlace N [.int (nI p)] I = some (some (Value.int 1), I) := by
  have h3 : ¬ (3 : Int32) ≤ nI p := (by decide : ∀ j, j < 3 → ¬ (3 : Int32) ≤ nI j) p hp
  show (if nI p < 0 then _ else if (3 : Int32) ≤ nI p then _ else _) = _
  rw [if_neg (nI_pos (by omega)), if_neg h3]; rfl
theorem in3_0 {N : Nat} {x : Int32} {J : hf_M} (h : x < 0 ∨ nI 3 ≤ x) : fX8_in N [.int x, .int 0, .int 2] J = some (some (Value.int 0), J) :=
  e_in0 (h.imp id (fun z => Int32.lt_of_lt_of_le (by decide) z))
theorem in3_1 {N p : Nat} {J : hf_M} (hp : p < 3) : fX8_in N [.int (nI p), .int 0, .int 2] J = some (some (Value.int 1), J) :=
  e_in1 (nI_pos (by omega)) ((by decide : ∀ j, j < 3 → ¬ (2 : Int32) < nI j) p hp)
theorem l94 {p : Nat} (hp : p < 3) : hf_rf 94 p = some (96 + 36 * p) := by
  revert p; decide
theorem hsc_p {p : Nat} (hp : p < 3) : hsc (96 + 36 * p) := by unfold hsc; omega
theorem hCp_self {k S : Nat} {I I' : hf_M} (k8 : k ≤ 8) (h : ∀ d, S ≤ d → d < S + 36 → I' d = I d) : hCp k S S I I' := by
  refine ⟨fun j hj => ?_, fun x hx => ⟨fun j hj => ?_, fun j j1 j2 => ?_⟩, fun j hj => ?_, ?_, fun j j1 j2 => ?_⟩
  · rw [h (S + 1) (by omega) (by omega), h (S + 2) (by omega) (by omega), h (S + 3) (by omega) (by omega), h (S + 4) (by omega) (by omega), h (S + 5) (by omega) (by omega), h (S + 6) (by omega) (by omega)]
    exact ⟨rfl, rfl, rfl, rfl, rfl, rfl⟩
  · rw [h (S + 12 + 3 * x + 1) (by omega) (by omega), h (S + 12 + 3 * x + 2) (by omega) (by omega)]
    exact ⟨rfl, rfl⟩
  · rw [h (S + 12 + 3 * x) (by omega) (by omega)]
  · rw [h (S + 9) (by omega) (by omega), h (S + 10) (by omega) (by omega), h (S + 11) (by omega) (by omega)]
    exact ⟨rfl, rfl, rfl⟩
  · rw [h (S + 8) (by omega) (by omega)]
  · rw [h S (by omega) (by omega)]
/-- the same scene, the reference's row alike in its part -/
theorem sc_self {r c S A o A' o' : Nat} {I I' J J' : hf_M} (hrc : r * c ≤ 256) (h : hr_sc r c I S J A o) (hI : ∀ d, S ≤ d → d < S + 36 → I' d = I d) (h8 : I' 8 = I 8) (hJ : ∀ x, x < 1824 → J' A' (o' + x) = J A (o + x)) : hr_sc r c I' S J' A' o' := by
  obtain ⟨k, h4, h5, h6, h7⟩ := id h.2.2.2
  exact sc_t hrc h h5 h4 (hCp_self h4 hI) h8 hJ
set_option maxRecDepth 100000 in
theorem kp_c0 {N : Nat} {x : Int32} {I : hf_M} (e : fX7_isPlace N [.int x] I = some (some (Value.int 0), I)) : fX7_keep N [.ref 6, .int x] I = some (some (.int (-1)), I) := by
  simp only [fX7_keep, EX7_keep, r_iload, r_aload, r_istore, r_astore, r_iinc, r_const, r_dupi, r_dupr, r_dup2, r_goto, r_iadd, r_isub, r_imul, r_iand, r_ixor, r_iushr, r_idiv, r_irem, r_ifeq, r_icmpeq, r_ifne, r_icmpne, r_iflt, r_icmplt, r_ifge, r_icmpge, r_ifgt, r_icmpgt, r_ifle, r_icmple, r_tsw, r_getI, r_getR, r_putI, r_putZ, r_iald, r_iast, r_aald, r_gets, r_copy, r_iret, r_zret, r_vret, r_mmax, r_mmin, r_callV, r_callS, r_fn, hf_pop, List.getElem?_cons_zero, List.getElem?_cons_succ, List.set_cons_zero, List.set_cons_succ, List.replicate_succ, List.replicate_zero, List.cons_append, List.nil_append, List.append_nil, List.length_cons, List.length_nil, List.take_succ_cons, List.take_zero, List.drop_succ_cons, List.drop_zero, List.reverse_cons, List.reverse_nil, List.map_cons, List.map_nil, List.sum_cons, List.sum_nil, List.all_cons, List.all_nil, Option.toList_some, Option.toList_none, Value.category, Nat.reduceAdd, Nat.reduceSub, Nat.reduceLeDiff, Nat.reduceMul, Nat.reduceLT, Nat.reduceEqDiff, beq_self_eq_true, Bool.and_self, Bool.and_true, and_self, and_true, true_and, ite_true, ite_false, if_true, if_false, ↓reduceIte, true_or, or_true, Nat.zero_add, Nat.le_refl, Nat.zero_le, not_false_eq_true, eq_self, true_implies, Int32.reduceLT, Int32.reduceLE, Int32.reduceGT, hf_rd6, hw6, iq_m6_m5, iq_m6_m4, iq_m6_m3, iq_m6_m2, iq_m6_m1, iq_m6_0, iq_m6_1, iq_m6_2, iq_m6_3, iq_m6_4, iq_m6_5, iq_m5_m6, iq_m5_m4, iq_m5_m3, iq_m5_m2, iq_m5_m1, iq_m5_0, iq_m5_1, iq_m5_2, iq_m5_3, iq_m5_4, iq_m5_5, iq_m4_m6, iq_m4_m5, iq_m4_m3, iq_m4_m2, iq_m4_m1, iq_m4_0, iq_m4_1, iq_m4_2, iq_m4_3, iq_m4_4, iq_m4_5, iq_m3_m6, iq_m3_m5, iq_m3_m4, iq_m3_m2, iq_m3_m1, iq_m3_0, iq_m3_1, iq_m3_2, iq_m3_3, iq_m3_4, iq_m3_5, iq_m2_m6, iq_m2_m5, iq_m2_m4, iq_m2_m3, iq_m2_m1, iq_m2_0, iq_m2_1, iq_m2_2, iq_m2_3, iq_m2_4, iq_m2_5, iq_m1_m6, iq_m1_m5, iq_m1_m4, iq_m1_m3, iq_m1_m2, iq_m1_0, iq_m1_1, iq_m1_2, iq_m1_3, iq_m1_4, iq_m1_5, iq_0_m6, iq_0_m5, iq_0_m4, iq_0_m3, iq_0_m2, iq_0_m1, iq_0_1, iq_0_2, iq_0_3, iq_0_4, iq_0_5, iq_1_m6, iq_1_m5, iq_1_m4, iq_1_m3, iq_1_m2, iq_1_m1, iq_1_0, iq_1_2, iq_1_3, iq_1_4, iq_1_5, iq_2_m6, iq_2_m5, iq_2_m4, iq_2_m3, iq_2_m2, iq_2_m1, iq_2_0, iq_2_1, iq_2_3, iq_2_4, iq_2_5, iq_3_m6, iq_3_m5, iq_3_m4, iq_3_m3, iq_3_m2, iq_3_m1, iq_3_0, iq_3_1, iq_3_2, iq_3_4, iq_3_5, iq_4_m6, iq_4_m5, iq_4_m4, iq_4_m3, iq_4_m2, iq_4_m1, iq_4_0, iq_4_1, iq_4_2, iq_4_3, iq_4_5, iq_5_m6, iq_5_m5, iq_5_m4, iq_5_m3, iq_5_m2, iq_5_m1, iq_5_0, iq_5_1, iq_5_2, iq_5_3, iq_5_4, e]
set_option maxRecDepth 100000 in
theorem kp_m0 {N : Nat} {x : Int32} {J : hf_M} (e : fX8_in N [.int x, .int 0, .int 2] J = some (some (Value.int 0), J)) : fX8_keep N [.ref 204, .int x] J = some (some (.int (-1)), J) := by
  simp only [fX8_keep, EX8_keep, r_iload, r_aload, r_istore, r_astore, r_iinc, r_const, r_dupi, r_dupr, r_dup2, r_goto, r_iadd, r_isub, r_imul, r_iand, r_ixor, r_iushr, r_idiv, r_irem, r_ifeq, r_icmpeq, r_ifne, r_icmpne, r_iflt, r_icmplt, r_ifge, r_icmpge, r_ifgt, r_icmpgt, r_ifle, r_icmple, r_tsw, r_getI, r_getR, r_putI, r_putZ, r_iald, r_iast, r_aald, r_gets, r_copy, r_iret, r_zret, r_vret, r_mmax, r_mmin, r_callV, r_callS, r_fn, hf_pop, List.getElem?_cons_zero, List.getElem?_cons_succ, List.set_cons_zero, List.set_cons_succ, List.replicate_succ, List.replicate_zero, List.cons_append, List.nil_append, List.append_nil, List.length_cons, List.length_nil, List.take_succ_cons, List.take_zero, List.drop_succ_cons, List.drop_zero, List.reverse_cons, List.reverse_nil, List.map_cons, List.map_nil, List.sum_cons, List.sum_nil, List.all_cons, List.all_nil, Option.toList_some, Option.toList_none, Value.category, Nat.reduceAdd, Nat.reduceSub, Nat.reduceLeDiff, Nat.reduceMul, Nat.reduceLT, Nat.reduceEqDiff, beq_self_eq_true, Bool.and_self, Bool.and_true, and_self, and_true, true_and, ite_true, ite_false, if_true, if_false, ↓reduceIte, true_or, or_true, Nat.zero_add, Nat.le_refl, Nat.zero_le, not_false_eq_true, eq_self, true_implies, Int32.reduceLT, Int32.reduceLE, Int32.reduceGT, hf_rd6, hw6, iq_m6_m5, iq_m6_m4, iq_m6_m3, iq_m6_m2, iq_m6_m1, iq_m6_0, iq_m6_1, iq_m6_2, iq_m6_3, iq_m6_4, iq_m6_5, iq_m5_m6, iq_m5_m4, iq_m5_m3, iq_m5_m2, iq_m5_m1, iq_m5_0, iq_m5_1, iq_m5_2, iq_m5_3, iq_m5_4, iq_m5_5, iq_m4_m6, iq_m4_m5, iq_m4_m3, iq_m4_m2, iq_m4_m1, iq_m4_0, iq_m4_1, iq_m4_2, iq_m4_3, iq_m4_4, iq_m4_5, iq_m3_m6, iq_m3_m5, iq_m3_m4, iq_m3_m2, iq_m3_m1, iq_m3_0, iq_m3_1, iq_m3_2, iq_m3_3, iq_m3_4, iq_m3_5, iq_m2_m6, iq_m2_m5, iq_m2_m4, iq_m2_m3, iq_m2_m1, iq_m2_0, iq_m2_1, iq_m2_2, iq_m2_3, iq_m2_4, iq_m2_5, iq_m1_m6, iq_m1_m5, iq_m1_m4, iq_m1_m3, iq_m1_m2, iq_m1_0, iq_m1_1, iq_m1_2, iq_m1_3, iq_m1_4, iq_m1_5, iq_0_m6, iq_0_m5, iq_0_m4, iq_0_m3, iq_0_m2, iq_0_m1, iq_0_1, iq_0_2, iq_0_3, iq_0_4, iq_0_5, iq_1_m6, iq_1_m5, iq_1_m4, iq_1_m3, iq_1_m2, iq_1_m1, iq_1_0, iq_1_2, iq_1_3, iq_1_4, iq_1_5, iq_2_m6, iq_2_m5, iq_2_m4, iq_2_m3, iq_2_m2, iq_2_m1, iq_2_0, iq_2_1, iq_2_3, iq_2_4, iq_2_5, iq_3_m6, iq_3_m5, iq_3_m4, iq_3_m3, iq_3_m2, iq_3_m1, iq_3_0, iq_3_1, iq_3_2, iq_3_4, iq_3_5, iq_4_m6, iq_4_m5, iq_4_m4, iq_4_m3, iq_4_m2, iq_4_m1, iq_4_0, iq_4_1, iq_4_2, iq_4_3, iq_4_5, iq_5_m6, iq_5_m5, iq_5_m4, iq_5_m3, iq_5_m2, iq_5_m1, iq_5_0, iq_5_1, iq_5_2, iq_5_3, iq_5_4, e]
set_option maxRecDepth 100000 in
theorem kp_c {N p : Nat} {I I' : hf_M} (hp : p < 3) (e : fX4_copyFrom N [.ref (96 + 36 * p), .ref 22] I = some (none, I')) : fX7_keep N [.ref 6, .int (nI p)] I = some (some (.int (I' 22 9)), hf_w I' 95 p (I' 7 7)) := by
  have k1 : hf_kd (96 + 36 * p) = 7 := ls_k (hsc_p hp)
  simp (disch := omega) only [fX7_keep, EX7_keep, r_iload, r_aload, r_istore, r_astore, r_iinc, r_const, r_dupi, r_dupr, r_dup2, r_goto, r_iadd, r_isub, r_imul, r_iand, r_ixor, r_iushr, r_idiv, r_irem, r_ifeq, r_icmpeq, r_ifne, r_icmpne, r_iflt, r_icmplt, r_ifge, r_icmpge, r_ifgt, r_icmpgt, r_ifle, r_icmple, r_tsw, r_getI, r_getR, r_putI, r_putZ, r_iald, r_iast, r_aald, r_gets, r_copy, r_iret, r_zret, r_vret, r_mmax, r_mmin, r_callV, r_callS, r_fn, hf_pop, List.getElem?_cons_zero, List.getElem?_cons_succ, List.set_cons_zero, List.set_cons_succ, List.replicate_succ, List.replicate_zero, List.cons_append, List.nil_append, List.append_nil, List.length_cons, List.length_nil, List.take_succ_cons, List.take_zero, List.drop_succ_cons, List.drop_zero, List.reverse_cons, List.reverse_nil, List.map_cons, List.map_nil, List.sum_cons, List.sum_nil, List.all_cons, List.all_nil, Option.toList_some, Option.toList_none, Value.category, Nat.reduceAdd, Nat.reduceSub, Nat.reduceLeDiff, Nat.reduceMul, Nat.reduceLT, Nat.reduceEqDiff, beq_self_eq_true, Bool.and_self, Bool.and_true, and_self, and_true, true_and, ite_true, ite_false, if_true, if_false, ↓reduceIte, true_or, or_true, Nat.zero_add, Nat.le_refl, Nat.zero_le, not_false_eq_true, eq_self, true_implies, Int32.reduceLT, Int32.reduceLE, Int32.reduceGT, hf_rd6, hw6, iq_m6_m5, iq_m6_m4, iq_m6_m3, iq_m6_m2, iq_m6_m1, iq_m6_0, iq_m6_1, iq_m6_2, iq_m6_3, iq_m6_4, iq_m6_5, iq_m5_m6, iq_m5_m4, iq_m5_m3, iq_m5_m2, iq_m5_m1, iq_m5_0, iq_m5_1, iq_m5_2, iq_m5_3, iq_m5_4, iq_m5_5, iq_m4_m6, iq_m4_m5, iq_m4_m3, iq_m4_m2, iq_m4_m1, iq_m4_0, iq_m4_1, iq_m4_2, iq_m4_3, iq_m4_4, iq_m4_5, iq_m3_m6, iq_m3_m5, iq_m3_m4, iq_m3_m2, iq_m3_m1, iq_m3_0, iq_m3_1, iq_m3_2, iq_m3_3, iq_m3_4, iq_m3_5, iq_m2_m6, iq_m2_m5, iq_m2_m4, iq_m2_m3, iq_m2_m1, iq_m2_0, iq_m2_1, iq_m2_2, iq_m2_3, iq_m2_4, iq_m2_5, iq_m1_m6, iq_m1_m5, iq_m1_m4, iq_m1_m3, iq_m1_m2, iq_m1_0, iq_m1_1, iq_m1_2, iq_m1_3, iq_m1_4, iq_m1_5, iq_0_m6, iq_0_m5, iq_0_m4, iq_0_m3, iq_0_m2, iq_0_m1, iq_0_1, iq_0_2, iq_0_3, iq_0_4, iq_0_5, iq_1_m6, iq_1_m5, iq_1_m4, iq_1_m3, iq_1_m2, iq_1_m1, iq_1_0, iq_1_2, iq_1_3, iq_1_4, iq_1_5, iq_2_m6, iq_2_m5, iq_2_m4, iq_2_m3, iq_2_m2, iq_2_m1, iq_2_0, iq_2_1, iq_2_3, iq_2_4, iq_2_5, iq_3_m6, iq_3_m5, iq_3_m4, iq_3_m3, iq_3_m2, iq_3_m1, iq_3_0, iq_3_1, iq_3_2, iq_3_4, iq_3_5, iq_4_m6, iq_4_m5, iq_4_m4, iq_4_m3, iq_4_m2, iq_4_m1, iq_4_0, iq_4_1, iq_4_2, iq_4_3, iq_4_5, iq_5_m6, iq_5_m5, iq_5_m4, iq_5_m3, iq_5_m2, iq_5_m1, iq_5_0, iq_5_1, iq_5_2, iq_5_3, iq_5_4, pl_1 hp, lk_6, lr_6_6, lk_94, lz_94, l94 hp, lr_6_4, k1, e, lr_6_7, la_95, lr_6_0, lk_7, lk_22, hf_inI, nI_clamp]
set_option maxRecDepth 100000 in
theorem kp_m {N p : Nat} {J J' : hf_M} (hp : p < 3) (e : fX8_save N [.ref 204, .int (nI p)] J = some (none, J')) : fX8_keep N [.ref 204, .int (nI p)] J = some (some (.int (J' 215 1816)), hf_w J' 217 p (J' 204 20)) := by
  have c1 : (1816 : Int32).toNatClampNeg = 1816 := nI_clamp (n := 1816) (by decide)
  have c2 : hf_in 1816 1824 = True := hf_inI (k := 1816) (by decide) (by decide)
  simp (disch := omega) only [fX8_keep, EX8_keep, r_iload, r_aload, r_istore, r_astore, r_iinc, r_const, r_dupi, r_dupr, r_dup2, r_goto, r_iadd, r_isub, r_imul, r_iand, r_ixor, r_iushr, r_idiv, r_irem, r_ifeq, r_icmpeq, r_ifne, r_icmpne, r_iflt, r_icmplt, r_ifge, r_icmpge, r_ifgt, r_icmpgt, r_ifle, r_icmple, r_tsw, r_getI, r_getR, r_putI, r_putZ, r_iald, r_iast, r_aald, r_gets, r_copy, r_iret, r_zret, r_vret, r_mmax, r_mmin, r_callV, r_callS, r_fn, hf_pop, List.getElem?_cons_zero, List.getElem?_cons_succ, List.set_cons_zero, List.set_cons_succ, List.replicate_succ, List.replicate_zero, List.cons_append, List.nil_append, List.append_nil, List.length_cons, List.length_nil, List.take_succ_cons, List.take_zero, List.drop_succ_cons, List.drop_zero, List.reverse_cons, List.reverse_nil, List.map_cons, List.map_nil, List.sum_cons, List.sum_nil, List.all_cons, List.all_nil, Option.toList_some, Option.toList_none, Value.category, Nat.reduceAdd, Nat.reduceSub, Nat.reduceLeDiff, Nat.reduceMul, Nat.reduceLT, Nat.reduceEqDiff, beq_self_eq_true, Bool.and_self, Bool.and_true, and_self, and_true, true_and, ite_true, ite_false, if_true, if_false, ↓reduceIte, true_or, or_true, Nat.zero_add, Nat.le_refl, Nat.zero_le, not_false_eq_true, eq_self, true_implies, Int32.reduceLT, Int32.reduceLE, Int32.reduceGT, hf_rd6, hw6, iq_m6_m5, iq_m6_m4, iq_m6_m3, iq_m6_m2, iq_m6_m1, iq_m6_0, iq_m6_1, iq_m6_2, iq_m6_3, iq_m6_4, iq_m6_5, iq_m5_m6, iq_m5_m4, iq_m5_m3, iq_m5_m2, iq_m5_m1, iq_m5_0, iq_m5_1, iq_m5_2, iq_m5_3, iq_m5_4, iq_m5_5, iq_m4_m6, iq_m4_m5, iq_m4_m3, iq_m4_m2, iq_m4_m1, iq_m4_0, iq_m4_1, iq_m4_2, iq_m4_3, iq_m4_4, iq_m4_5, iq_m3_m6, iq_m3_m5, iq_m3_m4, iq_m3_m2, iq_m3_m1, iq_m3_0, iq_m3_1, iq_m3_2, iq_m3_3, iq_m3_4, iq_m3_5, iq_m2_m6, iq_m2_m5, iq_m2_m4, iq_m2_m3, iq_m2_m1, iq_m2_0, iq_m2_1, iq_m2_2, iq_m2_3, iq_m2_4, iq_m2_5, iq_m1_m6, iq_m1_m5, iq_m1_m4, iq_m1_m3, iq_m1_m2, iq_m1_0, iq_m1_1, iq_m1_2, iq_m1_3, iq_m1_4, iq_m1_5, iq_0_m6, iq_0_m5, iq_0_m4, iq_0_m3, iq_0_m2, iq_0_m1, iq_0_1, iq_0_2, iq_0_3, iq_0_4, iq_0_5, iq_1_m6, iq_1_m5, iq_1_m4, iq_1_m3, iq_1_m2, iq_1_m1, iq_1_0, iq_1_2, iq_1_3, iq_1_4, iq_1_5, iq_2_m6, iq_2_m5, iq_2_m4, iq_2_m3, iq_2_m2, iq_2_m1, iq_2_0, iq_2_1, iq_2_3, iq_2_4, iq_2_5, iq_3_m6, iq_3_m5, iq_3_m4, iq_3_m3, iq_3_m2, iq_3_m1, iq_3_0, iq_3_1, iq_3_2, iq_3_4, iq_3_5, iq_4_m6, iq_4_m5, iq_4_m4, iq_4_m3, iq_4_m2, iq_4_m1, iq_4_0, iq_4_1, iq_4_2, iq_4_3, iq_4_5, iq_5_m6, iq_5_m5, iq_5_m4, iq_5_m3, iq_5_m2, iq_5_m1, iq_5_0, iq_5_1, iq_5_2, iq_5_3, iq_5_4, in3_1 hp, e, lk_204, lr_204_19, la_217, lr_204_17, la_215, hf_inI, nI_clamp, c1, c2]
theorem sv_q {N p : Nat} {J : hf_M} (hN : 4096 ≤ N) (hp : p ≤ 3) : ∃ J', fX8_save N [.ref 204, .int (nI p)] J = some (none, J') ∧ (∀ x, x < 1824 → J' 216 (1824 * p + x) = J 215 x) ∧ (∀ y, y < 1824 * p ∨ 1824 * p + 1824 ≤ y → J' 216 y = J 216 y) ∧ (∀ d, d ≠ 216 → J' d = J d) := by
  obtain ⟨J', e, q1, q2, q3⟩ := sv_l (N := N) hp 1824 0 N J (by omega) (by omega)
  have e0 : fX8_save N [.ref 204, .int (nI p)] J = BX8_save_2 N N [.ref 204, .int (nI p), .int (nI 0)] [] J := rfl
  exact ⟨J', e0.trans e, fun x hx => q1 x (by omega) hx, fun y hy => q2 y (by omega), q3⟩
theorem lv_q {N p : Nat} {J : hf_M} (hN : 4096 ≤ N) (hp : p ≤ 3) : ∃ J', fX8_load N [.ref 204, .int (nI p)] J = some (none, J') ∧ (∀ x, x < 1824 → J' 215 x = J 216 (1824 * p + x)) ∧ (∀ d, d ≠ 215 → J' d = J d) := by
  obtain ⟨J', e, q1, q2, q3⟩ := lv_l (N := N) hp 1824 0 N J (by omega) (by omega)
  have e0 : fX8_load N [.ref 204, .int (nI p)] J = BX8_load_2 N N [.ref 204, .int (nI p), .int (nI 0)] [] J := rfl
  exact ⟨J', e0.trans e, fun x hx => q1 x (by omega) hx, q3⟩
theorem q_keep (q N : Nat) (hN : 4096 ≤ N) (x : Int32) : hr_call q (fX7_keep N [.ref 6, .int x]) (fX8_keep N [.ref 204, .int x]) := by
  intro r c I J _ hR
  have hb := hR.1.1
  rcases pk_ix x (n := 3) (by omega) with hx | hx | ⟨p, hp, rfl⟩
  · exact hr_no hR (-1) (kp_c0 (pl_0 (Or.inl hx))) (kp_m0 (in3_0 (Or.inl hx)))
  · exact hr_no hR (-1) (kp_c0 (pl_0 (Or.inr hx))) (kp_m0 (in3_0 (Or.inr hx)))
  obtain ⟨r1, r2, r3, r4, r5, r6⟩ := hr_all_q hR
  obtain ⟨I', k, e1, k8, hk, e2, e3⟩ := scp_q (N := N) (S := 22) (D := 96 + 36 * p) hN (Or.inl rfl) (hsc_p hp) (by omega) r4
  obtain ⟨J', m1, m2, m3, m4⟩ := sv_q (N := N) (J := J) (p := p) hN (by omega)
  have ec := kp_c (N := N) hp e1
  have em := kp_m (N := N) hp m1
  have hv : J' 215 1816 = I' 22 9 := by
    rw [m4 215 (by decide), e3 22 (by omega)]
    have := r4.2.1.1
    rw [Nat.zero_add] at this
    exact this.symm
  rw [hv] at em
  have fI : ∀ d, d ≠ 95 → d < 96 + 36 * p ∨ 96 + 36 * p + 36 ≤ d → hf_w I' 95 p (I' 7 7) d = I d := fun d d1 d2 => by rw [hw_d d1, e3 d d2]
  have fJ : ∀ d, d ≠ 216 → d ≠ 217 → hf_w J' 217 p (J' 204 20) d = J d := fun d d1 d2 => by rw [hw_d d2, m4 d d1]
  refine ⟨_, r, c, _, _, ec, em, ⟨land_c (fun d d1 d2 => fI d (by omega) (by omega)) (fun d d1 d2 => fJ d (by omega) (by omega)) r1, sky_c (fun d d1 d2 => fI d (by omega) (by omega)) (fun d d1 d2 => fJ d (by omega) (by omega)) r2, lit_c (fun d d1 d2 => fI d (by omega) (by omega)) (fun d d1 => fJ d (by omega) (by omega)) r3, ?_, ?_, ?_⟩, fun d hd => fI d (by omega) (by omega), fun d hd => fJ d (by omega) (by omega)⟩
  · exact hr_sc_c (fun d d1 d2 => fI d (by omega) (by omega)) (fI 8 (by decide) (by omega)) (fJ 215 (by decide) (by decide)) r4
  · obtain ⟨age, ch, a1, a2, a3, a4, a5, af, a6⟩ := r5
    refine ⟨age, ch, by rw [fI 7 (by decide) (by omega)]; exact a1, by rw [fJ 204 (by decide) (by decide)]; exact a2, a3, a4, a5, hr_fr_c (fun d d1 d2 => fI d (by omega) (by omega)) af, fun p' hp' => ?_⟩
    by_cases ep : p' = p
    · subst ep
      refine Or.inr ⟨age, ch, ?_, ?_, Nat.le_refl _, a4, Nat.le_refl _, ⟨fun _ => rfl, fun _ => rfl⟩, fun _ => ⟨?_, ?_⟩⟩
      · rw [hw_s, e3 7 (by omega)]; exact a1
      · rw [hw_s, m4 204 (by decide)]; exact a2
      · have h1 : hr_sc r c I' (96 + 36 * p') J' 216 (1824 * p') := sc_t (by omega) r4 hk k8 e2 (e3 8 (by omega)) (fun x hx => by rw [m2 x hx, Nat.zero_add])
        exact hr_sc_c (fun d d1 d2 => hw_d (by omega)) (hw_d (by decide)) (hw_d (by decide)) h1
      · have h1 : hr_fr r c (q + 1) I' (96 + 36 * p') := fr_t (by omega) af e2
        exact hr_fr_c (fun d d1 d2 => hw_d (by omega)) h1
    · have c1 : hf_w I' 95 p (I' 7 7) 95 p' = I 95 p' := by rw [hw_o (Or.inr ep), e3 95 (by omega)]
      have c2 : hf_w J' 217 p (J' 204 20) 217 p' = J 217 p' := by rw [hw_o (Or.inr ep), m4 217 (by decide)]
      rw [c1, c2]
      rcases a6 p' hp' with z | ⟨a, b, b1, b2, b3, b4, b5, b6, b7⟩
      · exact Or.inl z
      · refine Or.inr ⟨a, b, b1, b2, b3, b4, b5, b6, fun e => ⟨?_, hr_fr_c (fun d d1 d2 => fI d (by omega) (by omega)) (b7 e).2⟩⟩
        exact sc_self (by omega) (b7 e).1 (fun d d1 d2 => fI d (by omega) (by omega)) (fI 8 (by decide) (by omega)) (fun x hx => by rw [hw_d (by decide), m3 _ (by omega)])
  · unfold hr_one at r6 ⊢
    rw [fI 6 (by decide) (by omega), fI 20 (by decide) (by omega), fI 21 (by decide) (by omega), fJ 204 (by decide) (by decide)]
    exact r6
