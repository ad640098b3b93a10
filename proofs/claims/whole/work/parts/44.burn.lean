/-! the class burns its strips -/
theorem rw_n {x y : Nat} (h : x ≤ y) : nI y - nI x + 1 = nI (y + 1 - x) := by
  rw [zI_n, zI_n, zI_n, zI_sub, (by decide +kernel : (1 : Int32) = zI 1), zI_add]
  congr 1
  omega
set_option maxRecDepth 100000 in
theorem ro_c {N S i x y : Nat} {K : hf_M} (hS : hsc S) (hi : i < 8) (h9 : K (S + 9) i = nI x) (h10 : K (S + 10) i = nI y) (hxy : x ≤ y) : fX5_rowsOf N [.ref (S + 8), .int (nI i)] K = some (some (Value.int (nI (y + 1 - x))), K) := by
  have hb := hsc_b hS
  have e := rw_n hxy
  simp (disch := omega) only [fX5_rowsOf, EX5_rowsOf, r_iload, r_aload, r_istore, r_astore, r_iinc, r_const, r_dupi, r_dupr, r_dup2, r_goto, r_iadd, r_isub, r_imul, r_iand, r_ixor, r_iushr, r_idiv, r_irem, r_ifeq, r_icmpeq, r_ifne, r_icmpne, r_iflt, r_icmplt, r_ifge, r_icmpge, r_ifgt, r_icmpgt, r_ifle, r_icmple, r_tsw, r_getI, r_getR, r_putI, r_putZ, r_iald, r_iast, r_aald, r_gets, r_copy, r_iret, r_zret, r_vret, r_mmax, r_mmin, r_callV, r_callS, r_fn, hf_pop, List.getElem?_cons_zero, List.getElem?_cons_succ, List.set_cons_zero, List.set_cons_succ, List.replicate_succ, List.replicate_zero, List.cons_append, List.nil_append, List.append_nil, List.length_cons, List.length_nil, List.take_succ_cons, List.take_zero, List.drop_succ_cons, List.drop_zero, List.reverse_cons, List.reverse_nil, List.map_cons, List.map_nil, List.sum_cons, List.sum_nil, List.all_cons, List.all_nil, Option.toList_some, Option.toList_none, Value.category, Nat.reduceAdd, Nat.reduceSub, Nat.reduceLeDiff, Nat.reduceMul, Nat.reduceLT, Nat.reduceEqDiff, beq_self_eq_true, Bool.and_self, Bool.and_true, and_self, and_true, true_and, ite_true, ite_false, if_true, if_false, ↓reduceIte, true_or, or_true, Nat.zero_add, Nat.le_refl, Nat.zero_le, not_false_eq_true, eq_self, true_implies, Int32.reduceLT, Int32.reduceLE, Int32.reduceGT, hf_rd6, hw6, iq_m6_m5, iq_m6_m4, iq_m6_m3, iq_m6_m2, iq_m6_m1, iq_m6_0, iq_m6_1, iq_m6_2, iq_m6_3, iq_m6_4, iq_m6_5, iq_m5_m6, iq_m5_m4, iq_m5_m3, iq_m5_m2, iq_m5_m1, iq_m5_0, iq_m5_1, iq_m5_2, iq_m5_3, iq_m5_4, iq_m5_5, iq_m4_m6, iq_m4_m5, iq_m4_m3, iq_m4_m2, iq_m4_m1, iq_m4_0, iq_m4_1, iq_m4_2, iq_m4_3, iq_m4_4, iq_m4_5, iq_m3_m6, iq_m3_m5, iq_m3_m4, iq_m3_m2, iq_m3_m1, iq_m3_0, iq_m3_1, iq_m3_2, iq_m3_3, iq_m3_4, iq_m3_5, iq_m2_m6, iq_m2_m5, iq_m2_m4, iq_m2_m3, iq_m2_m1, iq_m2_0, iq_m2_1, iq_m2_2, iq_m2_3, iq_m2_4, iq_m2_5, iq_m1_m6, iq_m1_m5, iq_m1_m4, iq_m1_m3, iq_m1_m2, iq_m1_0, iq_m1_1, iq_m1_2, iq_m1_3, iq_m1_4, iq_m1_5, iq_0_m6, iq_0_m5, iq_0_m4, iq_0_m3, iq_0_m2, iq_0_m1, iq_0_1, iq_0_2, iq_0_3, iq_0_4, iq_0_5, iq_1_m6, iq_1_m5, iq_1_m4, iq_1_m3, iq_1_m2, iq_1_m1, iq_1_0, iq_1_2, iq_1_3, iq_1_4, iq_1_5, iq_2_m6, iq_2_m5, iq_2_m4, iq_2_m3, iq_2_m2, iq_2_m1, iq_2_0, iq_2_1, iq_2_3, iq_2_4, iq_2_5, iq_3_m6, iq_3_m5, iq_3_m4, iq_3_m3, iq_3_m2, iq_3_m1, iq_3_0, iq_3_1, iq_3_2, iq_3_4, iq_3_5, iq_4_m6, iq_4_m5, iq_4_m4, iq_4_m3, iq_4_m2, iq_4_m1, iq_4_0, iq_4_1, iq_4_2, iq_4_3, iq_4_5, iq_5_m6, iq_5_m5, iq_5_m4, iq_5_m3, iq_5_m2, iq_5_m1, iq_5_0, iq_5_1, iq_5_2, iq_5_3, iq_5_4, ls_k8 hS, ls_t0 hS, ls_t1 hS, ls_a9 hS, ls_a10 hS, hf_inI, nI_clamp, h9, h10, e]
set_option maxRecDepth 100000 in
theorem bw_0 {N f S i k c x y : Nat} {K : hf_M} (hS : hsc S) (hk : k ≤ 8) (hi : i < k) (h3 : K (S + 8) 3 = nI k) (h9 : K (S + 9) i = nI x) (h10 : K (S + 10) i = nI y) (hxy : x ≤ y) : BX5_beginWork_2 N (f + 1) [.ref (S + 8), .int (nI c), .int (nI i)] [] K = BX5_beginWork_2 N f [.ref (S + 8), .int (nI c), .int (nI (i + 1))] [] (hf_w K (S + 11) i (nI ((y + 1 - x) * c))) := by
  have hb := hsc_b hS
  have hi8 : i < 8 := by omega
  simp (disch := omega) only [BX5_beginWork_2, r_iload, r_aload, r_istore, r_astore, r_iinc, r_const, r_dupi, r_dupr, r_dup2, r_goto, r_iadd, r_isub, r_imul, r_iand, r_ixor, r_iushr, r_idiv, r_irem, r_ifeq, r_icmpeq, r_ifne, r_icmpne, r_iflt, r_icmplt, r_ifge, r_icmpge, r_ifgt, r_icmpgt, r_ifle, r_icmple, r_tsw, r_getI, r_getR, r_putI, r_putZ, r_iald, r_iast, r_aald, r_gets, r_copy, r_iret, r_zret, r_vret, r_mmax, r_mmin, r_callV, r_callS, r_fn, hf_pop, List.getElem?_cons_zero, List.getElem?_cons_succ, List.set_cons_zero, List.set_cons_succ, List.replicate_succ, List.replicate_zero, List.cons_append, List.nil_append, List.append_nil, List.length_cons, List.length_nil, List.take_succ_cons, List.take_zero, List.drop_succ_cons, List.drop_zero, List.reverse_cons, List.reverse_nil, List.map_cons, List.map_nil, List.sum_cons, List.sum_nil, List.all_cons, List.all_nil, Option.toList_some, Option.toList_none, Value.category, Nat.reduceAdd, Nat.reduceSub, Nat.reduceLeDiff, Nat.reduceMul, Nat.reduceLT, Nat.reduceEqDiff, beq_self_eq_true, Bool.and_self, Bool.and_true, and_self, and_true, true_and, ite_true, ite_false, if_true, if_false, ↓reduceIte, true_or, or_true, Nat.zero_add, Nat.le_refl, Nat.zero_le, not_false_eq_true, eq_self, true_implies, Int32.reduceLT, Int32.reduceLE, Int32.reduceGT, hf_rd6, hw6, iq_m6_m5, iq_m6_m4, iq_m6_m3, iq_m6_m2, iq_m6_m1, iq_m6_0, iq_m6_1, iq_m6_2, iq_m6_3, iq_m6_4, iq_m6_5, iq_m5_m6, iq_m5_m4, iq_m5_m3, iq_m5_m2, iq_m5_m1, iq_m5_0, iq_m5_1, iq_m5_2, iq_m5_3, iq_m5_4, iq_m5_5, iq_m4_m6, iq_m4_m5, iq_m4_m3, iq_m4_m2, iq_m4_m1, iq_m4_0, iq_m4_1, iq_m4_2, iq_m4_3, iq_m4_4, iq_m4_5, iq_m3_m6, iq_m3_m5, iq_m3_m4, iq_m3_m2, iq_m3_m1, iq_m3_0, iq_m3_1, iq_m3_2, iq_m3_3, iq_m3_4, iq_m3_5, iq_m2_m6, iq_m2_m5, iq_m2_m4, iq_m2_m3, iq_m2_m1, iq_m2_0, iq_m2_1, iq_m2_2, iq_m2_3, iq_m2_4, iq_m2_5, iq_m1_m6, iq_m1_m5, iq_m1_m4, iq_m1_m3, iq_m1_m2, iq_m1_0, iq_m1_1, iq_m1_2, iq_m1_3, iq_m1_4, iq_m1_5, iq_0_m6, iq_0_m5, iq_0_m4, iq_0_m3, iq_0_m2, iq_0_m1, iq_0_1, iq_0_2, iq_0_3, iq_0_4, iq_0_5, iq_1_m6, iq_1_m5, iq_1_m4, iq_1_m3, iq_1_m2, iq_1_m1, iq_1_0, iq_1_2, iq_1_3, iq_1_4, iq_1_5, iq_2_m6, iq_2_m5, iq_2_m4, iq_2_m3, iq_2_m2, iq_2_m1, iq_2_0, iq_2_1, iq_2_3, iq_2_4, iq_2_5, iq_3_m6, iq_3_m5, iq_3_m4, iq_3_m3, iq_3_m2, iq_3_m1, iq_3_0, iq_3_1, iq_3_2, iq_3_4, iq_3_5, iq_4_m6, iq_4_m5, iq_4_m4, iq_4_m3, iq_4_m2, iq_4_m1, iq_4_0, iq_4_1, iq_4_2, iq_4_3, iq_4_5, iq_5_m6, iq_5_m5, iq_5_m4, iq_5_m3, iq_5_m2, iq_5_m1, iq_5_0, iq_5_1, iq_5_2, iq_5_3, iq_5_4, ls_k8 hS, ls_t2 hS, ls_a11 hS, hf_inI, nI_clamp, h3, hx_nle, ro_c hS hi8 h9 h10 hxy, pk_mul, hn_nlt, nI_p1]
theorem bw_e {N f S k c : Nat} {K : hf_M} (hS : hsc S) (hk : k ≤ 8) (h3 : K (S + 8) 3 = nI k) : BX5_beginWork_2 N (f + 1) [.ref (S + 8), .int (nI c), .int (nI k)] [] K = some (none, K) := by
  show (if hf_kd (S + 8) = 5 + 3 then (if K (S + 8) 3 ≤ nI k then _ else _) else none) = _
  rw [if_pos (ls_k8 hS), h3, if_pos (nI_le (Nat.le_refl _) (by omega))]; rfl
theorem bw_l {N S k c : Nat} {a : Nat → Nat} (hS : hsc S) (hk : k ≤ 8) (ha : ∀ i, i < k → a i < a (i + 1)) : ∀ (d i f : Nat) (K : hf_M), i + d = k → d < f → K (S + 8) 3 = nI k → (∀ i, i < k → K (S + 9) i = nI (a i) ∧ K (S + 10) i = nI (a (i + 1) - 1)) → ∃ K', BX5_beginWork_2 N f [.ref (S + 8), .int (nI c), .int (nI i)] [] K = some (none, K') ∧ (∀ j, i ≤ j → j < k → K' (S + 11) j = nI ((a (j + 1) - a j) * c)) ∧ (∀ j, j < i → K' (S + 11) j = K (S + 11) j) ∧ (∀ d, d ≠ S + 11 → K' d = K d) := by
  intro d
  induction d with
  | zero =>
    intro i f K hi hf h3 h9
    obtain ⟨f, rfl⟩ : ∃ k, f = k + 1 := ⟨f - 1, by omega⟩
    have : i = k := by omega
    subst this
    exact ⟨K, bw_e hS hk h3, fun j h1 h2 => by omega, fun _ _ => rfl, fun _ _ => rfl⟩
  | succ d ih =>
    intro i f K hi hf h3 h9
    obtain ⟨f, rfl⟩ : ∃ k, f = k + 1 := ⟨f - 1, by omega⟩
    have hai := ha i (by omega)
    obtain ⟨e1, e2⟩ := h9 i (by omega)
    obtain ⟨K', q1, q2, q3, q4⟩ := ih (i + 1) f (hf_w K (S + 11) i (nI ((a (i + 1) - 1 + 1 - a i) * c))) (by omega) (by omega) (by rw [hw_o (Or.inl (by omega))]; exact h3) (fun j hj => by rw [hw_o (Or.inl (by omega)), hw_o (Or.inl (by omega))]; exact h9 j hj)
    refine ⟨K', (bw_0 hS hk (by omega) h3 e1 e2 (by omega)).trans q1, fun j h1 h2 => ?_, fun j h1 => ?_, fun d hd => ?_⟩
    · by_cases hj : j = i
      · subst hj
        rw [q3 j (by omega), hw_s, Nat.sub_add_cancel (by omega)]
      · exact q2 j (by omega) h2
    · rw [q3 j (by omega), hw_o (Or.inr (by omega))]
    · rw [q4 d hd, hw_d hd]
set_option maxRecDepth 100000 in
theorem bs_e {N S i x y c : Nat} {K : hf_M} (hS : hsc S) (hi : i < 8) (h9 : K (S + 9) i = nI x) (h10 : K (S + 10) i = nI y) (h5 : K 7 5 = nI c) : fX1_burnStrip N [.ref 18, .ref S, .ref 7, .int (nI i)] K = BX1_burnStrip_38 N N [.ref 18, .ref S, .ref 7, .int (nI i), .int (nI (x * c)), .int (nI ((y + 1) * c)), .int (nI (x * c))] [] K := by
  have hb := hsc_b hS
  simp (disch := omega) only [fX1_burnStrip, EX1_burnStrip, r_iload, r_aload, r_istore, r_astore, r_iinc, r_const, r_dupi, r_dupr, r_dup2, r_goto, r_iadd, r_isub, r_imul, r_iand, r_ixor, r_iushr, r_idiv, r_irem, r_ifeq, r_icmpeq, r_ifne, r_icmpne, r_iflt, r_icmplt, r_ifge, r_icmpge, r_ifgt, r_icmpgt, r_ifle, r_icmple, r_tsw, r_getI, r_getR, r_putI, r_putZ, r_iald, r_iast, r_aald, r_gets, r_copy, r_iret, r_zret, r_vret, r_mmax, r_mmin, r_callV, r_callS, r_fn, hf_pop, List.getElem?_cons_zero, List.getElem?_cons_succ, List.set_cons_zero, List.set_cons_succ, List.replicate_succ, List.replicate_zero, List.cons_append, List.nil_append, List.append_nil, List.length_cons, List.length_nil, List.take_succ_cons, List.take_zero, List.drop_succ_cons, List.drop_zero, List.reverse_cons, List.reverse_nil, List.map_cons, List.map_nil, List.sum_cons, List.sum_nil, List.all_cons, List.all_nil, Option.toList_some, Option.toList_none, Value.category, Nat.reduceAdd, Nat.reduceSub, Nat.reduceLeDiff, Nat.reduceMul, Nat.reduceLT, Nat.reduceEqDiff, beq_self_eq_true, Bool.and_self, Bool.and_true, and_self, and_true, true_and, ite_true, ite_false, if_true, if_false, ↓reduceIte, true_or, or_true, Nat.zero_add, Nat.le_refl, Nat.zero_le, not_false_eq_true, eq_self, true_implies, Int32.reduceLT, Int32.reduceLE, Int32.reduceGT, hf_rd6, hw6, iq_m6_m5, iq_m6_m4, iq_m6_m3, iq_m6_m2, iq_m6_m1, iq_m6_0, iq_m6_1, iq_m6_2, iq_m6_3, iq_m6_4, iq_m6_5, iq_m5_m6, iq_m5_m4, iq_m5_m3, iq_m5_m2, iq_m5_m1, iq_m5_0, iq_m5_1, iq_m5_2, iq_m5_3, iq_m5_4, iq_m5_5, iq_m4_m6, iq_m4_m5, iq_m4_m3, iq_m4_m2, iq_m4_m1, iq_m4_0, iq_m4_1, iq_m4_2, iq_m4_3, iq_m4_4, iq_m4_5, iq_m3_m6, iq_m3_m5, iq_m3_m4, iq_m3_m2, iq_m3_m1, iq_m3_0, iq_m3_1, iq_m3_2, iq_m3_3, iq_m3_4, iq_m3_5, iq_m2_m6, iq_m2_m5, iq_m2_m4, iq_m2_m3, iq_m2_m1, iq_m2_0, iq_m2_1, iq_m2_2, iq_m2_3, iq_m2_4, iq_m2_5, iq_m1_m6, iq_m1_m5, iq_m1_m4, iq_m1_m3, iq_m1_m2, iq_m1_0, iq_m1_1, iq_m1_2, iq_m1_3, iq_m1_4, iq_m1_5, iq_0_m6, iq_0_m5, iq_0_m4, iq_0_m3, iq_0_m2, iq_0_m1, iq_0_1, iq_0_2, iq_0_3, iq_0_4, iq_0_5, iq_1_m6, iq_1_m5, iq_1_m4, iq_1_m3, iq_1_m2, iq_1_m1, iq_1_0, iq_1_2, iq_1_3, iq_1_4, iq_1_5, iq_2_m6, iq_2_m5, iq_2_m4, iq_2_m3, iq_2_m2, iq_2_m1, iq_2_0, iq_2_1, iq_2_3, iq_2_4, iq_2_5, iq_3_m6, iq_3_m5, iq_3_m4, iq_3_m3, iq_3_m2, iq_3_m1, iq_3_0, iq_3_1, iq_3_2, iq_3_4, iq_3_5, iq_4_m6, iq_4_m5, iq_4_m4, iq_4_m3, iq_4_m2, iq_4_m1, iq_4_0, iq_4_1, iq_4_2, iq_4_3, iq_4_5, iq_5_m6, iq_5_m5, iq_5_m4, iq_5_m3, iq_5_m2, iq_5_m1, iq_5_0, iq_5_1, iq_5_2, iq_5_3, iq_5_4, ls_k hS, ls_r7 hS, ls_k8 hS, ls_t0 hS, ls_t1 hS, ls_a9 hS, ls_a10 hS, lk_7, hf_inI, nI_clamp, h9, h10, h5, pk_mul, nI_p1]
set_option maxRecDepth 100000 in
theorem bs_0 {N f S n hi : Nat} {lo i : Int32} {K : hf_M} (hS : hsc S) (hn : n < hi) (hhi : hi ≤ 256) (hs : (K (S + 1) n = 2) = False) : BX1_burnStrip_38 N (f + 1) [.ref 18, .ref S, .ref 7, .int i, .int lo, .int (nI hi), .int (nI n)] [] K = BX1_burnStrip_38 N f [.ref 18, .ref S, .ref 7, .int i, .int lo, .int (nI hi), .int (nI (n + 1))] [] (hf_w K 19 n 0) := by
  have hb := hsc_b hS
  simp (disch := omega) only [BX1_burnStrip_38, r_iload, r_aload, r_istore, r_astore, r_iinc, r_const, r_dupi, r_dupr, r_dup2, r_goto, r_iadd, r_isub, r_imul, r_iand, r_ixor, r_iushr, r_idiv, r_irem, r_ifeq, r_icmpeq, r_ifne, r_icmpne, r_iflt, r_icmplt, r_ifge, r_icmpge, r_ifgt, r_icmpgt, r_ifle, r_icmple, r_tsw, r_getI, r_getR, r_putI, r_putZ, r_iald, r_iast, r_aald, r_gets, r_copy, r_iret, r_zret, r_vret, r_mmax, r_mmin, r_callV, r_callS, r_fn, hf_pop, List.getElem?_cons_zero, List.getElem?_cons_succ, List.set_cons_zero, List.set_cons_succ, List.replicate_succ, List.replicate_zero, List.cons_append, List.nil_append, List.append_nil, List.length_cons, List.length_nil, List.take_succ_cons, List.take_zero, List.drop_succ_cons, List.drop_zero, List.reverse_cons, List.reverse_nil, List.map_cons, List.map_nil, List.sum_cons, List.sum_nil, List.all_cons, List.all_nil, Option.toList_some, Option.toList_none, Value.category, Nat.reduceAdd, Nat.reduceSub, Nat.reduceLeDiff, Nat.reduceMul, Nat.reduceLT, Nat.reduceEqDiff, beq_self_eq_true, Bool.and_self, Bool.and_true, and_self, and_true, true_and, ite_true, ite_false, if_true, if_false, ↓reduceIte, true_or, or_true, Nat.zero_add, Nat.le_refl, Nat.zero_le, not_false_eq_true, eq_self, true_implies, Int32.reduceLT, Int32.reduceLE, Int32.reduceGT, hf_rd6, hw6, iq_m6_m5, iq_m6_m4, iq_m6_m3, iq_m6_m2, iq_m6_m1, iq_m6_0, iq_m6_1, iq_m6_2, iq_m6_3, iq_m6_4, iq_m6_5, iq_m5_m6, iq_m5_m4, iq_m5_m3, iq_m5_m2, iq_m5_m1, iq_m5_0, iq_m5_1, iq_m5_2, iq_m5_3, iq_m5_4, iq_m5_5, iq_m4_m6, iq_m4_m5, iq_m4_m3, iq_m4_m2, iq_m4_m1, iq_m4_0, iq_m4_1, iq_m4_2, iq_m4_3, iq_m4_4, iq_m4_5, iq_m3_m6, iq_m3_m5, iq_m3_m4, iq_m3_m2, iq_m3_m1, iq_m3_0, iq_m3_1, iq_m3_2, iq_m3_3, iq_m3_4, iq_m3_5, iq_m2_m6, iq_m2_m5, iq_m2_m4, iq_m2_m3, iq_m2_m1, iq_m2_0, iq_m2_1, iq_m2_2, iq_m2_3, iq_m2_4, iq_m2_5, iq_m1_m6, iq_m1_m5, iq_m1_m4, iq_m1_m3, iq_m1_m2, iq_m1_0, iq_m1_1, iq_m1_2, iq_m1_3, iq_m1_4, iq_m1_5, iq_0_m6, iq_0_m5, iq_0_m4, iq_0_m3, iq_0_m2, iq_0_m1, iq_0_1, iq_0_2, iq_0_3, iq_0_4, iq_0_5, iq_1_m6, iq_1_m5, iq_1_m4, iq_1_m3, iq_1_m2, iq_1_m1, iq_1_0, iq_1_2, iq_1_3, iq_1_4, iq_1_5, iq_2_m6, iq_2_m5, iq_2_m4, iq_2_m3, iq_2_m2, iq_2_m1, iq_2_0, iq_2_1, iq_2_3, iq_2_4, iq_2_5, iq_3_m6, iq_3_m5, iq_3_m4, iq_3_m3, iq_3_m2, iq_3_m1, iq_3_0, iq_3_1, iq_3_2, iq_3_4, iq_3_5, iq_4_m6, iq_4_m5, iq_4_m4, iq_4_m3, iq_4_m2, iq_4_m1, iq_4_0, iq_4_1, iq_4_2, iq_4_3, iq_4_5, iq_5_m6, iq_5_m5, iq_5_m4, iq_5_m3, iq_5_m2, iq_5_m1, iq_5_0, iq_5_1, iq_5_2, iq_5_3, iq_5_4, lk_18, lr_18_0, la_19, ls_k hS, ls_r0 hS, ls_a1 hS, hx_nle, hf_inI, nI_clamp, hn_ne, hn_nlt, hs, nI_p1]
set_option maxRecDepth 100000 in
theorem bs_1 {N f S n lo hi i gn : Nat} {b x y : Int32} {K K2 K3 : hf_M} (hS : hsc S) (hn : n < hi) (hhi : hi ≤ 256) (hi8 : i < 8) (hs : K (S + 1) n = 2) (hg8 : K 8 n = nI gn) (hg5 : gn ≤ 5) (hb : (if K (S + 2) n < hf_tab 4 gn then K (S + 2) n else hf_tab 4 gn) = b) (e1 : fX1_giveHeat N [.ref 18, .ref 7, .int (nI n), .int (nI lo), .int (nI hi)] (hf_w (hf_w (hf_w (hf_w K 19 n 0) (S + 11) i (K (S + 11) i + 4)) 19 n b) S 11 (K S 11 + b)) = some (some (Value.int x), K2)) (e2 : fX1_throwEmber N [.ref 18, .ref S, .ref 7, .int (nI n), .int (nI lo), .int (nI hi)] K2 = some (some (Value.int y), K3)) : BX1_burnStrip_38 N (f + 1) [.ref 18, .ref S, .ref 7, .int (nI i), .int (nI lo), .int (nI hi), .int (nI n)] [] K = BX1_burnStrip_38 N f [.ref 18, .ref S, .ref 7, .int (nI i), .int (nI lo), .int (nI hi), .int (nI (n + 1))] [] (hf_w K3 S 12 (K S 12 + (x + y))) := by
  have hSb := hsc_b hS
  simp (disch := omega) only [BX1_burnStrip_38, r_iload, r_aload, r_istore, r_astore, r_iinc, r_const, r_dupi, r_dupr, r_dup2, r_goto, r_iadd, r_isub, r_imul, r_iand, r_ixor, r_iushr, r_idiv, r_irem, r_ifeq, r_icmpeq, r_ifne, r_icmpne, r_iflt, r_icmplt, r_ifge, r_icmpge, r_ifgt, r_icmpgt, r_ifle, r_icmple, r_tsw, r_getI, r_getR, r_putI, r_putZ, r_iald, r_iast, r_aald, r_gets, r_copy, r_iret, r_zret, r_vret, r_mmax, r_mmin, r_callV, r_callS, r_fn, hf_pop, List.getElem?_cons_zero, List.getElem?_cons_succ, List.set_cons_zero, List.set_cons_succ, List.replicate_succ, List.replicate_zero, List.cons_append, List.nil_append, List.append_nil, List.length_cons, List.length_nil, List.take_succ_cons, List.take_zero, List.drop_succ_cons, List.drop_zero, List.reverse_cons, List.reverse_nil, List.map_cons, List.map_nil, List.sum_cons, List.sum_nil, List.all_cons, List.all_nil, Option.toList_some, Option.toList_none, Value.category, Nat.reduceAdd, Nat.reduceSub, Nat.reduceLeDiff, Nat.reduceMul, Nat.reduceLT, Nat.reduceEqDiff, beq_self_eq_true, Bool.and_self, Bool.and_true, and_self, and_true, true_and, ite_true, ite_false, if_true, if_false, ↓reduceIte, true_or, or_true, Nat.zero_add, Nat.le_refl, Nat.zero_le, not_false_eq_true, eq_self, true_implies, Int32.reduceLT, Int32.reduceLE, Int32.reduceGT, hf_rd6, hw6, iq_m6_m5, iq_m6_m4, iq_m6_m3, iq_m6_m2, iq_m6_m1, iq_m6_0, iq_m6_1, iq_m6_2, iq_m6_3, iq_m6_4, iq_m6_5, iq_m5_m6, iq_m5_m4, iq_m5_m3, iq_m5_m2, iq_m5_m1, iq_m5_0, iq_m5_1, iq_m5_2, iq_m5_3, iq_m5_4, iq_m5_5, iq_m4_m6, iq_m4_m5, iq_m4_m3, iq_m4_m2, iq_m4_m1, iq_m4_0, iq_m4_1, iq_m4_2, iq_m4_3, iq_m4_4, iq_m4_5, iq_m3_m6, iq_m3_m5, iq_m3_m4, iq_m3_m2, iq_m3_m1, iq_m3_0, iq_m3_1, iq_m3_2, iq_m3_3, iq_m3_4, iq_m3_5, iq_m2_m6, iq_m2_m5, iq_m2_m4, iq_m2_m3, iq_m2_m1, iq_m2_0, iq_m2_1, iq_m2_2, iq_m2_3, iq_m2_4, iq_m2_5, iq_m1_m6, iq_m1_m5, iq_m1_m4, iq_m1_m3, iq_m1_m2, iq_m1_0, iq_m1_1, iq_m1_2, iq_m1_3, iq_m1_4, iq_m1_5, iq_0_m6, iq_0_m5, iq_0_m4, iq_0_m3, iq_0_m2, iq_0_m1, iq_0_1, iq_0_2, iq_0_3, iq_0_4, iq_0_5, iq_1_m6, iq_1_m5, iq_1_m4, iq_1_m3, iq_1_m2, iq_1_m1, iq_1_0, iq_1_2, iq_1_3, iq_1_4, iq_1_5, iq_2_m6, iq_2_m5, iq_2_m4, iq_2_m3, iq_2_m2, iq_2_m1, iq_2_0, iq_2_1, iq_2_3, iq_2_4, iq_2_5, iq_3_m6, iq_3_m5, iq_3_m4, iq_3_m3, iq_3_m2, iq_3_m1, iq_3_0, iq_3_1, iq_3_2, iq_3_4, iq_3_5, iq_4_m6, iq_4_m5, iq_4_m4, iq_4_m3, iq_4_m2, iq_4_m1, iq_4_0, iq_4_1, iq_4_2, iq_4_3, iq_4_5, iq_5_m6, iq_5_m5, iq_5_m4, iq_5_m3, iq_5_m2, iq_5_m1, iq_5_0, iq_5_1, iq_5_2, iq_5_3, iq_5_4, lk_18, lr_18_0, la_19, ls_k hS, ls_r0 hS, ls_a1 hS, ls_r1 hS, ls_a2 hS, ls_r7 hS, ls_k8 hS, ls_t2 hS, ls_a11 hS, lk_7, lr_7_0, la_8, al_4, rd_t4, hx_nle, hf_inI, nI_clamp, hn_ne, hn_nlt, hs, hg8, hb, e1, e2, nI_p1]
/-- how many cells below n that are alight lie in strip i -/
def hp_al (st : Nat → Int32) (si : Nat → Nat) : Nat → Nat → Nat
  | 0, _ => 0
  | n + 1, i => hp_al st si n i + (if st n = 2 ∧ si n = i then 1 else 0)
def hp_bt (st bv : Nat → Int32) (b0 : Int32) : Nat → Int32
  | 0 => b0
  | n + 1 => if st n = 2 then hp_bt st bv b0 n + bv n else hp_bt st bv b0 n
theorem hp_al_le (st : Nat → Int32) (si : Nat → Nat) : ∀ n i, hp_al st si n i ≤ n := by
  intro n
  induction n with
  | zero => intro i; exact Nat.le_refl _
  | succ n ih =>
    intro i
    have := ih i
    unfold hp_al
    split <;> omega
/-- the class's memory while it burns: cells below n are done -/
def hBI (S k c : Nat) (a : Nat → Nat) (bv : Nat → Int32) (I K : hf_M) (T : hT) (n : Nat) (bt : Int32) (al : Nat → Nat) : Prop := K 20 = T.1 ∧ K S 12 = T.2.1 ∧ K S 10 = T.2.2 ∧ K S 11 = bt ∧ (∀ j, K 19 j = if j < n then bv j else I 19 j) ∧ (∀ i, i < k → K (S + 11) i = nI ((a (i + 1) - a i) * c + 4 * al i)) ∧ (∀ j, j ≠ 10 → j ≠ 11 → j ≠ 12 → K S j = I S j) ∧ (∀ d, d ≠ 20 → d ≠ 19 → d ≠ S + 11 → d ≠ S → K d = I d)
theorem cp_r (I : hf_M) (d : Nat) (f : Nat → Int32) (e : Nat) : hf_cp I d f e = if e = d then f else I e := rfl
/-- what the step knows of the class's memory I as the burning begins -/
def hBC (r c w s S k : Nat) (a : Nat → Nat) (h bv st : Nat → Int32) (gr : Nat → Nat) (sd sp : Int32) (I : hf_M) : Prop := hsc S ∧ hbf r c w s h I ∧ 1 ≤ k ∧ k ≤ 8 ∧ a 0 = 0 ∧ a k = r ∧ (∀ i, i < k → a i < a (i + 1)) ∧ I 18 4 = sd ∧ I 18 3 = sp ∧ (∀ n, n < r * c → I (S + 1) n = st n ∧ I 8 n = nI (gr n) ∧ gr n ≤ 5 ∧ bv n = if st n = 2 then (if I (S + 2) n < hf_tab 4 (gr n) then I (S + 2) n else hf_tab 4 (gr n)) else 0) ∧ I (S + 8) 3 = nI k ∧ ∀ i, i < k → I (S + 9) i = nI (a i) ∧ I (S + 10) i = nI (a (i + 1) - 1)
theorem bs_l {N r c w s S k i : Nat} {a : Nat → Nat} {h bv st : Nat → Int32} {gr : Nat → Nat} {sd sp b0 : Int32} {I : hf_M} {T0 : hT} (hN : 8 < N) (hB : hBC r c w s S k a h bv st gr sd sp I) (hi : i < k) : ∀ (d n f : Nat) (K : hf_M), n + d = a (i + 1) * c → d < f → a i * c ≤ n → hBI S k c a bv I K (hp_T r c w s h bv gr sd sp (hp_X a k c) st n T0) n (hp_bt st bv b0 n) (hp_al st (fun n => hp_si a k (n / c)) n) → ∃ K', BX1_burnStrip_38 N f [.ref 18, .ref S, .ref 7, .int (nI i), .int (nI (a i * c)), .int (nI (a (i + 1) * c)), .int (nI n)] [] K = some (none, K') ∧ hBI S k c a bv I K' (hp_T r c w s h bv gr sd sp (hp_X a k c) st (a (i + 1) * c) T0) (a (i + 1) * c) (hp_bt st bv b0 (a (i + 1) * c)) (hp_al st (fun n => hp_si a k (n / c)) (a (i + 1) * c)) := by
  obtain ⟨hS, hf, k1, k8, a0, ak, am, h4, h3, hcl, hk3, hst⟩ := hB
  have hSb := hsc_b hS
  have hg := hf.1
  have h256 := hg.2.2.2.1
  have hle : a (i + 1) * c ≤ r * c := Nat.mul_le_mul_right _ (by rw [← ak]; exact a_mono am k (i + 1) (by omega) (Nat.le_refl _))
  have hle0 : a i * c ≤ r * c := Nat.mul_le_mul_right _ (by rw [← ak]; exact a_mono am k i (by omega) (Nat.le_refl _))
  intro d
  induction d with
  | zero =>
    intro n f K hn hf' hlo hI
    obtain ⟨f, rfl⟩ : ∃ k, f = k + 1 := ⟨f - 1, by omega⟩
    have : n = a (i + 1) * c := by omega
    subst this
    refine ⟨K, ?_, hI⟩
    show (if nI (a (i + 1) * c) ≤ nI (a (i + 1) * c) then _ else _) = _
    rw [if_pos (nI_le (Nat.le_refl _) (by omega))]; rfl
  | succ d ih =>
    intro n f K hn hf' hlo hI
    obtain ⟨f, rfl⟩ : ∃ k, f = k + 1 := ⟨f - 1, by omega⟩
    have hnr : n < r * c := by omega
    obtain ⟨q1, q2, q3, q4⟩ := hcl n hnr
    obtain ⟨i1, i2, i3, i4, i5, i6, i7, i8⟩ := id hI
    have hsi : hp_si a k (n / c) = i := si_eq am a0 hi (by rw [Nat.le_div_iff_mul_le hg.2.1]; exact hlo) (by rw [← div_lo hg.2.1]; omega)
    have hK1 : K (S + 1) n = st n := by rw [i8 (S + 1) (by omega) (by omega) (by omega) (by omega)]; exact q1
    have hK2 : K (S + 2) n = I (S + 2) n := by rw [i8 (S + 2) (by omega) (by omega) (by omega) (by omega)]
    have hK8 : K 8 n = nI (gr n) := by rw [i8 8 (by omega) (by omega) (by omega) (by omega)]; exact q2
    by_cases hs : st n = 2
    · have hbn : (if K (S + 2) n < hf_tab 4 (gr n) then K (S + 2) n else hf_tab 4 (gr n)) = bv n := by rw [hK2, q4, if_pos hs]
      have g7 : ∀ d, d ≠ 19 → d ≠ S + 11 → d ≠ S → hf_w (hf_w (hf_w (hf_w K 19 n 0) (S + 11) i (K (S + 11) i + 4)) 19 n (bv n)) S 11 (K S 11 + bv n) d = K d := fun d x1 x2 x3 => by rw [hw_d x3, hw_d x1, hw_d x2, hw_d x1]
      have hbf1 : hbf r c w s h (hf_w (hf_w (hf_w (hf_w K 19 n 0) (S + 11) i (K (S + 11) i + 4)) 19 n (bv n)) S 11 (K S 11 + bv n)) := hbf_c (I := I) (by rw [g7 7 (by decide) (by omega) (by omega)]; exact i8 7 (by decide) (by decide) (by omega) (by omega)) (by rw [g7 11 (by decide) (by omega) (by omega)]; exact i8 11 (by decide) (by decide) (by omega) (by omega)) (by rw [g7 18 (by decide) (by omega) (by omega)]; exact i8 18 (by decide) (by decide) (by omega) (by omega)) hf
      have e1 := gh_f (N := N) (lo := a i * c) (hi := a (i + 1) * c) hN hnr (by omega) (by omega) hbf1 (b := bv n) (by rw [hw_o (Or.inl (by omega)), hw_s])
      have g20 : hf_w (hf_w (hf_w (hf_w K 19 n 0) (S + 11) i (K (S + 11) i + 4)) 19 n (bv n)) S 11 (K S 11 + bv n) 20 = K 20 := g7 20 (by decide) (by omega) (by omega)
      rw [g20, i1] at e1
      have hXn : hp_X a k c n = hp_xs (a i * c) (a (i + 1) * c) := by
        funext m
        unfold hp_X
        rw [hsi]
      have hTn : hp_T r c w s h bv gr sd sp (hp_X a k c) st (n + 1) T0 = hp_ce (hp_T r c w s h bv gr sd sp (hp_X a k c) st n T0) (hp_gl r c w s h (bv n) n (hp_xs (a i * c) (a (i + 1) * c)) 8 0 ((hp_T r c w s h bv gr sd sp (hp_X a k c) st n T0).1, 0)) (hp_xs (a i * c) (a (i + 1) * c)) (hp_tg r c w s (gr n) (hp_z sd sp n 0) (hp_z sd sp n 1) n) := by
        show (if st n = 2 then _ else _) = _
        rw [if_pos hs]
        unfold hp_cb
        rw [hXn]
      have hbtn : hp_bt st bv b0 (n + 1) = hp_bt st bv b0 n + bv n := by
        show (if st n = 2 then _ else _) = _
        rw [if_pos hs]
      have haln : ∀ i', hp_al st (fun n => hp_si a k (n / c)) (n + 1) i' = hp_al st (fun n => hp_si a k (n / c)) n i' + (if i = i' then 1 else 0) := by
        intro i'
        show hp_al st (fun n => hp_si a k (n / c)) n i' + (if st n = 2 ∧ hp_si a k (n / c) = i' then 1 else 0) = _
        rw [hsi]
        simp only [hs, true_and]
      generalize hp_gl r c w s h (bv n) n (hp_xs (a i * c) (a (i + 1) * c)) 8 0 ((hp_T r c w s h bv gr sd sp (hp_X a k c) st n T0).1, 0) = G at e1 hTn
      have g7' : ∀ d, d ≠ 20 → d ≠ 19 → d ≠ S + 11 → d ≠ S → hf_cp (hf_w (hf_w (hf_w (hf_w K 19 n 0) (S + 11) i (K (S + 11) i + 4)) 19 n (bv n)) S 11 (K S 11 + bv n)) 20 G.1 d = I d := fun d x0 x1 x2 x3 => by rw [cp_r, if_neg x0, g7 d x1 x2 x3]; exact i8 d x0 x1 x2 x3
      have e2 := te_f (N := N) (S := S) (n := n) (gn := gr n) (lo := a i * c) (hi := a (i + 1) * c) (sd := sd) (sp := sp) (I := hf_cp (hf_w (hf_w (hf_w (hf_w K 19 n 0) (S + 11) i (K (S + 11) i + 4)) 19 n (bv n)) S 11 (K S 11 + bv n)) 20 G.1) hS (hbf_c (g7' 7 (by decide) (by decide) (by omega) (by omega)) (g7' 11 (by decide) (by decide) (by omega) (by omega)) (g7' 18 (by decide) (by decide) (by omega) (by omega)) hf) hnr (by rw [g7' 8 (by decide) (by decide) (by omega) (by omega)]; exact q2) q3 (by rw [g7' 18 (by decide) (by decide) (by omega) (by omega)]; exact h4) (by rw [g7' 18 (by decide) (by decide) (by omega) (by omega)]; exact h3) (by omega) (by omega)
      cases et : hp_tg r c w s (gr n) (hp_z sd sp n 0) (hp_z sd sp n 1) n with
      | none =>
        rw [et] at e2 hTn
        rw [bs_1 hS (by omega) (by omega) (by omega) (by rw [hK1]; exact hs) hK8 q3 hbn e1 e2]
        refine ih (n + 1) f _ (by omega) (by omega) (by omega) ?_
        rw [hTn, hbtn]
        refine ⟨?_, ?_, ?_, ?_, fun j => ?_, fun i' hi' => ?_, fun j j1 j2 j3 => ?_, fun d x0 x1 x2 x3 => ?_⟩
        · rw [hw_d (by omega), cp_r, if_pos rfl]; rfl
        · rw [hw_s, i2]; rfl
        · rw [hw_o (Or.inr (by decide)), cp_r, if_neg (by omega), hw_o (Or.inr (by decide)), hw_o (Or.inl (by omega)), hw_o (Or.inl (by omega)), hw_o (Or.inl (by omega))]; exact i3
        · rw [hw_o (Or.inr (by decide)), cp_r, if_neg (by omega), hw_s, i4]
        · rw [hw_o (Or.inl (by omega)), cp_r, if_neg (by omega), hw_o (Or.inl (by omega)), hw6, if_pos rfl, hw_o (Or.inl (by omega)), hw6, if_pos rfl, i5 j]
          by_cases hj : j = n
          · subst hj; rw [if_pos rfl, if_pos (by omega)]
          · rw [if_neg hj, if_neg hj]
            by_cases hl : j < n
            · rw [if_pos hl, if_pos (by omega)]
            · rw [if_neg hl, if_neg (by omega)]
        · rw [hw_o (Or.inl (by omega)), cp_r, if_neg (by omega), hw_o (Or.inl (by omega)), hw_o (Or.inl (by omega)), hw6, if_pos rfl, haln i']
          by_cases hii : i' = i
          · subst hii
            rw [if_pos rfl, if_pos rfl, i6 i' hi', (by rfl : (4 : Int32) = nI 4), nI_add]
            congr 1
          · rw [if_neg hii, if_neg (fun z => hii z.symm), hw_o (Or.inl (by omega)), i6 i' hi']
            rfl
        · rw [hw_o (Or.inr j3), cp_r, if_neg (by omega), hw_o (Or.inr j2), hw_o (Or.inl (by omega)), hw_o (Or.inl (by omega)), hw_o (Or.inl (by omega))]; exact i7 j j1 j2 j3
        · rw [hw_d x3, cp_r, if_neg x0, hw_d x3, hw_d x1, hw_d x2, hw_d x1]; exact i8 d x0 x1 x2 x3
      | some m =>
        rw [et] at e2 hTn
        simp only [cp_r, if_true, reduceIte] at e2
        rw [bs_1 hS (by omega) (by omega) (by omega) (by rw [hK1]; exact hs) hK8 q3 hbn e1 e2]
        refine ih (n + 1) f _ (by omega) (by omega) (by omega) ?_
        rw [hTn, hbtn]
        refine ⟨?_, ?_, ?_, ?_, fun j => ?_, fun i' hi' => ?_, fun j j1 j2 j3 => ?_, fun d x0 x1 x2 x3 => ?_⟩
        · rw [hw_d (by omega), hw_d (by omega), hw_r, if_pos rfl, cp_r, if_pos rfl]; rfl
        · rw [hw_s, i2]; rfl
        · rw [hw_o (Or.inr (by decide)), hw_s, if_neg (by omega), hw_o (Or.inr (by decide)), hw_o (Or.inl (by omega)), hw_o (Or.inl (by omega)), hw_o (Or.inl (by omega)), i3]; rfl
        · rw [hw_o (Or.inr (by decide)), hw_o (Or.inr (by decide)), hw_o (Or.inl (by omega)), cp_r, if_neg (by omega), hw_s, i4]
        · rw [hw_o (Or.inl (by omega)), hw_o (Or.inl (by omega)), hw_o (Or.inl (by omega)), cp_r, if_neg (by omega), hw_o (Or.inl (by omega)), hw6, if_pos rfl, hw_o (Or.inl (by omega)), hw6, if_pos rfl, i5 j]
          by_cases hj : j = n
          · subst hj; rw [if_pos rfl, if_pos (by omega)]
          · rw [if_neg hj, if_neg hj]
            by_cases hl : j < n
            · rw [if_pos hl, if_pos (by omega)]
            · rw [if_neg hl, if_neg (by omega)]
        · rw [hw_o (Or.inl (by omega)), hw_o (Or.inl (by omega)), hw_o (Or.inl (by omega)), cp_r, if_neg (by omega), hw_o (Or.inl (by omega)), hw_o (Or.inl (by omega)), hw6, if_pos rfl, haln i']
          by_cases hii : i' = i
          · subst hii
            rw [if_pos rfl, if_pos rfl, i6 i' hi', (by rfl : (4 : Int32) = nI 4), nI_add]
            congr 1
          · rw [if_neg hii, if_neg (fun z => hii z.symm), hw_o (Or.inl (by omega)), i6 i' hi']
            rfl
        · rw [hw_o (Or.inr j3), hw_o (Or.inr j1), hw_o (Or.inl (by omega)), cp_r, if_neg (by omega), hw_o (Or.inr j2), hw_o (Or.inl (by omega)), hw_o (Or.inl (by omega)), hw_o (Or.inl (by omega))]; exact i7 j j1 j2 j3
        · rw [hw_d x3, hw_d x3, hw_d x0, cp_r, if_neg x0, hw_d x3, hw_d x1, hw_d x2, hw_d x1]; exact i8 d x0 x1 x2 x3
    · rw [bs_0 hS (by omega) (by omega) (eq_false (by rw [hK1]; exact hs))]
      refine ih (n + 1) f _ (by omega) (by omega) (by omega) ?_
      have hTn : hp_T r c w s h bv gr sd sp (hp_X a k c) st (n + 1) T0 = hp_T r c w s h bv gr sd sp (hp_X a k c) st n T0 := by
        show (if st n = 2 then _ else _) = _
        rw [if_neg hs]
      have hbtn : hp_bt st bv b0 (n + 1) = hp_bt st bv b0 n := by
        show (if st n = 2 then _ else _) = _
        rw [if_neg hs]
      have haln : ∀ i', hp_al st (fun n => hp_si a k (n / c)) (n + 1) i' = hp_al st (fun n => hp_si a k (n / c)) n i' := by
        intro i'
        show hp_al st (fun n => hp_si a k (n / c)) n i' + (if st n = 2 ∧ hp_si a k (n / c) = i' then 1 else 0) = _
        rw [if_neg (fun z => hs z.1)]; rfl
      rw [hTn, hbtn]
      refine ⟨?_, ?_, ?_, ?_, fun j => ?_, fun i' hi' => ?_, fun j j1 j2 j3 => ?_, fun d x0 x1 x2 x3 => ?_⟩
      · rw [hw_d (by decide)]; exact i1
      · rw [hw_d (by omega)]; exact i2
      · rw [hw_d (by omega)]; exact i3
      · rw [hw_d (by omega)]; exact i4
      · rw [hw6, if_pos rfl, i5 j]
        by_cases hj : j = n
        · subst hj; rw [if_pos rfl, if_pos (by omega), q4, if_neg hs]
        · rw [if_neg hj]
          by_cases hl : j < n
          · rw [if_pos hl, if_pos (by omega)]
          · rw [if_neg hl, if_neg (by omega)]
      · rw [hw_d (by omega), haln i']; exact i6 i' hi'
      · rw [hw_d (by omega)]; exact i7 j j1 j2 j3
      · rw [hw_d x1]; exact i8 d x0 x1 x2 x3
