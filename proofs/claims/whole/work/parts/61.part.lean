/-! strips -/
def hp_pa (R n j : Nat) : Nat := j * (R / n) + min j (R % n)
theorem hp_pa_n {R n : Nat} (hn : 0 < n) : hp_pa R n n = R := by
  unfold hp_pa
  have h1 := Nat.div_add_mod R n
  have h2 := Nat.mod_lt R hn
  rw [Nat.min_eq_right (by omega)]
  exact h1
theorem hp_pa_s (R n j : Nat) : hp_pa R n (j + 1) = hp_pa R n j + (R / n + (if j < R % n then 1 else 0)) := by
  unfold hp_pa
  rw [Nat.add_mul, Nat.one_mul]
  split <;> omega
theorem hp_pa_lt {R n j : Nat} (hn : 0 < n) (hR : n ≤ R) : hp_pa R n j < hp_pa R n (j + 1) := by
  rw [hp_pa_s]
  have : 1 ≤ R / n := (Nat.le_div_iff_mul_le hn).mpr (by omega)
  omega
theorem hp_pa_le {R n j : Nat} (hn : 0 < n) (hR : n ≤ R) (hj : j ≤ n) : hp_pa R n j ≤ R := by
  have := a_mono (a := hp_pa R n) (k := n) (fun i _ => hp_pa_lt hn hR) n j hj (Nat.le_refl _)
  rw [hp_pa_n hn] at this
  exact this
theorem nI_sub1 {z : Nat} (h : 1 ≤ z) : nI z - 1 = nI (z - 1) := by
  obtain ⟨y, rfl⟩ : ∃ y, z = y + 1 := ⟨z - 1, by omega⟩
  exact nI_pred y
set_option maxRecDepth 100000 in
theorem pt_0 {N f S R n j x : Nat} {I : hf_M} {u : Value} (hS : hsc S) (n1 : 1 ≤ n) (n8 : n ≤ 8) (hR : R ≤ 16) (hj : j < n) (hx : x ≤ 16) (hd : 1 ≤ R / n) (hl : j < R % n) : BX5_part_5 N (f + 1) [.ref (S + 8), .int (nI R), .int (nI n), .int (nI x), .int (nI j), u] [] I = BX5_part_5 N f [.ref (S + 8), .int (nI R), .int (nI n), .int (nI (x + (R / n + 1))), .int (nI (j + 1)), .int 1] [] (hf_w (hf_w (hf_w I (S + 9) j (nI x)) (S + 10) j (nI (x + (R / n + 1) - 1))) (S + 11) j 0) := by
  have hb := hsc_b hS
  have h0 : (nI n = 0) = False := eq_false (nI_ne0 n1 (by omega))
  have d1 : R / n ≤ R := Nat.div_le_self _ _
  have d2 : R % n ≤ R := Nat.mod_le _ _
  have es : nI (x + (R / n + 1)) - 1 = nI (x + (R / n + 1) - 1) := nI_sub1 (by omega)
  simp (disch := omega) only [BX5_part_5, BX5_part_24, r_iload, r_aload, r_istore, r_astore, r_iinc, r_const, r_dupi, r_dupr, r_dup2, r_goto, r_iadd, r_isub, r_imul, r_iand, r_ixor, r_iushr, r_idiv, r_irem, r_ifeq, r_icmpeq, r_ifne, r_icmpne, r_iflt, r_icmplt, r_ifge, r_icmpge, r_ifgt, r_icmpgt, r_ifle, r_icmple, r_tsw, r_getI, r_getR, r_putI, r_putZ, r_iald, r_iast, r_aald, r_gets, r_copy, r_iret, r_zret, r_vret, r_mmax, r_mmin, r_callV, r_callS, r_fn, hf_pop, List.getElem?_cons_zero, List.getElem?_cons_succ, List.set_cons_zero, List.set_cons_succ, List.replicate_succ, List.replicate_zero, List.cons_append, List.nil_append, List.append_nil, List.length_cons, List.length_nil, List.take_succ_cons, List.take_zero, List.drop_succ_cons, List.drop_zero, List.reverse_cons, List.reverse_nil, List.map_cons, List.map_nil, List.sum_cons, List.sum_nil, List.all_cons, List.all_nil, Option.toList_some, Option.toList_none, Value.category, Nat.reduceAdd, Nat.reduceSub, Nat.reduceLeDiff, Nat.reduceMul, Nat.reduceLT, Nat.reduceEqDiff, beq_self_eq_true, Bool.and_self, Bool.and_true, and_self, and_true, true_and, ite_true, ite_false, if_true, if_false, ↓reduceIte, true_or, or_true, Nat.zero_add, Nat.le_refl, Nat.zero_le, not_false_eq_true, eq_self, true_implies, Int32.reduceLT, Int32.reduceLE, Int32.reduceGT, hf_rd6, hw6, iq_m6_m5, iq_m6_m4, iq_m6_m3, iq_m6_m2, iq_m6_m1, iq_m6_0, iq_m6_1, iq_m6_2, iq_m6_3, iq_m6_4, iq_m6_5, iq_m5_m6, iq_m5_m4, iq_m5_m3, iq_m5_m2, iq_m5_m1, iq_m5_0, iq_m5_1, iq_m5_2, iq_m5_3, iq_m5_4, iq_m5_5, iq_m4_m6, iq_m4_m5, iq_m4_m3, iq_m4_m2, iq_m4_m1, iq_m4_0, iq_m4_1, iq_m4_2, iq_m4_3, iq_m4_4, iq_m4_5, iq_m3_m6, iq_m3_m5, iq_m3_m4, iq_m3_m2, iq_m3_m1, iq_m3_0, iq_m3_1, iq_m3_2, iq_m3_3, iq_m3_4, iq_m3_5, iq_m2_m6, iq_m2_m5, iq_m2_m4, iq_m2_m3, iq_m2_m1, iq_m2_0, iq_m2_1, iq_m2_2, iq_m2_3, iq_m2_4, iq_m2_5, iq_m1_m6, iq_m1_m5, iq_m1_m4, iq_m1_m3, iq_m1_m2, iq_m1_0, iq_m1_1, iq_m1_2, iq_m1_3, iq_m1_4, iq_m1_5, iq_0_m6, iq_0_m5, iq_0_m4, iq_0_m3, iq_0_m2, iq_0_m1, iq_0_1, iq_0_2, iq_0_3, iq_0_4, iq_0_5, iq_1_m6, iq_1_m5, iq_1_m4, iq_1_m3, iq_1_m2, iq_1_m1, iq_1_0, iq_1_2, iq_1_3, iq_1_4, iq_1_5, iq_2_m6, iq_2_m5, iq_2_m4, iq_2_m3, iq_2_m2, iq_2_m1, iq_2_0, iq_2_1, iq_2_3, iq_2_4, iq_2_5, iq_3_m6, iq_3_m5, iq_3_m4, iq_3_m3, iq_3_m2, iq_3_m1, iq_3_0, iq_3_1, iq_3_2, iq_3_4, iq_3_5, iq_4_m6, iq_4_m5, iq_4_m4, iq_4_m3, iq_4_m2, iq_4_m1, iq_4_0, iq_4_1, iq_4_2, iq_4_3, iq_4_5, iq_5_m6, iq_5_m5, iq_5_m4, iq_5_m3, iq_5_m2, iq_5_m1, iq_5_0, iq_5_1, iq_5_2, iq_5_3, iq_5_4, ls_k8 hS, ls_t0 hS, ls_t1 hS, ls_t2 hS, ls_a9 hS, ls_a10 hS, ls_a11 hS, hx_nle, h0, pk_div, pk_mul, pk_rem2, hf_inI, nI_clamp, hn_nlt, nI_p1, nI_add, es]
set_option maxRecDepth 100000 in
theorem pt_1 {N f S R n j x : Nat} {I : hf_M} {u : Value} (hS : hsc S) (n1 : 1 ≤ n) (n8 : n ≤ 8) (hR : R ≤ 16) (hj : j < n) (hx : x ≤ 16) (hd : 1 ≤ R / n) (hl : R % n ≤ j) : BX5_part_5 N (f + 1) [.ref (S + 8), .int (nI R), .int (nI n), .int (nI x), .int (nI j), u] [] I = BX5_part_5 N f [.ref (S + 8), .int (nI R), .int (nI n), .int (nI (x + (R / n + 0))), .int (nI (j + 1)), .int 0] [] (hf_w (hf_w (hf_w I (S + 9) j (nI x)) (S + 10) j (nI (x + (R / n + 0) - 1))) (S + 11) j 0) := by
  have hb := hsc_b hS
  have h0 : (nI n = 0) = False := eq_false (nI_ne0 n1 (by omega))
  have d1 : R / n ≤ R := Nat.div_le_self _ _
  have d2 : R % n ≤ R := Nat.mod_le _ _
  have es : nI (x + R / n) - 1 = nI (x + R / n - 1) := nI_sub1 (by omega)
  simp (disch := omega) only [BX5_part_5, BX5_part_24, r_iload, r_aload, r_istore, r_astore, r_iinc, r_const, r_dupi, r_dupr, r_dup2, r_goto, r_iadd, r_isub, r_imul, r_iand, r_ixor, r_iushr, r_idiv, r_irem, r_ifeq, r_icmpeq, r_ifne, r_icmpne, r_iflt, r_icmplt, r_ifge, r_icmpge, r_ifgt, r_icmpgt, r_ifle, r_icmple, r_tsw, r_getI, r_getR, r_putI, r_putZ, r_iald, r_iast, r_aald, r_gets, r_copy, r_iret, r_zret, r_vret, r_mmax, r_mmin, r_callV, r_callS, r_fn, hf_pop, List.getElem?_cons_zero, List.getElem?_cons_succ, List.set_cons_zero, List.set_cons_succ, List.replicate_succ, List.replicate_zero, List.cons_append, List.nil_append, List.append_nil, List.length_cons, List.length_nil, List.take_succ_cons, List.take_zero, List.drop_succ_cons, List.drop_zero, List.reverse_cons, List.reverse_nil, List.map_cons, List.map_nil, List.sum_cons, List.sum_nil, List.all_cons, List.all_nil, Option.toList_some, Option.toList_none, Value.category, Nat.reduceAdd, Nat.reduceSub, Nat.reduceLeDiff, Nat.reduceMul, Nat.reduceLT, Nat.reduceEqDiff, beq_self_eq_true, Bool.and_self, Bool.and_true, and_self, and_true, true_and, ite_true, ite_false, if_true, if_false, ↓reduceIte, true_or, or_true, Nat.zero_add, Nat.le_refl, Nat.zero_le, not_false_eq_true, eq_self, true_implies, Int32.reduceLT, Int32.reduceLE, Int32.reduceGT, hf_rd6, hw6, iq_m6_m5, iq_m6_m4, iq_m6_m3, iq_m6_m2, iq_m6_m1, iq_m6_0, iq_m6_1, iq_m6_2, iq_m6_3, iq_m6_4, iq_m6_5, iq_m5_m6, iq_m5_m4, iq_m5_m3, iq_m5_m2, iq_m5_m1, iq_m5_0, iq_m5_1, iq_m5_2, iq_m5_3, iq_m5_4, iq_m5_5, iq_m4_m6, iq_m4_m5, iq_m4_m3, iq_m4_m2, iq_m4_m1, iq_m4_0, iq_m4_1, iq_m4_2, iq_m4_3, iq_m4_4, iq_m4_5, iq_m3_m6, iq_m3_m5, iq_m3_m4, iq_m3_m2, iq_m3_m1, iq_m3_0, iq_m3_1, iq_m3_2, iq_m3_3, iq_m3_4, iq_m3_5, iq_m2_m6, iq_m2_m5, iq_m2_m4, iq_m2_m3, iq_m2_m1, iq_m2_0, iq_m2_1, iq_m2_2, iq_m2_3, iq_m2_4, iq_m2_5, iq_m1_m6, iq_m1_m5, iq_m1_m4, iq_m1_m3, iq_m1_m2, iq_m1_0, iq_m1_1, iq_m1_2, iq_m1_3, iq_m1_4, iq_m1_5, iq_0_m6, iq_0_m5, iq_0_m4, iq_0_m3, iq_0_m2, iq_0_m1, iq_0_1, iq_0_2, iq_0_3, iq_0_4, iq_0_5, iq_1_m6, iq_1_m5, iq_1_m4, iq_1_m3, iq_1_m2, iq_1_m1, iq_1_0, iq_1_2, iq_1_3, iq_1_4, iq_1_5, iq_2_m6, iq_2_m5, iq_2_m4, iq_2_m3, iq_2_m2, iq_2_m1, iq_2_0, iq_2_1, iq_2_3, iq_2_4, iq_2_5, iq_3_m6, iq_3_m5, iq_3_m4, iq_3_m3, iq_3_m2, iq_3_m1, iq_3_0, iq_3_1, iq_3_2, iq_3_4, iq_3_5, iq_4_m6, iq_4_m5, iq_4_m4, iq_4_m3, iq_4_m2, iq_4_m1, iq_4_0, iq_4_1, iq_4_2, iq_4_3, iq_4_5, iq_5_m6, iq_5_m5, iq_5_m4, iq_5_m3, iq_5_m2, iq_5_m1, iq_5_0, iq_5_1, iq_5_2, iq_5_3, iq_5_4, ls_k8 hS, ls_t0 hS, ls_t1 hS, ls_t2 hS, ls_a9 hS, ls_a10 hS, ls_a11 hS, hx_le, hx_nle, h0, pk_div, pk_mul, pk_rem2, hf_inI, nI_clamp, hn_nlt, nI_p1, Int32.add_zero, Nat.add_zero, nI_add, es]
set_option maxRecDepth 100000 in
theorem pt_2 {N f S R n : Nat} {I : hf_M} {x : Int32} {u : Value} (hS : hsc S) (n8 : n ≤ 8) : BX5_part_5 N (f + 1) [.ref (S + 8), .int (nI R), .int (nI n), .int x, .int (nI n), u] [] I = some (none, hf_w I (S + 8) 3 (nI n)) := by
  simp (disch := omega) only [BX5_part_5, r_iload, r_aload, r_istore, r_astore, r_iinc, r_const, r_dupi, r_dupr, r_dup2, r_goto, r_iadd, r_isub, r_imul, r_iand, r_ixor, r_iushr, r_idiv, r_irem, r_ifeq, r_icmpeq, r_ifne, r_icmpne, r_iflt, r_icmplt, r_ifge, r_icmpge, r_ifgt, r_icmpgt, r_ifle, r_icmple, r_tsw, r_getI, r_getR, r_putI, r_putZ, r_iald, r_iast, r_aald, r_gets, r_copy, r_iret, r_zret, r_vret, r_mmax, r_mmin, r_callV, r_callS, r_fn, hf_pop, List.getElem?_cons_zero, List.getElem?_cons_succ, List.set_cons_zero, List.set_cons_succ, List.replicate_succ, List.replicate_zero, List.cons_append, List.nil_append, List.append_nil, List.length_cons, List.length_nil, List.take_succ_cons, List.take_zero, List.drop_succ_cons, List.drop_zero, List.reverse_cons, List.reverse_nil, List.map_cons, List.map_nil, List.sum_cons, List.sum_nil, List.all_cons, List.all_nil, Option.toList_some, Option.toList_none, Value.category, Nat.reduceAdd, Nat.reduceSub, Nat.reduceLeDiff, Nat.reduceMul, Nat.reduceLT, Nat.reduceEqDiff, beq_self_eq_true, Bool.and_self, Bool.and_true, and_self, and_true, true_and, ite_true, ite_false, if_true, if_false, ↓reduceIte, true_or, or_true, Nat.zero_add, Nat.le_refl, Nat.zero_le, not_false_eq_true, eq_self, true_implies, Int32.reduceLT, Int32.reduceLE, Int32.reduceGT, hf_rd6, hw6, iq_m6_m5, iq_m6_m4, iq_m6_m3, iq_m6_m2, iq_m6_m1, iq_m6_0, iq_m6_1, iq_m6_2, iq_m6_3, iq_m6_4, iq_m6_5, iq_m5_m6, iq_m5_m4, iq_m5_m3, iq_m5_m2, iq_m5_m1, iq_m5_0, iq_m5_1, iq_m5_2, iq_m5_3, iq_m5_4, iq_m5_5, iq_m4_m6, iq_m4_m5, iq_m4_m3, iq_m4_m2, iq_m4_m1, iq_m4_0, iq_m4_1, iq_m4_2, iq_m4_3, iq_m4_4, iq_m4_5, iq_m3_m6, iq_m3_m5, iq_m3_m4, iq_m3_m2, iq_m3_m1, iq_m3_0, iq_m3_1, iq_m3_2, iq_m3_3, iq_m3_4, iq_m3_5, iq_m2_m6, iq_m2_m5, iq_m2_m4, iq_m2_m3, iq_m2_m1, iq_m2_0, iq_m2_1, iq_m2_2, iq_m2_3, iq_m2_4, iq_m2_5, iq_m1_m6, iq_m1_m5, iq_m1_m4, iq_m1_m3, iq_m1_m2, iq_m1_0, iq_m1_1, iq_m1_2, iq_m1_3, iq_m1_4, iq_m1_5, iq_0_m6, iq_0_m5, iq_0_m4, iq_0_m3, iq_0_m2, iq_0_m1, iq_0_1, iq_0_2, iq_0_3, iq_0_4, iq_0_5, iq_1_m6, iq_1_m5, iq_1_m4, iq_1_m3, iq_1_m2, iq_1_m1, iq_1_0, iq_1_2, iq_1_3, iq_1_4, iq_1_5, iq_2_m6, iq_2_m5, iq_2_m4, iq_2_m3, iq_2_m2, iq_2_m1, iq_2_0, iq_2_1, iq_2_3, iq_2_4, iq_2_5, iq_3_m6, iq_3_m5, iq_3_m4, iq_3_m3, iq_3_m2, iq_3_m1, iq_3_0, iq_3_1, iq_3_2, iq_3_4, iq_3_5, iq_4_m6, iq_4_m5, iq_4_m4, iq_4_m3, iq_4_m2, iq_4_m1, iq_4_0, iq_4_1, iq_4_2, iq_4_3, iq_4_5, iq_5_m6, iq_5_m5, iq_5_m4, iq_5_m3, iq_5_m2, iq_5_m1, iq_5_0, iq_5_1, iq_5_2, iq_5_3, iq_5_4, ls_k8 hS, hx_le]
/-- the class parts its rows -/
theorem pt_l {N S R n : Nat} (hS : hsc S) (n1 : 1 ≤ n) (n8 : n ≤ 8) (hnR : n ≤ R) (hR : R ≤ 16) : ∀ (d j f : Nat) (I : hf_M) (u : Value), j + d = n → d < f → ∃ I', BX5_part_5 N f [.ref (S + 8), .int (nI R), .int (nI n), .int (nI (hp_pa R n j)), .int (nI j), u] [] I = some (none, I') ∧ I' (S + 8) 3 = nI n ∧ (∀ i, j ≤ i → i < n → I' (S + 9) i = nI (hp_pa R n i) ∧ I' (S + 10) i = nI (hp_pa R n (i + 1) - 1) ∧ I' (S + 11) i = 0) ∧ (∀ i, i < j → I' (S + 9) i = I (S + 9) i ∧ I' (S + 10) i = I (S + 10) i ∧ I' (S + 11) i = I (S + 11) i) ∧ (∀ d, d ≠ S + 8 → d ≠ S + 9 → d ≠ S + 10 → d ≠ S + 11 → I' d = I d) := by
  have hb := hsc_b hS
  have hd : 1 ≤ R / n := (Nat.le_div_iff_mul_le n1).mpr (by omega)
  intro d
  induction d with
  | zero =>
    intro j f I u hj hf
    obtain ⟨f, rfl⟩ : ∃ k, f = k + 1 := ⟨f - 1, by omega⟩
    have : j = n := by omega
    subst this
    exact ⟨_, pt_2 hS n8, hw_s _ _ _ _, fun i h1 h2 => by omega, fun i _ => ⟨by rw [hw_d (by omega)], by rw [hw_d (by omega)], by rw [hw_d (by omega)]⟩, fun d d1 _ _ _ => hw_d d1⟩
  | succ d ih =>
    intro j f I u hj hf
    obtain ⟨f, rfl⟩ : ∃ k, f = k + 1 := ⟨f - 1, by omega⟩
    have hx := hp_pa_le (j := j) n1 hnR (by omega)
    have hs := hp_pa_s R n j
    have fin : ∀ (I1 : hf_M) (v : Value), I1 = hf_w (hf_w (hf_w I (S + 9) j (nI (hp_pa R n j))) (S + 10) j (nI (hp_pa R n (j + 1) - 1))) (S + 11) j 0 → BX5_part_5 N (f + 1) [.ref (S + 8), .int (nI R), .int (nI n), .int (nI (hp_pa R n j)), .int (nI j), u] [] I = BX5_part_5 N f [.ref (S + 8), .int (nI R), .int (nI n), .int (nI (hp_pa R n (j + 1))), .int (nI (j + 1)), v] [] I1 → ∃ I', BX5_part_5 N (f + 1) [.ref (S + 8), .int (nI R), .int (nI n), .int (nI (hp_pa R n j)), .int (nI j), u] [] I = some (none, I') ∧ I' (S + 8) 3 = nI n ∧ (∀ i, j ≤ i → i < n → I' (S + 9) i = nI (hp_pa R n i) ∧ I' (S + 10) i = nI (hp_pa R n (i + 1) - 1) ∧ I' (S + 11) i = 0) ∧ (∀ i, i < j → I' (S + 9) i = I (S + 9) i ∧ I' (S + 10) i = I (S + 10) i ∧ I' (S + 11) i = I (S + 11) i) ∧ (∀ d, d ≠ S + 8 → d ≠ S + 9 → d ≠ S + 10 → d ≠ S + 11 → I' d = I d) := by
      intro I1 v hI1 e
      obtain ⟨I', e', q1, q2, q3, q4⟩ := ih (j + 1) f I1 v (by omega) (by omega)
      subst hI1
      refine ⟨I', e.trans e', q1, fun i h1 h2 => ?_, fun i h1 => ?_, fun d d0 d1 d2 d3 => ?_⟩
      · by_cases ei : i = j
        · subst ei
          have := q3 i (by omega)
          simp (disch := omega) only [hw6, hn_ne, ite_true, ite_false, if_true, if_false, ↓reduceIte, Nat.reduceEqDiff, Nat.reduceAdd, Nat.zero_add] at this
          exact this
        · exact q2 i (by omega) h2
      · have := q3 i (by omega)
        simp (disch := omega) only [hw6, hn_ne, ite_true, ite_false, if_true, if_false, ↓reduceIte, Nat.reduceEqDiff, Nat.reduceAdd, Nat.zero_add] at this
        exact this
      · rw [q4 d d0 d1 d2 d3, hw_d d3, hw_d d2, hw_d d1]
    by_cases hl : j < R % n
    · rw [if_pos hl] at hs
      exact fin _ _ rfl (by rw [hs]; exact pt_0 hS n1 n8 hR (by omega) (by omega) hd hl)
    · rw [if_neg hl] at hs
      exact fin _ _ rfl (by rw [hs]; exact pt_1 hS n1 n8 hR (by omega) (by omega) hd (by omega))
