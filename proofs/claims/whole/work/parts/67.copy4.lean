/-! the class copies a scene -/
def hCp (k S D : Nat) (I I' : hf_M) : Prop := (∀ j, j < 256 → I' (D + 1) j = I (S + 1) j ∧ I' (D + 2) j = I (S + 2) j ∧ I' (D + 3) j = I (S + 3) j ∧ I' (D + 4) j = I (S + 4) j ∧ I' (D + 5) j = I (S + 5) j ∧ I' (D + 6) j = I (S + 6) j) ∧ (∀ x, x < k → (∀ j, j < 12 → I' (D + 12 + 3 * x + 1) j = I (S + 12 + 3 * x + 1) j ∧ I' (D + 12 + 3 * x + 2) j = I (S + 12 + 3 * x + 2) j) ∧ ∀ j, 2 ≤ j → j ≤ 9 → I' (D + 12 + 3 * x) j = I (S + 12 + 3 * x) j) ∧ (∀ j, j < 8 → I' (D + 9) j = I (S + 9) j ∧ I' (D + 10) j = I (S + 10) j ∧ I' (D + 11) j = I (S + 11) j) ∧ I' (D + 8) 3 = I (S + 8) 3 ∧ (∀ j, 8 ≤ j → j ≤ 14 → I' D j = I S j)
set_option maxRecDepth 100000 in
theorem sa_c {N S D : Nat} {I : hf_M} (hS : hsc S) (hD : hsc D) (hSD : S ≠ D) : ∃ I', fX4_copyFrom N [.ref D, .ref S] I = BX4_copyFrom_98 N N [.ref D, .ref S, .int 0] [] I' ∧ (∀ j, j < 256 → I' (D + 1) j = I (S + 1) j ∧ I' (D + 2) j = I (S + 2) j ∧ I' (D + 3) j = I (S + 3) j ∧ I' (D + 4) j = I (S + 4) j ∧ I' (D + 5) j = I (S + 5) j ∧ I' (D + 6) j = I (S + 6) j) ∧ (∀ d, d < D + 1 ∨ D + 7 ≤ d → I' d = I d) := by
  have hb := hsc_b hS
  have hb2 := hsc_b hD
  have hne : S + 36 ≤ D ∨ D + 36 ≤ S := by
    have h1 := hS
    have h2 := hD
    unfold hsc at h1 h2
    omega
  have z0 : (0 : Int32).toNatClampNeg = 0 := nI_clamp (n := 0) (by decide)
  have z8 : (256 : Int32).toNatClampNeg = 256 := nI_clamp (n := 256) (by decide)
  have n8 : ((256 : Int32) < 0) = False := eq_false (by decide)
  have n00 : ((0 : Int32) < 0) = False := eq_false (by decide)
  obtain ⟨A1, hA1⟩ : ∃ A1, A1 = hf_cp I (D + 1) (va_cpy (I (S + 1)) (I (D + 1)) 0 0 256) := ⟨_, rfl⟩
  obtain ⟨A2, hA2⟩ : ∃ A2, A2 = hf_cp A1 (D + 2) (va_cpy (A1 (S + 2)) (A1 (D + 2)) 0 0 256) := ⟨_, rfl⟩
  obtain ⟨A3, hA3⟩ : ∃ A3, A3 = hf_cp A2 (D + 3) (va_cpy (A2 (S + 3)) (A2 (D + 3)) 0 0 256) := ⟨_, rfl⟩
  obtain ⟨A4, hA4⟩ : ∃ A4, A4 = hf_cp A3 (D + 4) (va_cpy (A3 (S + 4)) (A3 (D + 4)) 0 0 256) := ⟨_, rfl⟩
  obtain ⟨A5, hA5⟩ : ∃ A5, A5 = hf_cp A4 (D + 5) (va_cpy (A4 (S + 5)) (A4 (D + 5)) 0 0 256) := ⟨_, rfl⟩
  obtain ⟨A6, hA6⟩ : ∃ A6, A6 = hf_cp A5 (D + 6) (va_cpy (A5 (S + 6)) (A5 (D + 6)) 0 0 256) := ⟨_, rfl⟩
  have g1 : ∀ d, d ≠ D + 1 → A1 d = I d := fun d d1 => by rw [hA1, cp_r, if_neg d1]
  have g2 : ∀ d, d ≠ D + 2 → A2 d = A1 d := fun d d1 => by rw [hA2, cp_r, if_neg d1]
  have g3 : ∀ d, d ≠ D + 3 → A3 d = A2 d := fun d d1 => by rw [hA3, cp_r, if_neg d1]
  have g4 : ∀ d, d ≠ D + 4 → A4 d = A3 d := fun d d1 => by rw [hA4, cp_r, if_neg d1]
  have g5 : ∀ d, d ≠ D + 5 → A5 d = A4 d := fun d d1 => by rw [hA5, cp_r, if_neg d1]
  have g6 : ∀ d, d ≠ D + 6 → A6 d = A5 d := fun d d1 => by rw [hA6, cp_r, if_neg d1]
  refine ⟨A6, ?_, fun j hj => ⟨?_, ?_, ?_, ?_, ?_, ?_⟩, fun d d0 => ?_⟩
  · simp (disch := omega) only [fX4_copyFrom, EX4_copyFrom, r_iload, r_aload, r_istore, r_astore, r_iinc, r_const, r_dupi, r_dupr, r_dup2, r_goto, r_iadd, r_isub, r_imul, r_iand, r_ixor, r_iushr, r_idiv, r_irem, r_ifeq, r_icmpeq, r_ifne, r_icmpne, r_iflt, r_icmplt, r_ifge, r_icmpge, r_ifgt, r_icmpgt, r_ifle, r_icmple, r_tsw, r_getI, r_getR, r_putI, r_putZ, r_iald, r_iast, r_aald, r_gets, r_copy, r_iret, r_zret, r_vret, r_mmax, r_mmin, r_callV, r_callS, r_fn, hf_pop, List.getElem?_cons_zero, List.getElem?_cons_succ, List.set_cons_zero, List.set_cons_succ, List.replicate_succ, List.replicate_zero, List.cons_append, List.nil_append, List.append_nil, List.length_cons, List.length_nil, List.take_succ_cons, List.take_zero, List.drop_succ_cons, List.drop_zero, List.reverse_cons, List.reverse_nil, List.map_cons, List.map_nil, List.sum_cons, List.sum_nil, List.all_cons, List.all_nil, Option.toList_some, Option.toList_none, Value.category, Nat.reduceAdd, Nat.reduceSub, Nat.reduceLeDiff, Nat.reduceMul, Nat.reduceLT, Nat.reduceEqDiff, beq_self_eq_true, Bool.and_self, Bool.and_true, and_self, and_true, true_and, ite_true, ite_false, if_true, if_false, ↓reduceIte, true_or, or_true, Nat.zero_add, Nat.le_refl, Nat.zero_le, not_false_eq_true, eq_self, true_implies, Int32.reduceLT, Int32.reduceLE, Int32.reduceGT, hf_rd6, hw6, iq_m6_m5, iq_m6_m4, iq_m6_m3, iq_m6_m2, iq_m6_m1, iq_m6_0, iq_m6_1, iq_m6_2, iq_m6_3, iq_m6_4, iq_m6_5, iq_m5_m6, iq_m5_m4, iq_m5_m3, iq_m5_m2, iq_m5_m1, iq_m5_0, iq_m5_1, iq_m5_2, iq_m5_3, iq_m5_4, iq_m5_5, iq_m4_m6, iq_m4_m5, iq_m4_m3, iq_m4_m2, iq_m4_m1, iq_m4_0, iq_m4_1, iq_m4_2, iq_m4_3, iq_m4_4, iq_m4_5, iq_m3_m6, iq_m3_m5, iq_m3_m4, iq_m3_m2, iq_m3_m1, iq_m3_0, iq_m3_1, iq_m3_2, iq_m3_3, iq_m3_4, iq_m3_5, iq_m2_m6, iq_m2_m5, iq_m2_m4, iq_m2_m3, iq_m2_m1, iq_m2_0, iq_m2_1, iq_m2_2, iq_m2_3, iq_m2_4, iq_m2_5, iq_m1_m6, iq_m1_m5, iq_m1_m4, iq_m1_m3, iq_m1_m2, iq_m1_0, iq_m1_1, iq_m1_2, iq_m1_3, iq_m1_4, iq_m1_5, iq_0_m6, iq_0_m5, iq_0_m4, iq_0_m3, iq_0_m2, iq_0_m1, iq_0_1, iq_0_2, iq_0_3, iq_0_4, iq_0_5, iq_1_m6, iq_1_m5, iq_1_m4, iq_1_m3, iq_1_m2, iq_1_m1, iq_1_0, iq_1_2, iq_1_3, iq_1_4, iq_1_5, iq_2_m6, iq_2_m5, iq_2_m4, iq_2_m3, iq_2_m2, iq_2_m1, iq_2_0, iq_2_1, iq_2_3, iq_2_4, iq_2_5, iq_3_m6, iq_3_m5, iq_3_m4, iq_3_m3, iq_3_m2, iq_3_m1, iq_3_0, iq_3_1, iq_3_2, iq_3_4, iq_3_5, iq_4_m6, iq_4_m5, iq_4_m4, iq_4_m3, iq_4_m2, iq_4_m1, iq_4_0, iq_4_1, iq_4_2, iq_4_3, iq_4_5, iq_5_m6, iq_5_m5, iq_5_m4, iq_5_m3, iq_5_m2, iq_5_m1, iq_5_0, iq_5_1, iq_5_2, iq_5_3, iq_5_4, ls_k hS, ls_r0 hS, ls_r1 hS, ls_r2 hS, ls_r3 hS, ls_r4 hS, ls_r5 hS, ls_d1 hS, ls_d2 hS, ls_d3 hS, ls_d4 hS, ls_d5 hS, ls_d6 hS, ls_n1 hS, ls_n2 hS, ls_n3 hS, ls_n4 hS, ls_n5 hS, ls_n6 hS, ls_k hD, ls_r0 hD, ls_r1 hD, ls_r2 hD, ls_r3 hD, ls_r4 hD, ls_r5 hD, ls_d1 hD, ls_d2 hD, ls_d3 hD, ls_d4 hD, ls_d5 hD, ls_d6 hD, ls_n1 hD, ls_n2 hD, ls_n3 hD, ls_n4 hD, ls_n5 hD, ls_n6 hD, z0, z8, n8, n00, ← hA1, ← hA2, ← hA3, ← hA4, ← hA5, ← hA6]
  · rw [g6 _ (by omega), g5 _ (by omega), g4 _ (by omega), g3 _ (by omega), g2 _ (by omega), hA1, cp_r, if_pos rfl, cp0 hj]
  · rw [g6 _ (by omega), g5 _ (by omega), g4 _ (by omega), g3 _ (by omega), hA2, cp_r, if_pos rfl, cp0 hj, g1 _ (by omega)]
  · rw [g6 _ (by omega), g5 _ (by omega), g4 _ (by omega), hA3, cp_r, if_pos rfl, cp0 hj, g2 _ (by omega), g1 _ (by omega)]
  · rw [g6 _ (by omega), g5 _ (by omega), hA4, cp_r, if_pos rfl, cp0 hj, g3 _ (by omega), g2 _ (by omega), g1 _ (by omega)]
  · rw [g6 _ (by omega), hA5, cp_r, if_pos rfl, cp0 hj, g4 _ (by omega), g3 _ (by omega), g2 _ (by omega), g1 _ (by omega)]
  · rw [hA6, cp_r, if_pos rfl, cp0 hj, g5 _ (by omega), g4 _ (by omega), g3 _ (by omega), g2 _ (by omega), g1 _ (by omega)]
  · rw [g6 _ (by omega), g5 _ (by omega), g4 _ (by omega), g3 _ (by omega), g2 _ (by omega), g1 _ (by omega)]
set_option maxRecDepth 100000 in
theorem sb_c {N S D : Nat} {v : Value} {I I1 : hf_M} (hS : hsc S) (hD : hsc D) (hSD : S ≠ D) (e : fX5_copyFrom N [.ref (D + 8), .ref (S + 8)] I = some (none, I1)) : hp_cq N [.ref D, .ref S, v] [] I = some (none, hf_w (hf_w (hf_w (hf_w (hf_w (hf_w (hf_w I1 D 8 (I1 S 8)) D 9 (I1 S 9)) D 10 (I1 S 10)) D 11 (I1 S 11)) D 12 (I1 S 12)) D 13 (I1 S 13)) D 14 (I1 S 14)) := by
  simp (disch := omega) only [hp_cq, r_iload, r_aload, r_istore, r_astore, r_iinc, r_const, r_dupi, r_dupr, r_dup2, r_goto, r_iadd, r_isub, r_imul, r_iand, r_ixor, r_iushr, r_idiv, r_irem, r_ifeq, r_icmpeq, r_ifne, r_icmpne, r_iflt, r_icmplt, r_ifge, r_icmpge, r_ifgt, r_icmpgt, r_ifle, r_icmple, r_tsw, r_getI, r_getR, r_putI, r_putZ, r_iald, r_iast, r_aald, r_gets, r_copy, r_iret, r_zret, r_vret, r_mmax, r_mmin, r_callV, r_callS, r_fn, hf_pop, List.getElem?_cons_zero, List.getElem?_cons_succ, List.set_cons_zero, List.set_cons_succ, List.replicate_succ, List.replicate_zero, List.cons_append, List.nil_append, List.append_nil, List.length_cons, List.length_nil, List.take_succ_cons, List.take_zero, List.drop_succ_cons, List.drop_zero, List.reverse_cons, List.reverse_nil, List.map_cons, List.map_nil, List.sum_cons, List.sum_nil, List.all_cons, List.all_nil, Option.toList_some, Option.toList_none, Value.category, Nat.reduceAdd, Nat.reduceSub, Nat.reduceLeDiff, Nat.reduceMul, Nat.reduceLT, Nat.reduceEqDiff, beq_self_eq_true, Bool.and_self, Bool.and_true, and_self, and_true, true_and, ite_true, ite_false, if_true, if_false, ↓reduceIte, true_or, or_true, Nat.zero_add, Nat.le_refl, Nat.zero_le, not_false_eq_true, eq_self, true_implies, Int32.reduceLT, Int32.reduceLE, Int32.reduceGT, hf_rd6, hw6, iq_m6_m5, iq_m6_m4, iq_m6_m3, iq_m6_m2, iq_m6_m1, iq_m6_0, iq_m6_1, iq_m6_2, iq_m6_3, iq_m6_4, iq_m6_5, iq_m5_m6, iq_m5_m4, iq_m5_m3, iq_m5_m2, iq_m5_m1, iq_m5_0, iq_m5_1, iq_m5_2, iq_m5_3, iq_m5_4, iq_m5_5, iq_m4_m6, iq_m4_m5, iq_m4_m3, iq_m4_m2, iq_m4_m1, iq_m4_0, iq_m4_1, iq_m4_2, iq_m4_3, iq_m4_4, iq_m4_5, iq_m3_m6, iq_m3_m5, iq_m3_m4, iq_m3_m2, iq_m3_m1, iq_m3_0, iq_m3_1, iq_m3_2, iq_m3_3, iq_m3_4, iq_m3_5, iq_m2_m6, iq_m2_m5, iq_m2_m4, iq_m2_m3, iq_m2_m1, iq_m2_0, iq_m2_1, iq_m2_2, iq_m2_3, iq_m2_4, iq_m2_5, iq_m1_m6, iq_m1_m5, iq_m1_m4, iq_m1_m3, iq_m1_m2, iq_m1_0, iq_m1_1, iq_m1_2, iq_m1_3, iq_m1_4, iq_m1_5, iq_0_m6, iq_0_m5, iq_0_m4, iq_0_m3, iq_0_m2, iq_0_m1, iq_0_1, iq_0_2, iq_0_3, iq_0_4, iq_0_5, iq_1_m6, iq_1_m5, iq_1_m4, iq_1_m3, iq_1_m2, iq_1_m1, iq_1_0, iq_1_2, iq_1_3, iq_1_4, iq_1_5, iq_2_m6, iq_2_m5, iq_2_m4, iq_2_m3, iq_2_m2, iq_2_m1, iq_2_0, iq_2_1, iq_2_3, iq_2_4, iq_2_5, iq_3_m6, iq_3_m5, iq_3_m4, iq_3_m3, iq_3_m2, iq_3_m1, iq_3_0, iq_3_1, iq_3_2, iq_3_4, iq_3_5, iq_4_m6, iq_4_m5, iq_4_m4, iq_4_m3, iq_4_m2, iq_4_m1, iq_4_0, iq_4_1, iq_4_2, iq_4_3, iq_4_5, iq_5_m6, iq_5_m5, iq_5_m4, iq_5_m3, iq_5_m2, iq_5_m1, iq_5_0, iq_5_1, iq_5_2, iq_5_3, iq_5_4, ls_k hS, ls_r7 hS, ls_k8 hS, ls_k hD, ls_r7 hD, ls_k8 hD, e, hn_ne]
theorem scp_c {N S D k : Nat} {I : hf_M} (hN : 4096 ≤ N) (hS : hsc S) (hD : hsc D) (hSD : S ≠ D) (k8 : k ≤ 8) (hk : I S 8 = nI k) (h9 : ∀ x, x < k → I (S + 12 + 3 * x) 9 = 0 ∨ I (S + 12 + 3 * x) 9 = 1) : ∃ I', fX4_copyFrom N [.ref D, .ref S] I = some (none, I') ∧ hCp k S D I I' ∧ (∀ d, d < D ∨ D + 36 ≤ d → I' d = I d) := by
  have hb := hsc_b hS
  have hb2 := hsc_b hD
  have hne : S + 36 ≤ D ∨ D + 36 ≤ S := by
    have h1 := hS
    have h2 := hD
    unfold hsc at h1 h2
    omega
  obtain ⟨A, e1, a1, a2⟩ := sa_c (N := N) (I := I) hS hD hSD
  obtain ⟨B, e2, b1, b2⟩ := cl_l (N := N) hS hD hSD k8 k 0 N A (by omega) (by omega) (by rw [a2 S (by omega)]; exact hk) (fun x hx => by rw [a2 (S + 12 + 3 * x) (by omega)]; exact h9 x hx)
  obtain ⟨C, e3, c1, c2, c3⟩ := tc_c (N := N) (I := B) hS hD hSD
  have e4 := sb_c (N := N) (v := .int (nI k)) hS hD hSD e3
  refine ⟨_, e1.trans (e2.trans e4), ⟨fun j hj => ?_, fun x hx => ⟨fun j hj => ?_, fun j j1 j2 => ?_⟩, fun j hj => ?_, ?_, fun j j1 j2 => ?_⟩, fun d hd => ?_⟩
  · have := a1 j hj
    repeat rw [hw_d (by omega)]
    rw [c3 _ (by omega) (by omega) (by omega) (by omega), c3 (D + 2) (by omega) (by omega) (by omega) (by omega), c3 (D + 3) (by omega) (by omega) (by omega) (by omega), c3 (D + 4) (by omega) (by omega) (by omega) (by omega), c3 (D + 5) (by omega) (by omega) (by omega) (by omega), c3 (D + 6) (by omega) (by omega) (by omega) (by omega), b2 _ (by omega), b2 (D + 2) (by omega), b2 (D + 3) (by omega), b2 (D + 4) (by omega), b2 (D + 5) (by omega), b2 (D + 6) (by omega)]
    exact this
  · have := (b1 x (Nat.zero_le _) hx).1 j hj
    repeat rw [hw_d (by omega)]
    rw [c3 _ (by omega) (by omega) (by omega) (by omega), c3 (D + 12 + 3 * x + 2) (by omega) (by omega) (by omega) (by omega), this.1, this.2, a2 _ (by omega), a2 (S + 12 + 3 * x + 2) (by omega)]
    exact ⟨rfl, rfl⟩
  · have := (b1 x (Nat.zero_le _) hx).2 j j1 j2
    repeat rw [hw_d (by omega)]
    rw [c3 _ (by omega) (by omega) (by omega) (by omega), this, a2 _ (by omega)]
  · have := c1 j hj
    repeat rw [hw_d (by omega)]
    rw [this.1, this.2.1, this.2.2, b2 _ (by omega), b2 (S + 10) (by omega), b2 (S + 11) (by omega), a2 _ (by omega), a2 (S + 10) (by omega), a2 (S + 11) (by omega)]
    exact ⟨rfl, rfl, rfl⟩
  · repeat rw [hw_d (by omega)]
    rw [c2, b2 _ (by omega), a2 _ (by omega)]
  · have es : C S = I S := by rw [c3 _ (by omega) (by omega) (by omega) (by omega), b2 _ (by omega), a2 _ (by omega)]
    have : j = 8 ∨ j = 9 ∨ j = 10 ∨ j = 11 ∨ j = 12 ∨ j = 13 ∨ j = 14 := by omega
    rcases this with rfl | rfl | rfl | rfl | rfl | rfl | rfl <;> simp (disch := omega) only [hw6, hn_ne, ite_true, ite_false, if_true, if_false, ↓reduceIte, Nat.reduceEqDiff, Nat.reduceAdd, Nat.zero_add, es]
  · repeat rw [hw_d (by omega)]
    rw [c3 _ (by omega) (by omega) (by omega) (by omega), b2 _ (by omega), a2 _ (by omega)]
theorem crw_t {r c K K' A o A' o' i : Nat} {I I' J J' : hf_M} (hi : i < 8) (h : hr_crew r c I K J A o i) (ha : ∀ j, j < 12 → I' (K' + 1) j = I (K + 1) j ∧ I' (K' + 2) j = I (K + 2) j) (hf : ∀ j, 2 ≤ j → j ≤ 9 → I' K' j = I K j) (hJ : ∀ x, x < 1824 → J' A' (o' + x) = J A (o + x)) : hr_crew r c I' K' J' A' o' i := by
  unfold hr_crew at h ⊢
  obtain ⟨h1, h2, ⟨a, a12, b1, b2, b3, b4, b5⟩, h4⟩ := h
  rw [hf 2 (by decide) (by decide), hf 3 (by decide) (by decide), hf 4 (by decide) (by decide), hf 5 (by decide) (by decide), hf 6 (by decide) (by decide), hf 7 (by decide) (by decide), hf 8 (by decide) (by decide), hf 9 (by decide) (by decide), (ha 0 (by decide)).1, (ha 0 (by decide)).2, hJ (1536 + 8 * i) (by omega), hJ (1536 + 8 * i + 1) (by omega), hJ (1536 + 8 * i + 2) (by omega), hJ (1536 + 8 * i + 3) (by omega), hJ (1536 + 8 * i + 4) (by omega), hJ (1536 + 8 * i + 5) (by omega), hJ (1536 + 8 * i + 6) (by omega), hJ (1536 + 8 * i + 7) (by omega)]
  refine ⟨h1, h2, ⟨a, a12, b1, b2, b3, fun j hj => ?_, b5⟩, h4⟩
  rw [(ha j (by omega)).1, (ha j (by omega)).2, hJ (1600 + 24 * i + 2 * j) (by omega), hJ (1600 + 24 * i + 2 * j + 1) (by omega)]
  exact b4 j hj
/-- the copy of a scene stands to the copy of the reference as the scene stood -/
theorem sc_t {r c S D A o A' o' k : Nat} {I I' J J' : hf_M} (hrc : r * c ≤ 256) (h : hr_sc r c I S J A o) (hk : I S 8 = nI k) (k8 : k ≤ 8) (hc : hCp k S D I I') (h8 : I' 8 = I 8) (hJ : ∀ x, x < 1824 → J' A' (o' + x) = J A (o + x)) : hr_sc r c I' D J' A' o' := by
  obtain ⟨c1, c2, c3, c4, c5⟩ := hc
  obtain ⟨h1, h2, ⟨s, a, s1, s2, s3, s4, s5, s6, s7, s9⟩, k', h4, h5, h6, h7⟩ := h
  have ek : k' = k := by
    rw [hk] at h5
    exact ((nI_eq (by omega) (by omega)).mp h5).symm
  subst ek
  refine ⟨fun n hn => ?_, ?_, ⟨s, a, s1, s2, s3, s4, s5, ?_, ?_, fun i hi => ?_⟩, k', h4, ?_, ?_, fun i hi => ?_⟩
  · obtain ⟨d1, d2, d3, d4, d5, d6⟩ := c1 n (by omega)
    rw [d1, d2, d3, d4, d5, d6, h8, hJ n (by omega), hJ (256 + n) (by omega), hJ (512 + n) (by omega), hJ (768 + n) (by omega), hJ (1024 + n) (by omega), hJ (1280 + n) (by omega)]
    exact h1 n hn
  · unfold hr_num at h2 ⊢
    rw [c5 9 (by decide) (by decide), c5 10 (by decide) (by decide), c5 11 (by decide) (by decide), c5 12 (by decide) (by decide), c5 13 (by decide) (by decide), c5 14 (by decide) (by decide), hJ 1816 (by decide), hJ 1819 (by decide), hJ 1820 (by decide), hJ 1821 (by decide), hJ 1822 (by decide), hJ 1823 (by decide)]
    exact h2
  · rw [c4]; exact s6
  · rw [hJ 1818 (by decide)]; exact s7
  · obtain ⟨d1, d2, d3⟩ := c3 i (by omega)
    rw [d1, d2, d3, hJ (1792 + 3 * i) (by omega), hJ (1792 + 3 * i + 1) (by omega), hJ (1792 + 3 * i + 2) (by omega)]
    exact s9 i hi
  · rw [c5 8 (by decide) (by decide)]; exact h5
  · rw [hJ 1817 (by decide)]; exact h6
  · exact crw_t (by omega) (h7 i hi) (c2 i hi).1 (c2 i hi).2 hJ
theorem fr_t {r c q S D k : Nat} {I I' : hf_M} (hrc : r * c ≤ 256) (h : hr_fr r c q I S) (hc : hCp k S D I I') : hr_fr r c q I' D := by
  obtain ⟨s, f1, f2, f3⟩ := h
  refine ⟨s, by rw [hc.2.2.2.2 9 (by decide) (by decide)]; exact f1, f2, fun z n hn => ?_⟩
  obtain ⟨d1, d2, d3, d4, d5, d6⟩ := hc.1 n (by omega)
  rw [d4, d5, d6]
  exact f3 z n hn
/-- the whole copy, from the relation -/
theorem scp_q {N r c S D A o : Nat} {I J : hf_M} (hN : 4096 ≤ N) (hS : hsc S) (hD : hsc D) (hSD : S ≠ D) (h : hr_sc r c I S J A o) : ∃ I' k, fX4_copyFrom N [.ref D, .ref S] I = some (none, I') ∧ k ≤ 8 ∧ I S 8 = nI k ∧ hCp k S D I I' ∧ (∀ d, d < D ∨ D + 36 ≤ d → I' d = I d) := by
  obtain ⟨h1, h2, h3, k, h4, h5, h6, h7⟩ := h
  obtain ⟨I', e1, e2, e3⟩ := scp_c (N := N) hN hS hD hSD h4 h5 (fun x hx => (h7 x hx).2.2.2.2.1)
  exact ⟨I', k, e1, h4, h5, e2, e3⟩
