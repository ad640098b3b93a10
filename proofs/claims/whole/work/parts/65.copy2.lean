/-! the class copies all crews of a scene -/
def hp_cq (N : Nat) : hf_K hf_M := (c_aload 0 (c_getR 4 7 (c_aload 1 (c_getR 4 7 (c_callV 5 1 (fX5_copyFrom N) (c_aload 0 (c_aload 1 (c_getI 4 8 (c_putI 4 8 (c_aload 0 (c_aload 1 (c_getI 4 9 (c_putI 4 9 (c_aload 0 (c_aload 1 (c_getI 4 10 (c_putI 4 10 (c_aload 0 (c_aload 1 (c_getI 4 11 (c_putI 4 11 (c_aload 0 (c_aload 1 (c_getI 4 12 (c_putI 4 12 (c_aload 0 (c_aload 1 (c_getI 4 13 (c_putI 4 13 (c_aload 0 (c_aload 1 (c_getI 4 14 (c_putI 4 14 c_vret)))))))))))))))))))))))))))))))))
set_option maxRecDepth 100000 in
theorem cl_0 {N f S D i k : Nat} {I I' : hf_M} (hS : hsc S) (hD : hsc D) (k8 : k ≤ 8) (hk : I S 8 = nI k) (hi : i < k) (e : fX0_copyFrom N [.ref (D + 12 + 3 * i), .ref (S + 12 + 3 * i)] I = some (none, I')) : BX4_copyFrom_98 N (f + 1) [.ref D, .ref S, .int (nI i)] [] I = BX4_copyFrom_98 N f [.ref D, .ref S, .int (nI (i + 1))] [] I' := by
  have hi8 : i < 8 := by omega
  simp (disch := omega) only [BX4_copyFrom_98, r_iload, r_aload, r_istore, r_astore, r_iinc, r_const, r_dupi, r_dupr, r_dup2, r_goto, r_iadd, r_isub, r_imul, r_iand, r_ixor, r_iushr, r_idiv, r_irem, r_ifeq, r_icmpeq, r_ifne, r_icmpne, r_iflt, r_icmplt, r_ifge, r_icmpge, r_ifgt, r_icmpgt, r_ifle, r_icmple, r_tsw, r_getI, r_getR, r_putI, r_putZ, r_iald, r_iast, r_aald, r_gets, r_copy, r_iret, r_zret, r_vret, r_mmax, r_mmin, r_callV, r_callS, r_fn, hf_pop, List.getElem?_cons_zero, List.getElem?_cons_succ, List.set_cons_zero, List.set_cons_succ, List.replicate_succ, List.replicate_zero, List.cons_append, List.nil_append, List.append_nil, List.length_cons, List.length_nil, List.take_succ_cons, List.take_zero, List.drop_succ_cons, List.drop_zero, List.reverse_cons, List.reverse_nil, List.map_cons, List.map_nil, List.sum_cons, List.sum_nil, List.all_cons, List.all_nil, Option.toList_some, Option.toList_none, Value.category, Nat.reduceAdd, Nat.reduceSub, Nat.reduceLeDiff, Nat.reduceMul, Nat.reduceLT, Nat.reduceEqDiff, beq_self_eq_true, Bool.and_self, Bool.and_true, and_self, and_true, true_and, ite_true, ite_false, if_true, if_false, ↓reduceIte, true_or, or_true, Nat.zero_add, Nat.le_refl, Nat.zero_le, not_false_eq_true, eq_self, true_implies, Int32.reduceLT, Int32.reduceLE, Int32.reduceGT, hf_rd6, hw6, iq_m6_m5, iq_m6_m4, iq_m6_m3, iq_m6_m2, iq_m6_m1, iq_m6_0, iq_m6_1, iq_m6_2, iq_m6_3, iq_m6_4, iq_m6_5, iq_m5_m6, iq_m5_m4, iq_m5_m3, iq_m5_m2, iq_m5_m1, iq_m5_0, iq_m5_1, iq_m5_2, iq_m5_3, iq_m5_4, iq_m5_5, iq_m4_m6, iq_m4_m5, iq_m4_m3, iq_m4_m2, iq_m4_m1, iq_m4_0, iq_m4_1, iq_m4_2, iq_m4_3, iq_m4_4, iq_m4_5, iq_m3_m6, iq_m3_m5, iq_m3_m4, iq_m3_m2, iq_m3_m1, iq_m3_0, iq_m3_1, iq_m3_2, iq_m3_3, iq_m3_4, iq_m3_5, iq_m2_m6, iq_m2_m5, iq_m2_m4, iq_m2_m3, iq_m2_m1, iq_m2_0, iq_m2_1, iq_m2_2, iq_m2_3, iq_m2_4, iq_m2_5, iq_m1_m6, iq_m1_m5, iq_m1_m4, iq_m1_m3, iq_m1_m2, iq_m1_0, iq_m1_1, iq_m1_2, iq_m1_3, iq_m1_4, iq_m1_5, iq_0_m6, iq_0_m5, iq_0_m4, iq_0_m3, iq_0_m2, iq_0_m1, iq_0_1, iq_0_2, iq_0_3, iq_0_4, iq_0_5, iq_1_m6, iq_1_m5, iq_1_m4, iq_1_m3, iq_1_m2, iq_1_m1, iq_1_0, iq_1_2, iq_1_3, iq_1_4, iq_1_5, iq_2_m6, iq_2_m5, iq_2_m4, iq_2_m3, iq_2_m2, iq_2_m1, iq_2_0, iq_2_1, iq_2_3, iq_2_4, iq_2_5, iq_3_m6, iq_3_m5, iq_3_m4, iq_3_m3, iq_3_m2, iq_3_m1, iq_3_0, iq_3_1, iq_3_2, iq_3_4, iq_3_5, iq_4_m6, iq_4_m5, iq_4_m4, iq_4_m3, iq_4_m2, iq_4_m1, iq_4_0, iq_4_1, iq_4_2, iq_4_3, iq_4_5, iq_5_m6, iq_5_m5, iq_5_m4, iq_5_m3, iq_5_m2, iq_5_m1, iq_5_0, iq_5_1, iq_5_2, iq_5_3, iq_5_4, ls_k hS, ls_r6 hS, ls_k7 hS, ls_n7 hS, lw_r hS hi8, lw_k hS hi8, ls_k hD, ls_r6 hD, ls_k7 hD, ls_n7 hD, lw_r hD hi8, lw_k hD hi8, hk, hx_nle, hf_inI, nI_clamp, e, nI_p1]
theorem cl_1 {N f S D k : Nat} {I : hf_M} (hS : hsc S) (k8 : k ≤ 8) (hk : I S 8 = nI k) : BX4_copyFrom_98 N (f + 1) [.ref D, .ref S, .int (nI k)] [] I = hp_cq N [.ref D, .ref S, .int (nI k)] [] I := by
  show (if hf_kd S = 4 + 3 then (if I S 8 ≤ nI k then hp_cq N [.ref D, .ref S, .int (nI k)] [] I else _) else none) = _
  rw [if_pos (ls_k hS), hk, if_pos (nI_le (Nat.le_refl _) (by omega))]
theorem cl_l {N S D k : Nat} (hS : hsc S) (hD : hsc D) (hSD : S ≠ D) (k8 : k ≤ 8) : ∀ (d i f : Nat) (I : hf_M), i + d = k → d < f → I S 8 = nI k → (∀ x, x < k → I (S + 12 + 3 * x) 9 = 0 ∨ I (S + 12 + 3 * x) 9 = 1) → ∃ I', BX4_copyFrom_98 N f [.ref D, .ref S, .int (nI i)] [] I = hp_cq N [.ref D, .ref S, .int (nI k)] [] I' ∧ (∀ x, i ≤ x → x < k → (∀ j, j < 12 → I' (D + 12 + 3 * x + 1) j = I (S + 12 + 3 * x + 1) j ∧ I' (D + 12 + 3 * x + 2) j = I (S + 12 + 3 * x + 2) j) ∧ ∀ j, 2 ≤ j → j ≤ 9 → I' (D + 12 + 3 * x) j = I (S + 12 + 3 * x) j) ∧ (∀ e, e < D + 12 + 3 * i ∨ D + 36 ≤ e → I' e = I e) := by
  have hb := hsc_b hS
  have hb2 := hsc_b hD
  have hne : S + 36 ≤ D ∨ D + 36 ≤ S := by
    have h1 := hS
    have h2 := hD
    unfold hsc at h1 h2
    omega
  intro d
  induction d with
  | zero =>
    intro i f I hi hf hk h9
    obtain ⟨f, rfl⟩ : ∃ k, f = k + 1 := ⟨f - 1, by omega⟩
    have : i = k := by omega
    subst this
    exact ⟨I, cl_1 hS k8 hk, fun x x1 x2 => by omega, fun _ _ => rfl⟩
  | succ d ih =>
    intro i f I hi hf hk h9
    obtain ⟨f, rfl⟩ : ∃ k, f = k + 1 := ⟨f - 1, by omega⟩
    obtain ⟨I1, e1, c1, c2, c3⟩ := kc_c (N := N) (I := I) hS hD hSD (i := i) (by omega) (h9 i (by omega))
    have g : ∀ e, e < D + 12 + 3 * i ∨ D + 12 + 3 * i + 3 ≤ e → I1 e = I e := fun e he => c3 e (by omega) (by omega) (by omega)
    obtain ⟨I', e2, q1, q2⟩ := ih (i + 1) f I1 (by omega) (by omega) (by rw [g S (by omega)]; exact hk) (fun x hx => by rw [g (S + 12 + 3 * x) (by omega)]; exact h9 x hx)
    refine ⟨I', (cl_0 hS hD k8 hk (by omega) e1).trans e2, fun x x1 x2 => ?_, fun e he => ?_⟩
    · by_cases ex : x = i
      · subst ex
        rw [q2 (D + 12 + 3 * x) (by omega), q2 (D + 12 + 3 * x + 1) (by omega), q2 (D + 12 + 3 * x + 2) (by omega)]
        exact ⟨c1, c2⟩
      · have := q1 x (by omega) x2
        rw [g (S + 12 + 3 * x) (by omega), g (S + 12 + 3 * x + 1) (by omega), g (S + 12 + 3 * x + 2) (by omega)] at this
        exact this
    · rw [q2 e (by omega), g e (by omega)]
