/-! all strips of the class; the reference's strips, ways, rates -/
def hp_w3 (N : Nat) : hf_K hf_M := (c_aload 0 (c_getR 7 3 (c_aload 1 (c_aload 0 (c_getR 7 0 (c_callV 1 2 (fX1_settle N) (c_const (0) (c_istore 2 (BX7_work_121 N N)))))))))
set_option maxRecDepth 100000 in
theorem wb_c {N f S i k : Nat} {K K' : hf_M} (hS : hsc S) (hk : k ≤ 8) (hi : i < k) (h3 : K (S + 8) 3 = nI k) (e : fX1_burnStrip N [.ref 18, .ref S, .ref 7, .int (nI i)] K = some (none, K')) : BX7_work_77 N (f + 1) [.ref 6, .ref S, .int (nI i)] [] K = BX7_work_77 N f [.ref 6, .ref S, .int (nI (i + 1))] [] K' := by
  simp (disch := omega) only [BX7_work_77, r_iload, r_aload, r_istore, r_astore, r_iinc, r_const, r_dupi, r_dupr, r_dup2, r_goto, r_iadd, r_isub, r_imul, r_iand, r_ixor, r_iushr, r_idiv, r_irem, r_ifeq, r_icmpeq, r_ifne, r_icmpne, r_iflt, r_icmplt, r_ifge, r_icmpge, r_ifgt, r_icmpgt, r_ifle, r_icmple, r_tsw, r_getI, r_getR, r_putI, r_putZ, r_iald, r_iast, r_aald, r_gets, r_copy, r_iret, r_zret, r_vret, r_mmax, r_mmin, r_callV, r_callS, r_fn, hf_pop, List.getElem?_cons_zero, List.getElem?_cons_succ, List.set_cons_zero, List.set_cons_succ, List.replicate_succ, List.replicate_zero, List.cons_append, List.nil_append, List.append_nil, List.length_cons, List.length_nil, List.take_succ_cons, List.take_zero, List.drop_succ_cons, List.drop_zero, List.reverse_cons, List.reverse_nil, List.map_cons, List.map_nil, List.sum_cons, List.sum_nil, List.all_cons, List.all_nil, Option.toList_some, Option.toList_none, Value.category, Nat.reduceAdd, Nat.reduceSub, Nat.reduceLeDiff, Nat.reduceMul, Nat.reduceLT, Nat.reduceEqDiff, beq_self_eq_true, Bool.and_self, Bool.and_true, and_self, and_true, true_and, ite_true, ite_false, if_true, if_false, ↓reduceIte, true_or, or_true, Nat.zero_add, Nat.le_refl, Nat.zero_le, not_false_eq_true, eq_self, true_implies, Int32.reduceLT, Int32.reduceLE, Int32.reduceGT, hf_rd6, hw6, iq_m6_m5, iq_m6_m4, iq_m6_m3, iq_m6_m2, iq_m6_m1, iq_m6_0, iq_m6_1, iq_m6_2, iq_m6_3, iq_m6_4, iq_m6_5, iq_m5_m6, iq_m5_m4, iq_m5_m3, iq_m5_m2, iq_m5_m1, iq_m5_0, iq_m5_1, iq_m5_2, iq_m5_3, iq_m5_4, iq_m5_5, iq_m4_m6, iq_m4_m5, iq_m4_m3, iq_m4_m2, iq_m4_m1, iq_m4_0, iq_m4_1, iq_m4_2, iq_m4_3, iq_m4_4, iq_m4_5, iq_m3_m6, iq_m3_m5, iq_m3_m4, iq_m3_m2, iq_m3_m1, iq_m3_0, iq_m3_1, iq_m3_2, iq_m3_3, iq_m3_4, iq_m3_5, iq_m2_m6, iq_m2_m5, iq_m2_m4, iq_m2_m3, iq_m2_m1, iq_m2_0, iq_m2_1, iq_m2_2, iq_m2_3, iq_m2_4, iq_m2_5, iq_m1_m6, iq_m1_m5, iq_m1_m4, iq_m1_m3, iq_m1_m2, iq_m1_0, iq_m1_1, iq_m1_2, iq_m1_3, iq_m1_4, iq_m1_5, iq_0_m6, iq_0_m5, iq_0_m4, iq_0_m3, iq_0_m2, iq_0_m1, iq_0_1, iq_0_2, iq_0_3, iq_0_4, iq_0_5, iq_1_m6, iq_1_m5, iq_1_m4, iq_1_m3, iq_1_m2, iq_1_m1, iq_1_0, iq_1_2, iq_1_3, iq_1_4, iq_1_5, iq_2_m6, iq_2_m5, iq_2_m4, iq_2_m3, iq_2_m2, iq_2_m1, iq_2_0, iq_2_1, iq_2_3, iq_2_4, iq_2_5, iq_3_m6, iq_3_m5, iq_3_m4, iq_3_m3, iq_3_m2, iq_3_m1, iq_3_0, iq_3_1, iq_3_2, iq_3_4, iq_3_5, iq_4_m6, iq_4_m5, iq_4_m4, iq_4_m3, iq_4_m2, iq_4_m1, iq_4_0, iq_4_1, iq_4_2, iq_4_3, iq_4_5, iq_5_m6, iq_5_m5, iq_5_m4, iq_5_m3, iq_5_m2, iq_5_m1, iq_5_0, iq_5_1, iq_5_2, iq_5_3, iq_5_4, lk_6, lr_6_3, lr_6_0, lk_18, ls_k hS, ls_r7 hS, ls_k8 hS, h3, hx_nle, e, nI_p1]
set_option maxRecDepth 100000 in
theorem wb_e {N f S k : Nat} {K : hf_M} (hS : hsc S) (hk : k ≤ 8) (h3 : K (S + 8) 3 = nI k) : BX7_work_77 N (f + 1) [.ref 6, .ref S, .int (nI k)] [] K = hp_w3 N [.ref 6, .ref S, .int (nI k)] [] K := by
  show (if hf_kd S = 4 + 3 then (match hf_rf S 7 with
    | some x => _
    | none => none) else none) = _
  rw [if_pos (ls_k hS), ls_r7 hS]
  show (if hf_kd (S + 8) = 5 + 3 then (if K (S + 8) 3 ≤ nI k then hp_w3 N [.ref 6, .ref S, .int (nI k)] [] K else _) else none) = _
  rw [if_pos (ls_k8 hS), h3, if_pos (nI_le (Nat.le_refl _) (by omega))]
theorem bo_l {N r c w s S k : Nat} {a : Nat → Nat} {h bv st : Nat → Int32} {gr : Nat → Nat} {sd sp b0 : Int32} {I : hf_M} {T0 : hT} (hN : 256 < N) (hB : hBC r c w s S k a h bv st gr sd sp I) : ∀ (d i f : Nat) (K : hf_M), i + d = k → d < f → hBI S k c a bv I K (hp_T r c w s h bv gr sd sp (hp_X a k c) st (a i * c) T0) (a i * c) (hp_bt st bv b0 (a i * c)) (hp_al st (fun n => hp_si a k (n / c)) (a i * c)) → ∃ K', BX7_work_77 N f [.ref 6, .ref S, .int (nI i)] [] K = hp_w3 N [.ref 6, .ref S, .int (nI k)] [] K' ∧ hBI S k c a bv I K' (hp_T r c w s h bv gr sd sp (hp_X a k c) st (r * c) T0) (r * c) (hp_bt st bv b0 (r * c)) (hp_al st (fun n => hp_si a k (n / c)) (r * c)) := by
  obtain ⟨hS, hf, k1, k8, a0, ak, am, h4, h3, hcl, hk3, hst⟩ := id hB
  have hSb := hsc_b hS
  have h256 := hf.1.2.2.2.1
  intro d
  induction d with
  | zero =>
    intro i f K hi hf' hI
    obtain ⟨f, rfl⟩ : ∃ k, f = k + 1 := ⟨f - 1, by omega⟩
    have : i = k := by omega
    subst this
    rw [ak] at hI
    exact ⟨K, wb_e hS k8 (by rw [hI.2.2.2.2.2.2.2 (S + 8) (by omega) (by omega) (by omega) (by omega)]; exact hk3), hI⟩
  | succ d ih =>
    intro i f K hi hf' hI
    obtain ⟨f, rfl⟩ : ∃ k, f = k + 1 := ⟨f - 1, by omega⟩
    have hik : i < k := by omega
    have hai := am i hik
    have i8 := hI.2.2.2.2.2.2.2
    have hle : a (i + 1) * c ≤ r * c := Nat.mul_le_mul_right _ (by rw [← ak]; exact a_mono am k (i + 1) (by omega) (Nat.le_refl _))
    have hle2 : a i * c ≤ a (i + 1) * c := Nat.mul_le_mul_right _ (by omega)
    have e9 : K (S + 9) i = nI (a i) := by rw [i8 (S + 9) (by omega) (by omega) (by omega) (by omega)]; exact (hst i hik).1
    have e10 : K (S + 10) i = nI (a (i + 1) - 1) := by rw [i8 (S + 10) (by omega) (by omega) (by omega) (by omega)]; exact (hst i hik).2
    have e5 : K 7 5 = nI c := by rw [i8 7 (by decide) (by decide) (by omega) (by omega)]; exact hf.1.2.2.2.2.2.1
    have e8 : K (S + 8) 3 = nI k := by rw [i8 (S + 8) (by omega) (by omega) (by omega) (by omega)]; exact hk3
    obtain ⟨K', q1, q2⟩ := bs_l (N := N) (by omega) hB hik (a (i + 1) * c - a i * c) (a i * c) N K (by omega) (by omega) (Nat.le_refl _) hI
    have e : fX1_burnStrip N [.ref 18, .ref S, .ref 7, .int (nI i)] K = some (none, K') := by
      rw [bs_e hS (by omega) e9 e10 e5, Nat.sub_add_cancel (by omega)]; exact q1
    rw [wb_c hS k8 hik e8 e]
    exact ih (i + 1) f K' (by omega) (by omega) q2
/-- the strips in the reference -/
def hMS (k : Nat) (a : Nat → Nat) (J : hf_M) : Prop := J 215 1818 = nI k ∧ ∀ j, j < k → J 215 (1792 + 3 * j) = nI (a j) ∧ J 215 (1792 + 3 * j + 1) = nI (a (j + 1) - 1)
set_option maxRecDepth 100000 in
theorem so_0 {N f k j x : Nat} {J : hf_M} {n s : Int32} {v : Int32} (hk : k ≤ 8) (hj : j < k) (h8 : J 215 1818 = nI k) (e : fX8_in N [.int (nI x), .int (J 215 (1792 + 3 * j)), .int (J 215 (1792 + 3 * j + 1))] J = some (some (Value.int (nI 0)), J)) : BX8_stripOf_12 N (f + 1) [.ref 204, .int n, .int (nI x), .int s, .int (nI j)] [] J = BX8_stripOf_12 N f [.ref 204, .int n, .int (nI x), .int s, .int (nI (j + 1))] [] J := by
  simp (disch := omega) only [BX8_stripOf_12, r_iload, r_aload, r_istore, r_astore, r_iinc, r_const, r_dupi, r_dupr, r_dup2, r_goto, r_iadd, r_isub, r_imul, r_iand, r_ixor, r_iushr, r_idiv, r_irem, r_ifeq, r_icmpeq, r_ifne, r_icmpne, r_iflt, r_icmplt, r_ifge, r_icmpge, r_ifgt, r_icmpgt, r_ifle, r_icmple, r_tsw, r_getI, r_getR, r_putI, r_putZ, r_iald, r_iast, r_aald, r_gets, r_copy, r_iret, r_zret, r_vret, r_mmax, r_mmin, r_callV, r_callS, r_fn, hf_pop, List.getElem?_cons_zero, List.getElem?_cons_succ, List.set_cons_zero, List.set_cons_succ, List.replicate_succ, List.replicate_zero, List.cons_append, List.nil_append, List.append_nil, List.length_cons, List.length_nil, List.take_succ_cons, List.take_zero, List.drop_succ_cons, List.drop_zero, List.reverse_cons, List.reverse_nil, List.map_cons, List.map_nil, List.sum_cons, List.sum_nil, List.all_cons, List.all_nil, Option.toList_some, Option.toList_none, Value.category, Nat.reduceAdd, Nat.reduceSub, Nat.reduceLeDiff, Nat.reduceMul, Nat.reduceLT, Nat.reduceEqDiff, beq_self_eq_true, Bool.and_self, Bool.and_true, and_self, and_true, true_and, ite_true, ite_false, if_true, if_false, ↓reduceIte, true_or, or_true, Nat.zero_add, Nat.le_refl, Nat.zero_le, not_false_eq_true, eq_self, true_implies, Int32.reduceLT, Int32.reduceLE, Int32.reduceGT, hf_rd6, hw6, iq_m6_m5, iq_m6_m4, iq_m6_m3, iq_m6_m2, iq_m6_m1, iq_m6_0, iq_m6_1, iq_m6_2, iq_m6_3, iq_m6_4, iq_m6_5, iq_m5_m6, iq_m5_m4, iq_m5_m3, iq_m5_m2, iq_m5_m1, iq_m5_0, iq_m5_1, iq_m5_2, iq_m5_3, iq_m5_4, iq_m5_5, iq_m4_m6, iq_m4_m5, iq_m4_m3, iq_m4_m2, iq_m4_m1, iq_m4_0, iq_m4_1, iq_m4_2, iq_m4_3, iq_m4_4, iq_m4_5, iq_m3_m6, iq_m3_m5, iq_m3_m4, iq_m3_m2, iq_m3_m1, iq_m3_0, iq_m3_1, iq_m3_2, iq_m3_3, iq_m3_4, iq_m3_5, iq_m2_m6, iq_m2_m5, iq_m2_m4, iq_m2_m3, iq_m2_m1, iq_m2_0, iq_m2_1, iq_m2_2, iq_m2_3, iq_m2_4, iq_m2_5, iq_m1_m6, iq_m1_m5, iq_m1_m4, iq_m1_m3, iq_m1_m2, iq_m1_0, iq_m1_1, iq_m1_2, iq_m1_3, iq_m1_4, iq_m1_5, iq_0_m6, iq_0_m5, iq_0_m4, iq_0_m3, iq_0_m2, iq_0_m1, iq_0_1, iq_0_2, iq_0_3, iq_0_4, iq_0_5, iq_1_m6, iq_1_m5, iq_1_m4, iq_1_m3, iq_1_m2, iq_1_m1, iq_1_0, iq_1_2, iq_1_3, iq_1_4, iq_1_5, iq_2_m6, iq_2_m5, iq_2_m4, iq_2_m3, iq_2_m2, iq_2_m1, iq_2_0, iq_2_1, iq_2_3, iq_2_4, iq_2_5, iq_3_m6, iq_3_m5, iq_3_m4, iq_3_m3, iq_3_m2, iq_3_m1, iq_3_0, iq_3_1, iq_3_2, iq_3_4, iq_3_5, iq_4_m6, iq_4_m5, iq_4_m4, iq_4_m3, iq_4_m2, iq_4_m1, iq_4_0, iq_4_1, iq_4_2, iq_4_3, iq_4_5, iq_5_m6, iq_5_m5, iq_5_m4, iq_5_m3, iq_5_m2, iq_5_m1, iq_5_0, iq_5_1, iq_5_2, iq_5_3, iq_5_4, lk_204, lr_204_17, la_215, ni_0, ni_1, ni_2, ni_3, ni_4, ni_5, ni_6, ni_7, ni_8, ni_9, ni_10, ni_12, ni_13, ni_14, ni_15, ni_16, ni_20, ni_24, ni_30, ni_40, ni_50, ni_100, ni_200, ni_256, ni_500, ni_512, ni_768, ni_1024, ni_1280, ni_1536, ni_1600, ni_1792, ni_1793, ni_1794, ni_1816, ni_1817, ni_1818, ni_1819, ni_1820, ni_1821, ni_1822, ni_1823, ni_1824, ni_10000, nI_add, pk_mul, nI_clamp, hx_lt, hx_nlt, hx_le, hx_nle, hx_ne, hn_lt, hn_nlt, hn_le, hn_nle, hn_ne, hf_inI, Nat.add_zero, h8, e]
set_option maxRecDepth 100000 in
theorem so_1 {N f k j x : Nat} {J : hf_M} {n s : Int32} {v : Int32} (hk : k ≤ 8) (hj : j < k) (h8 : J 215 1818 = nI k) (e : fX8_in N [.int (nI x), .int (J 215 (1792 + 3 * j)), .int (J 215 (1792 + 3 * j + 1))] J = some (some (Value.int (nI 1)), J)) : BX8_stripOf_12 N (f + 1) [.ref 204, .int n, .int (nI x), .int s, .int (nI j)] [] J = BX8_stripOf_12 N f [.ref 204, .int n, .int (nI x), .int (nI j), .int (nI (j + 1))] [] J := by
  simp (disch := omega) only [BX8_stripOf_12, r_iload, r_aload, r_istore, r_astore, r_iinc, r_const, r_dupi, r_dupr, r_dup2, r_goto, r_iadd, r_isub, r_imul, r_iand, r_ixor, r_iushr, r_idiv, r_irem, r_ifeq, r_icmpeq, r_ifne, r_icmpne, r_iflt, r_icmplt, r_ifge, r_icmpge, r_ifgt, r_icmpgt, r_ifle, r_icmple, r_tsw, r_getI, r_getR, r_putI, r_putZ, r_iald, r_iast, r_aald, r_gets, r_copy, r_iret, r_zret, r_vret, r_mmax, r_mmin, r_callV, r_callS, r_fn, hf_pop, List.getElem?_cons_zero, List.getElem?_cons_succ, List.set_cons_zero, List.set_cons_succ, List.replicate_succ, List.replicate_zero, List.cons_append, List.nil_append, List.append_nil, List.length_cons, List.length_nil, List.take_succ_cons, List.take_zero, List.drop_succ_cons, List.drop_zero, List.reverse_cons, List.reverse_nil, List.map_cons, List.map_nil, List.sum_cons, List.sum_nil, List.all_cons, List.all_nil, Option.toList_some, Option.toList_none, Value.category, Nat.reduceAdd, Nat.reduceSub, Nat.reduceLeDiff, Nat.reduceMul, Nat.reduceLT, Nat.reduceEqDiff, beq_self_eq_true, Bool.and_self, Bool.and_true, and_self, and_true, true_and, ite_true, ite_false, if_true, if_false, ↓reduceIte, true_or, or_true, Nat.zero_add, Nat.le_refl, Nat.zero_le, not_false_eq_true, eq_self, true_implies, Int32.reduceLT, Int32.reduceLE, Int32.reduceGT, hf_rd6, hw6, iq_m6_m5, iq_m6_m4, iq_m6_m3, iq_m6_m2, iq_m6_m1, iq_m6_0, iq_m6_1, iq_m6_2, iq_m6_3, iq_m6_4, iq_m6_5, iq_m5_m6, iq_m5_m4, iq_m5_m3, iq_m5_m2, iq_m5_m1, iq_m5_0, iq_m5_1, iq_m5_2, iq_m5_3, iq_m5_4, iq_m5_5, iq_m4_m6, iq_m4_m5, iq_m4_m3, iq_m4_m2, iq_m4_m1, iq_m4_0, iq_m4_1, iq_m4_2, iq_m4_3, iq_m4_4, iq_m4_5, iq_m3_m6, iq_m3_m5, iq_m3_m4, iq_m3_m2, iq_m3_m1, iq_m3_0, iq_m3_1, iq_m3_2, iq_m3_3, iq_m3_4, iq_m3_5, iq_m2_m6, iq_m2_m5, iq_m2_m4, iq_m2_m3, iq_m2_m1, iq_m2_0, iq_m2_1, iq_m2_2, iq_m2_3, iq_m2_4, iq_m2_5, iq_m1_m6, iq_m1_m5, iq_m1_m4, iq_m1_m3, iq_m1_m2, iq_m1_0, iq_m1_1, iq_m1_2, iq_m1_3, iq_m1_4, iq_m1_5, iq_0_m6, iq_0_m5, iq_0_m4, iq_0_m3, iq_0_m2, iq_0_m1, iq_0_1, iq_0_2, iq_0_3, iq_0_4, iq_0_5, iq_1_m6, iq_1_m5, iq_1_m4, iq_1_m3, iq_1_m2, iq_1_m1, iq_1_0, iq_1_2, iq_1_3, iq_1_4, iq_1_5, iq_2_m6, iq_2_m5, iq_2_m4, iq_2_m3, iq_2_m2, iq_2_m1, iq_2_0, iq_2_1, iq_2_3, iq_2_4, iq_2_5, iq_3_m6, iq_3_m5, iq_3_m4, iq_3_m3, iq_3_m2, iq_3_m1, iq_3_0, iq_3_1, iq_3_2, iq_3_4, iq_3_5, iq_4_m6, iq_4_m5, iq_4_m4, iq_4_m3, iq_4_m2, iq_4_m1, iq_4_0, iq_4_1, iq_4_2, iq_4_3, iq_4_5, iq_5_m6, iq_5_m5, iq_5_m4, iq_5_m3, iq_5_m2, iq_5_m1, iq_5_0, iq_5_1, iq_5_2, iq_5_3, iq_5_4, lk_204, lr_204_17, la_215, ni_0, ni_1, ni_2, ni_3, ni_4, ni_5, ni_6, ni_7, ni_8, ni_9, ni_10, ni_12, ni_13, ni_14, ni_15, ni_16, ni_20, ni_24, ni_30, ni_40, ni_50, ni_100, ni_200, ni_256, ni_500, ni_512, ni_768, ni_1024, ni_1280, ni_1536, ni_1600, ni_1792, ni_1793, ni_1794, ni_1816, ni_1817, ni_1818, ni_1819, ni_1820, ni_1821, ni_1822, ni_1823, ni_1824, ni_10000, nI_add, pk_mul, nI_clamp, hx_lt, hx_nlt, hx_le, hx_nle, hx_ne, hn_lt, hn_nlt, hn_le, hn_nle, hn_ne, hf_inI, Nat.add_zero, h8, e]
theorem so_l {N k x i : Nat} {a : Nat → Nat} {J : hf_M} {n : Int32} (hk : k ≤ 8) (ha : ∀ i, i < k → a i < a (i + 1)) (hak : a k ≤ 16) (hM : hMS k a J) (hi : i < k) (h1 : a i ≤ x) (h2 : x < a (i + 1)) : ∀ (d j f : Nat) (s : Int32), j + d = k → d < f → (i < j → s = nI i) → BX8_stripOf_12 N f [.ref 204, .int n, .int (nI x), .int s, .int (nI j)] [] J = some (some (Value.int (nI i)), J) := by
  intro d
  induction d with
  | zero =>
    intro j f s hj hf hs
    obtain ⟨f, rfl⟩ : ∃ k, f = k + 1 := ⟨f - 1, by omega⟩
    have : j = k := by omega
    subst this
    rw [hs hi]
    show (if J 215 1818 ≤ nI j then _ else _) = _
    rw [hM.1, if_pos (nI_le (Nat.le_refl _) (by omega))]; rfl
  | succ d ih =>
    intro j f s hj hf hs
    obtain ⟨f, rfl⟩ : ∃ k, f = k + 1 := ⟨f - 1, by omega⟩
    have hjk : j < k := by omega
    have haj := ha j hjk
    have hb1 := a_mono ha k (j + 1) (by omega) (Nat.le_refl _)
    have hb2 := a_mono ha k (i + 1) (by omega) (Nat.le_refl _)
    obtain ⟨m1, m2⟩ := hM.2 j hjk
    by_cases hij : j = i
    · subst hij
      rw [so_1 (v := 0) hk hjk hM.1 (by rw [m1, m2]; exact e_in1 (nI_nlt h1 (by omega)) (nI_nlt (by omega) (by omega)))]
      exact ih (j + 1) f (nI j) (by omega) (by omega) (fun _ => rfl)
    · have hout : x < a j ∨ a (j + 1) - 1 < x := by
        rcases Nat.lt_or_ge j i with z | z
        · have := a_mono ha i (j + 1) (by omega) (by omega); omega
        · have := a_mono ha j (i + 1) (by omega) (by omega); omega
      rw [so_0 (v := 0) hk hjk hM.1 (by
        rw [m1, m2]
        refine e_in0 ?_
        rcases hout with z | z
        · exact Or.inl (nI_lt z (by omega))
        · exact Or.inr (nI_lt z (by omega)))]
      exact ih (j + 1) f s (by omega) (by omega) (fun z => hs (by omega))
theorem so_f {N r c k n : Nat} {a : Nat → Nat} {J : hf_M} (hN : 8 < N) (hg : hgm r c J) (hk1 : 1 ≤ k) (hk : k ≤ 8) (ha : ∀ i, i < k → a i < a (i + 1)) (a0 : a 0 = 0) (ak : a k = r) (hM : hMS k a J) (hn : n < r * c) : fX8_stripOf N [.ref 204, .int (nI n)] J = some (some (Value.int (nI (hp_si a k (n / c)))), J) := by
  obtain ⟨g1, g2, g3, g4, g5, g6, g7⟩ := hg
  have hd : n / c < a k := by rw [ak, ← div_lo g2]; exact hn
  obtain ⟨s1, s2, s3⟩ := si_ex k (n / c) hk1 (by rw [a0]; exact Nat.zero_le _) hd
  have e : fX8_stripOf N [.ref 204, .int (nI n)] J = BX8_stripOf_12 N N [.ref 204, .int (nI n), .int (nI (n / c)), .int 0, .int (nI 0)] [] J := by
    have h0 : ¬ nI c = 0 := nI_ne0 g2 (by omega)
    rw [← pk_div (a := n) (d := c) (by omega) g2 (by omega), ← g6]
    show (if J 204 1 = 0 then none else _) = _
    rw [if_neg (by rw [g6]; exact h0)]
    rfl
  rw [e]
  exact so_l hk ha (by omega) hM s1 s2 s3 k 0 N 0 (by omega) (by omega) (fun z => by omega)
set_option maxRecDepth 100000 in
theorem pa_0 {N : Nat} {J : hf_M} {x y u v : Int32} (e1 : fX8_stripOf N [.ref 204, .int x] J = some (some (Value.int u), J)) (e2 : fX8_stripOf N [.ref 204, .int y] J = some (some (Value.int v), J)) (h : (u = v) = True) : fX8_passes N [.ref 204, .int x, .int y] J = some (none, hf_w J 215 1821 (J 215 1821 + 0)) := by
  have c1 : (1821 : Int32).toNatClampNeg = 1821 := nI_clamp (n := 1821) (by decide)
  have c2 : hf_in 1821 1824 = True := hf_inI (k := 1821) (by decide) (by decide)
  simp (disch := omega) only [fX8_passes, EX8_passes, r_iload, r_aload, r_istore, r_astore, r_iinc, r_const, r_dupi, r_dupr, r_dup2, r_goto, r_iadd, r_isub, r_imul, r_iand, r_ixor, r_iushr, r_idiv, r_irem, r_ifeq, r_icmpeq, r_ifne, r_icmpne, r_iflt, r_icmplt, r_ifge, r_icmpge, r_ifgt, r_icmpgt, r_ifle, r_icmple, r_tsw, r_getI, r_getR, r_putI, r_putZ, r_iald, r_iast, r_aald, r_gets, r_copy, r_iret, r_zret, r_vret, r_mmax, r_mmin, r_callV, r_callS, r_fn, hf_pop, List.getElem?_cons_zero, List.getElem?_cons_succ, List.set_cons_zero, List.set_cons_succ, List.replicate_succ, List.replicate_zero, List.cons_append, List.nil_append, List.append_nil, List.length_cons, List.length_nil, List.take_succ_cons, List.take_zero, List.drop_succ_cons, List.drop_zero, List.reverse_cons, List.reverse_nil, List.map_cons, List.map_nil, List.sum_cons, List.sum_nil, List.all_cons, List.all_nil, Option.toList_some, Option.toList_none, Value.category, Nat.reduceAdd, Nat.reduceSub, Nat.reduceLeDiff, Nat.reduceMul, Nat.reduceLT, Nat.reduceEqDiff, beq_self_eq_true, Bool.and_self, Bool.and_true, and_self, and_true, true_and, ite_true, ite_false, if_true, if_false, ↓reduceIte, true_or, or_true, Nat.zero_add, Nat.le_refl, Nat.zero_le, not_false_eq_true, eq_self, true_implies, Int32.reduceLT, Int32.reduceLE, Int32.reduceGT, hf_rd6, hw6, iq_m6_m5, iq_m6_m4, iq_m6_m3, iq_m6_m2, iq_m6_m1, iq_m6_0, iq_m6_1, iq_m6_2, iq_m6_3, iq_m6_4, iq_m6_5, iq_m5_m6, iq_m5_m4, iq_m5_m3, iq_m5_m2, iq_m5_m1, iq_m5_0, iq_m5_1, iq_m5_2, iq_m5_3, iq_m5_4, iq_m5_5, iq_m4_m6, iq_m4_m5, iq_m4_m3, iq_m4_m2, iq_m4_m1, iq_m4_0, iq_m4_1, iq_m4_2, iq_m4_3, iq_m4_4, iq_m4_5, iq_m3_m6, iq_m3_m5, iq_m3_m4, iq_m3_m2, iq_m3_m1, iq_m3_0, iq_m3_1, iq_m3_2, iq_m3_3, iq_m3_4, iq_m3_5, iq_m2_m6, iq_m2_m5, iq_m2_m4, iq_m2_m3, iq_m2_m1, iq_m2_0, iq_m2_1, iq_m2_2, iq_m2_3, iq_m2_4, iq_m2_5, iq_m1_m6, iq_m1_m5, iq_m1_m4, iq_m1_m3, iq_m1_m2, iq_m1_0, iq_m1_1, iq_m1_2, iq_m1_3, iq_m1_4, iq_m1_5, iq_0_m6, iq_0_m5, iq_0_m4, iq_0_m3, iq_0_m2, iq_0_m1, iq_0_1, iq_0_2, iq_0_3, iq_0_4, iq_0_5, iq_1_m6, iq_1_m5, iq_1_m4, iq_1_m3, iq_1_m2, iq_1_m1, iq_1_0, iq_1_2, iq_1_3, iq_1_4, iq_1_5, iq_2_m6, iq_2_m5, iq_2_m4, iq_2_m3, iq_2_m2, iq_2_m1, iq_2_0, iq_2_1, iq_2_3, iq_2_4, iq_2_5, iq_3_m6, iq_3_m5, iq_3_m4, iq_3_m3, iq_3_m2, iq_3_m1, iq_3_0, iq_3_1, iq_3_2, iq_3_4, iq_3_5, iq_4_m6, iq_4_m5, iq_4_m4, iq_4_m3, iq_4_m2, iq_4_m1, iq_4_0, iq_4_1, iq_4_2, iq_4_3, iq_4_5, iq_5_m6, iq_5_m5, iq_5_m4, iq_5_m3, iq_5_m2, iq_5_m1, iq_5_0, iq_5_1, iq_5_2, iq_5_3, iq_5_4, lk_204, lr_204_17, la_215, c1, c2, e1, e2, h]
set_option maxRecDepth 100000 in
theorem pa_1 {N : Nat} {J : hf_M} {x y u v : Int32} (e1 : fX8_stripOf N [.ref 204, .int x] J = some (some (Value.int u), J)) (e2 : fX8_stripOf N [.ref 204, .int y] J = some (some (Value.int v), J)) (h : (u = v) = False) : fX8_passes N [.ref 204, .int x, .int y] J = some (none, hf_w J 215 1821 (J 215 1821 + 1)) := by
  have c1 : (1821 : Int32).toNatClampNeg = 1821 := nI_clamp (n := 1821) (by decide)
  have c2 : hf_in 1821 1824 = True := hf_inI (k := 1821) (by decide) (by decide)
  simp (disch := omega) only [fX8_passes, EX8_passes, r_iload, r_aload, r_istore, r_astore, r_iinc, r_const, r_dupi, r_dupr, r_dup2, r_goto, r_iadd, r_isub, r_imul, r_iand, r_ixor, r_iushr, r_idiv, r_irem, r_ifeq, r_icmpeq, r_ifne, r_icmpne, r_iflt, r_icmplt, r_ifge, r_icmpge, r_ifgt, r_icmpgt, r_ifle, r_icmple, r_tsw, r_getI, r_getR, r_putI, r_putZ, r_iald, r_iast, r_aald, r_gets, r_copy, r_iret, r_zret, r_vret, r_mmax, r_mmin, r_callV, r_callS, r_fn, hf_pop, List.getElem?_cons_zero, List.getElem?_cons_succ, List.set_cons_zero, List.set_cons_succ, List.replicate_succ, List.replicate_zero, List.cons_append, List.nil_append, List.append_nil, List.length_cons, List.length_nil, List.take_succ_cons, List.take_zero, List.drop_succ_cons, List.drop_zero, List.reverse_cons, List.reverse_nil, List.map_cons, List.map_nil, List.sum_cons, List.sum_nil, List.all_cons, List.all_nil, Option.toList_some, Option.toList_none, Value.category, Nat.reduceAdd, Nat.reduceSub, Nat.reduceLeDiff, Nat.reduceMul, Nat.reduceLT, Nat.reduceEqDiff, beq_self_eq_true, Bool.and_self, Bool.and_true, and_self, and_true, true_and, ite_true, ite_false, if_true, if_false, ↓reduceIte, true_or, or_true, Nat.zero_add, Nat.le_refl, Nat.zero_le, not_false_eq_true, eq_self, true_implies, Int32.reduceLT, Int32.reduceLE, Int32.reduceGT, hf_rd6, hw6, iq_m6_m5, iq_m6_m4, iq_m6_m3, iq_m6_m2, iq_m6_m1, iq_m6_0, iq_m6_1, iq_m6_2, iq_m6_3, iq_m6_4, iq_m6_5, iq_m5_m6, iq_m5_m4, iq_m5_m3, iq_m5_m2, iq_m5_m1, iq_m5_0, iq_m5_1, iq_m5_2, iq_m5_3, iq_m5_4, iq_m5_5, iq_m4_m6, iq_m4_m5, iq_m4_m3, iq_m4_m2, iq_m4_m1, iq_m4_0, iq_m4_1, iq_m4_2, iq_m4_3, iq_m4_4, iq_m4_5, iq_m3_m6, iq_m3_m5, iq_m3_m4, iq_m3_m2, iq_m3_m1, iq_m3_0, iq_m3_1, iq_m3_2, iq_m3_3, iq_m3_4, iq_m3_5, iq_m2_m6, iq_m2_m5, iq_m2_m4, iq_m2_m3, iq_m2_m1, iq_m2_0, iq_m2_1, iq_m2_2, iq_m2_3, iq_m2_4, iq_m2_5, iq_m1_m6, iq_m1_m5, iq_m1_m4, iq_m1_m3, iq_m1_m2, iq_m1_0, iq_m1_1, iq_m1_2, iq_m1_3, iq_m1_4, iq_m1_5, iq_0_m6, iq_0_m5, iq_0_m4, iq_0_m3, iq_0_m2, iq_0_m1, iq_0_1, iq_0_2, iq_0_3, iq_0_4, iq_0_5, iq_1_m6, iq_1_m5, iq_1_m4, iq_1_m3, iq_1_m2, iq_1_m1, iq_1_0, iq_1_2, iq_1_3, iq_1_4, iq_1_5, iq_2_m6, iq_2_m5, iq_2_m4, iq_2_m3, iq_2_m2, iq_2_m1, iq_2_0, iq_2_1, iq_2_3, iq_2_4, iq_2_5, iq_3_m6, iq_3_m5, iq_3_m4, iq_3_m3, iq_3_m2, iq_3_m1, iq_3_0, iq_3_1, iq_3_2, iq_3_4, iq_3_5, iq_4_m6, iq_4_m5, iq_4_m4, iq_4_m3, iq_4_m2, iq_4_m1, iq_4_0, iq_4_1, iq_4_2, iq_4_3, iq_4_5, iq_5_m6, iq_5_m5, iq_5_m4, iq_5_m3, iq_5_m2, iq_5_m1, iq_5_0, iq_5_1, iq_5_2, iq_5_3, iq_5_4, lk_204, lr_204_17, la_215, c1, c2, e1, e2, h]
theorem pa_f {N r c k n m : Nat} {a : Nat → Nat} {J : hf_M} (hN : 8 < N) (hg : hgm r c J) (hk1 : 1 ≤ k) (hk : k ≤ 8) (ha : ∀ i, i < k → a i < a (i + 1)) (a0 : a 0 = 0) (ak : a k = r) (hM : hMS k a J) (hn : n < r * c) (hm : m < r * c) : fX8_passes N [.ref 204, .int (nI n), .int (nI m)] J = some (none, hf_w J 215 1821 (J 215 1821 + hp_X a k c n m)) := by
  have e1 := so_f hN hg hk1 hk ha a0 ak hM hn
  have e2 := so_f hN hg hk1 hk ha a0 ak hM hm
  have d1 : n / c < a k := by rw [ak, ← div_lo hg.2.1]; exact hn
  have d2 : m / c < a k := by rw [ak, ← div_lo hg.2.1]; exact hm
  have l1 := (si_ex k (n / c) hk1 (by rw [a0]; exact Nat.zero_le _) d1).1
  have l2 := (si_ex k (m / c) hk1 (by rw [a0]; exact Nat.zero_le _) d2).1
  rw [hp_X_eq ha a0 hk1 hg.2.1 d1 d2]
  by_cases e : hp_si a k (n / c) = hp_si a k (m / c)
  · rw [if_pos e]; exact pa_0 e1 e2 (eq_true (by rw [e]))
  · rw [if_neg e]; exact pa_1 e1 e2 (hx_ne e (by omega) (by omega))
def hp_dd (d w : Nat) : Nat := if 4 < (if w < d then d - w else w - d) then 8 - (if w < d then d - w else w - d) else (if w < d then d - w else w - d)
theorem dd_t : ∀ d, d < 8 → ∀ w, w < 8 → 2 - nI (hp_dd d w) = hf_tab 3 ((d + 8 - w) % 8) := by decide +kernel
theorem wo_t : ∀ d, d < 8 → ∀ w, w < 8 → ∀ (N : Nat) (s : Int32) (J : hf_M), fX8_windOf N [.ref 204, .int (nI w), .int s, .int (nI d)] J = some (some (Value.int (s * (2 - nI (hp_dd d w)))), J) := by
  intro d hd w hw
  match d, hd, w, hw with
  | 0, _, 0, _ => intro N s J; rfl
  | 0, _, 1, _ => intro N s J; rfl
  | 0, _, 2, _ => intro N s J; rfl
  | 0, _, 3, _ => intro N s J; rfl
  | 0, _, 4, _ => intro N s J; rfl
  | 0, _, 5, _ => intro N s J; rfl
  | 0, _, 6, _ => intro N s J; rfl
  | 0, _, 7, _ => intro N s J; rfl
  | 1, _, 0, _ => intro N s J; rfl
  | 1, _, 1, _ => intro N s J; rfl
  | 1, _, 2, _ => intro N s J; rfl
  | 1, _, 3, _ => intro N s J; rfl
  | 1, _, 4, _ => intro N s J; rfl
  | 1, _, 5, _ => intro N s J; rfl
  | 1, _, 6, _ => intro N s J; rfl
  | 1, _, 7, _ => intro N s J; rfl
  | 2, _, 0, _ => intro N s J; rfl
  | 2, _, 1, _ => intro N s J; rfl
  | 2, _, 2, _ => intro N s J; rfl
  | 2, _, 3, _ => intro N s J; rfl
  | 2, _, 4, _ => intro N s J; rfl
  | 2, _, 5, _ => intro N s J; rfl
  | 2, _, 6, _ => intro N s J; rfl
  | 2, _, 7, _ => intro N s J; rfl
  | 3, _, 0, _ => intro N s J; rfl
  | 3, _, 1, _ => intro N s J; rfl
  | 3, _, 2, _ => intro N s J; rfl
  | 3, _, 3, _ => intro N s J; rfl
  | 3, _, 4, _ => intro N s J; rfl
  | 3, _, 5, _ => intro N s J; rfl
  | 3, _, 6, _ => intro N s J; rfl
  | 3, _, 7, _ => intro N s J; rfl
  | 4, _, 0, _ => intro N s J; rfl
  | 4, _, 1, _ => intro N s J; rfl
  | 4, _, 2, _ => intro N s J; rfl
  | 4, _, 3, _ => intro N s J; rfl
  | 4, _, 4, _ => intro N s J; rfl
  | 4, _, 5, _ => intro N s J; rfl
  | 4, _, 6, _ => intro N s J; rfl
  | 4, _, 7, _ => intro N s J; rfl
  | 5, _, 0, _ => intro N s J; rfl
  | 5, _, 1, _ => intro N s J; rfl
  | 5, _, 2, _ => intro N s J; rfl
  | 5, _, 3, _ => intro N s J; rfl
  | 5, _, 4, _ => intro N s J; rfl
  | 5, _, 5, _ => intro N s J; rfl
  | 5, _, 6, _ => intro N s J; rfl
  | 5, _, 7, _ => intro N s J; rfl
  | 6, _, 0, _ => intro N s J; rfl
  | 6, _, 1, _ => intro N s J; rfl
  | 6, _, 2, _ => intro N s J; rfl
  | 6, _, 3, _ => intro N s J; rfl
  | 6, _, 4, _ => intro N s J; rfl
  | 6, _, 5, _ => intro N s J; rfl
  | 6, _, 6, _ => intro N s J; rfl
  | 6, _, 7, _ => intro N s J; rfl
  | 7, _, 0, _ => intro N s J; rfl
  | 7, _, 1, _ => intro N s J; rfl
  | 7, _, 2, _ => intro N s J; rfl
  | 7, _, 3, _ => intro N s J; rfl
  | 7, _, 4, _ => intro N s J; rfl
  | 7, _, 5, _ => intro N s J; rfl
  | 7, _, 6, _ => intro N s J; rfl
  | 7, _, 7, _ => intro N s J; rfl
theorem wo_f {N d w : Nat} {s : Int32} {J : hf_M} (hd : d < 8) (hw : w < 8) : fX8_windOf N [.ref 204, .int (nI w), .int s, .int (nI d)] J = some (some (Value.int (s * hf_tab 3 ((d + 8 - w) % 8))), J) := by
  rw [wo_t d hd w hw, dd_t d hd w hw]
theorem rate_m (N : Nat) (J : hf_M) : ∀ g, 1 ≤ g → g ≤ 4 → fX8_rate N [.int (nI g)] J = some (some (Value.int (hf_tab 4 g)), J) := by
  intro g h1 h2
  match g, h1, h2 with
  | 1, _, _ => rfl
  | 2, _, _ => rfl
  | 3, _, _ => rfl
  | 4, _, _ => rfl
theorem catch_m (N : Nat) (J : hf_M) : ∀ g, 1 ≤ g → g ≤ 4 → fX8_catches N [.int (nI g)] J = some (some (Value.int (hf_tab 5 g)), J) := by
  intro g h1 h2
  match g, h1, h2 with
  | 1, _, _ => rfl
  | 2, _, _ => rfl
  | 3, _, _ => rfl
  | 4, _, _ => rfl
