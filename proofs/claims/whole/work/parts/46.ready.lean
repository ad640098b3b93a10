/-! the reference: work is begun, cells burn -/
set_option maxRecDepth 100000 in
theorem zw_0 {N f i k : Nat} {J : hf_M} {s a b e g u v : Value} (hk : k ≤ 8) (hi : i < k) (h8 : J 215 1818 = nI k) : BX8_step1_252 N (f + 1) [.ref 204, s, a, b, e, g, .int (nI i), u, v] [] J = BX8_step1_252 N f [.ref 204, s, a, b, e, g, .int (nI (i + 1)), u, v] [] (hf_w J 215 (1792 + 3 * i + 2) (nI 0)) := by
  simp (disch := omega) only [BX8_step1_252, r_iload, r_aload, r_istore, r_astore, r_iinc, r_const, r_dupi, r_dupr, r_dup2, r_goto, r_iadd, r_isub, r_imul, r_iand, r_ixor, r_iushr, r_idiv, r_irem, r_ifeq, r_icmpeq, r_ifne, r_icmpne, r_iflt, r_icmplt, r_ifge, r_icmpge, r_ifgt, r_icmpgt, r_ifle, r_icmple, r_tsw, r_getI, r_getR, r_putI, r_putZ, r_iald, r_iast, r_aald, r_gets, r_copy, r_iret, r_zret, r_vret, r_mmax, r_mmin, r_callV, r_callS, r_fn, hf_pop, List.getElem?_cons_zero, List.getElem?_cons_succ, List.set_cons_zero, List.set_cons_succ, List.replicate_succ, List.replicate_zero, List.cons_append, List.nil_append, List.append_nil, List.length_cons, List.length_nil, List.take_succ_cons, List.take_zero, List.drop_succ_cons, List.drop_zero, List.reverse_cons, List.reverse_nil, List.map_cons, List.map_nil, List.sum_cons, List.sum_nil, List.all_cons, List.all_nil, Option.toList_some, Option.toList_none, Value.category, Nat.reduceAdd, Nat.reduceSub, Nat.reduceLeDiff, Nat.reduceMul, Nat.reduceLT, Nat.reduceEqDiff, beq_self_eq_true, Bool.and_self, Bool.and_true, and_self, and_true, true_and, ite_true, ite_false, if_true, if_false, ↓reduceIte, true_or, or_true, Nat.zero_add, Nat.le_refl, Nat.zero_le, not_false_eq_true, eq_self, true_implies, Int32.reduceLT, Int32.reduceLE, Int32.reduceGT, hf_rd6, hw6, iq_m6_m5, iq_m6_m4, iq_m6_m3, iq_m6_m2, iq_m6_m1, iq_m6_0, iq_m6_1, iq_m6_2, iq_m6_3, iq_m6_4, iq_m6_5, iq_m5_m6, iq_m5_m4, iq_m5_m3, iq_m5_m2, iq_m5_m1, iq_m5_0, iq_m5_1, iq_m5_2, iq_m5_3, iq_m5_4, iq_m5_5, iq_m4_m6, iq_m4_m5, iq_m4_m3, iq_m4_m2, iq_m4_m1, iq_m4_0, iq_m4_1, iq_m4_2, iq_m4_3, iq_m4_4, iq_m4_5, iq_m3_m6, iq_m3_m5, iq_m3_m4, iq_m3_m2, iq_m3_m1, iq_m3_0, iq_m3_1, iq_m3_2, iq_m3_3, iq_m3_4, iq_m3_5, iq_m2_m6, iq_m2_m5, iq_m2_m4, iq_m2_m3, iq_m2_m1, iq_m2_0, iq_m2_1, iq_m2_2, iq_m2_3, iq_m2_4, iq_m2_5, iq_m1_m6, iq_m1_m5, iq_m1_m4, iq_m1_m3, iq_m1_m2, iq_m1_0, iq_m1_1, iq_m1_2, iq_m1_3, iq_m1_4, iq_m1_5, iq_0_m6, iq_0_m5, iq_0_m4, iq_0_m3, iq_0_m2, iq_0_m1, iq_0_1, iq_0_2, iq_0_3, iq_0_4, iq_0_5, iq_1_m6, iq_1_m5, iq_1_m4, iq_1_m3, iq_1_m2, iq_1_m1, iq_1_0, iq_1_2, iq_1_3, iq_1_4, iq_1_5, iq_2_m6, iq_2_m5, iq_2_m4, iq_2_m3, iq_2_m2, iq_2_m1, iq_2_0, iq_2_1, iq_2_3, iq_2_4, iq_2_5, iq_3_m6, iq_3_m5, iq_3_m4, iq_3_m3, iq_3_m2, iq_3_m1, iq_3_0, iq_3_1, iq_3_2, iq_3_4, iq_3_5, iq_4_m6, iq_4_m5, iq_4_m4, iq_4_m3, iq_4_m2, iq_4_m1, iq_4_0, iq_4_1, iq_4_2, iq_4_3, iq_4_5, iq_5_m6, iq_5_m5, iq_5_m4, iq_5_m3, iq_5_m2, iq_5_m1, iq_5_0, iq_5_1, iq_5_2, iq_5_3, iq_5_4, lk_204, lr_204_17, la_215, ni_0, ni_1, ni_2, ni_3, ni_4, ni_5, ni_6, ni_7, ni_8, ni_9, ni_10, ni_12, ni_13, ni_14, ni_15, ni_16, ni_20, ni_24, ni_30, ni_40, ni_50, ni_100, ni_200, ni_256, ni_500, ni_512, ni_768, ni_1024, ni_1280, ni_1536, ni_1600, ni_1792, ni_1793, ni_1794, ni_1816, ni_1817, ni_1818, ni_1819, ni_1820, ni_1821, ni_1822, ni_1823, ni_1824, ni_10000, nI_add, pk_mul, nI_clamp, hx_lt, hx_nlt, hx_le, hx_nle, hx_ne, hn_lt, hn_nlt, hn_le, hn_nle, hn_ne, hf_inI, Nat.add_zero, h8]
theorem zw_e {N f k : Nat} {J : hf_M} {s a b e g u v : Value} (hk : k ≤ 8) (h8 : J 215 1818 = nI k) : BX8_step1_252 N (f + 1) [.ref 204, s, a, b, e, g, .int (nI k), u, v] [] J = BX8_step1_290 N N [.ref 204, s, a, b, e, g, .int 0, u, v] [] J := by
  show (if J 215 1818 ≤ nI k then _ else _) = _
  rw [h8, if_pos (nI_le (Nat.le_refl _) (by omega))]; rfl
theorem zw_l {N k : Nat} (hk : k ≤ 8) (s a b e g u v : Value) : ∀ (d i f : Nat) (J : hf_M), i + d = k → d < f → J 215 1818 = nI k → ∃ J', BX8_step1_252 N f [.ref 204, s, a, b, e, g, .int (nI i), u, v] [] J = BX8_step1_290 N N [.ref 204, s, a, b, e, g, .int 0, u, v] [] J' ∧ (∀ j, i ≤ j → j < k → J' 215 (1792 + 3 * j + 2) = nI 0) ∧ (∀ x, (∀ j, i ≤ j → j < k → x ≠ 1792 + 3 * j + 2) → J' 215 x = J 215 x) ∧ (∀ d, d ≠ 215 → J' d = J d) := by
  intro d
  induction d with
  | zero =>
    intro i f J hi hf h8
    obtain ⟨f, rfl⟩ : ∃ k, f = k + 1 := ⟨f - 1, by omega⟩
    have : i = k := by omega
    subst this
    exact ⟨J, zw_e hk h8, fun j h1 h2 => by omega, fun _ _ => rfl, fun _ _ => rfl⟩
  | succ d ih =>
    intro i f J hi hf h8
    obtain ⟨f, rfl⟩ : ∃ k, f = k + 1 := ⟨f - 1, by omega⟩
    obtain ⟨J', q1, q2, q3, q4⟩ := ih (i + 1) f (hf_w J 215 (1792 + 3 * i + 2) (nI 0)) (by omega) (by omega) (by rw [hw_o (Or.inr (by omega))]; exact h8)
    refine ⟨J', (zw_0 hk (by omega) h8).trans q1, fun j h1 h2 => ?_, fun x hx => ?_, fun d hd => ?_⟩
    · by_cases hj : j = i
      · subst hj; rw [q3 _ (fun j' z1 z2 => by omega), hw_s]
      · exact q2 j (by omega) h2
    · rw [q3 x (fun j z1 z2 => hx j (by omega) z2), hw_o (Or.inr (hx i (by omega) (by omega)))]
    · rw [q4 d hd, hw_d hd]
/-- how many cells below n lie in strip i -/
def hp_cn (si : Nat → Nat) : Nat → Nat → Nat
  | 0, _ => 0
  | n + 1, i => hp_cn si n i + (if si n = i then 1 else 0)
theorem hp_cn_le (si : Nat → Nat) : ∀ n i, hp_cn si n i ≤ n := by
  intro n
  induction n with
  | zero => intro i; exact Nat.le_refl _
  | succ n ih =>
    intro i
    have := ih i
    unfold hp_cn
    split <;> omega
theorem hp_cn_eq {a : Nat → Nat} {k c r i : Nat} (h : ∀ i, i < k → a i < a (i + 1)) (h0 : a 0 = 0) (hk : 1 ≤ k) (hc : 0 < c) (ak : a k = r) (hi : i < k) : ∀ n, n ≤ r * c → hp_cn (fun n => hp_si a k (n / c)) n i = min n (a (i + 1) * c) - min n (a i * c) := by
  have hm : a i * c ≤ a (i + 1) * c := Nat.mul_le_mul_right _ (by have := h i hi; omega)
  intro n
  induction n with
  | zero => intro _; simp [hp_cn]
  | succ n ih =>
    intro hn
    have := ih (by omega)
    show hp_cn (fun n => hp_si a k (n / c)) n i + (if hp_si a k (n / c) = i then 1 else 0) = _
    rw [this]
    have hd : n / c < a k := by rw [ak, ← div_lo hc]; omega
    obtain ⟨s1, s2, s3⟩ := si_ex k (n / c) hk (by rw [h0]; exact Nat.zero_le _) hd
    by_cases e : hp_si a k (n / c) = i
    · rw [if_pos e]
      have l1 : ¬ n < a i * c := by rw [div_lo hc, ← e]; omega
      have l2 : n < a (i + 1) * c := by rw [div_lo hc, ← e]; exact s3
      omega
    · rw [if_neg e]
      have : n < a i * c ∨ a (i + 1) * c ≤ n := by
        by_cases l1 : n < a i * c
        · exact Or.inl l1
        · by_cases l2 : n < a (i + 1) * c
          · exact absurd (si_eq h h0 hi (by rw [div_lo hc] at l1; omega) (by rw [div_lo hc] at l2; exact l2)) e
          · exact Or.inr (by omega)
      omega
/-- what the step knows of the reference's memory J as the burning begins -/
def hBM (r c w s k : Nat) (a : Nat → Nat) (h bv st : Nat → Int32) (gr : Nat → Nat) (sd sp : Int32) (J : hf_M) : Prop := hgm r c J ∧ w < 8 ∧ s ≤ 4 ∧ 1 ≤ k ∧ k ≤ 8 ∧ a 0 = 0 ∧ a k = r ∧ (∀ i, i < k → a i < a (i + 1)) ∧ hMS k a J ∧ J 204 12 = sd ∧ J 215 1816 = sp ∧ ∀ n, n < r * c → J 215 n = st n ∧ J 205 n = nI (gr n) ∧ J 206 n = h n ∧ gr n ≤ 5 ∧ (st n = 2 → 1 ≤ gr n ∧ gr n ≤ 4) ∧ bv n = if st n = 2 then (if J 215 (256 + n) < hf_tab 4 (gr n) then J 215 (256 + n) else hf_tab 4 (gr n)) else 0
set_option maxRecDepth 100000 in
theorem pn_0 {N f r c n q : Nat} {K : hf_M} {s a b e g u v : Value} (hg : hgm r c K) (hn : n < r * c) (hs : (K 215 n = nI 2) = False) (hq : q < 8) (es : fX8_stripOf N [.ref 204, .int (nI n)] (hf_w (hf_w K 219 n (nI 0)) 218 n (nI 0)) = some (some (Value.int (nI q)), hf_w (hf_w K 219 n (nI 0)) 218 n (nI 0))) : BX8_step1_290 N (f + 1) [.ref 204, s, a, b, e, g, .int (nI n), u, v] [] K = BX8_step1_290 N f [.ref 204, s, a, b, e, g, .int (nI (n + 1)), .int (nI 0), .int (K 215 (256 + n))] [] (hf_w (hf_w (hf_w K 219 n (nI 0)) 218 n (nI 0)) 215 (1792 + 3 * q + 2) (K 215 (1792 + 3 * q + 2) + nI 1)) := by
  obtain ⟨g1, g2, g3, g4, g5, g6, g7⟩ := hg
  simp (disch := omega) only [BX8_step1_290, BX8_step1_325, BX8_step1_385, r_iload, r_aload, r_istore, r_astore, r_iinc, r_const, r_dupi, r_dupr, r_dup2, r_goto, r_iadd, r_isub, r_imul, r_iand, r_ixor, r_iushr, r_idiv, r_irem, r_ifeq, r_icmpeq, r_ifne, r_icmpne, r_iflt, r_icmplt, r_ifge, r_icmpge, r_ifgt, r_icmpgt, r_ifle, r_icmple, r_tsw, r_getI, r_getR, r_putI, r_putZ, r_iald, r_iast, r_aald, r_gets, r_copy, r_iret, r_zret, r_vret, r_mmax, r_mmin, r_callV, r_callS, r_fn, hf_pop, List.getElem?_cons_zero, List.getElem?_cons_succ, List.set_cons_zero, List.set_cons_succ, List.replicate_succ, List.replicate_zero, List.cons_append, List.nil_append, List.append_nil, List.length_cons, List.length_nil, List.take_succ_cons, List.take_zero, List.drop_succ_cons, List.drop_zero, List.reverse_cons, List.reverse_nil, List.map_cons, List.map_nil, List.sum_cons, List.sum_nil, List.all_cons, List.all_nil, Option.toList_some, Option.toList_none, Value.category, Nat.reduceAdd, Nat.reduceSub, Nat.reduceLeDiff, Nat.reduceMul, Nat.reduceLT, Nat.reduceEqDiff, beq_self_eq_true, Bool.and_self, Bool.and_true, and_self, and_true, true_and, ite_true, ite_false, if_true, if_false, ↓reduceIte, true_or, or_true, Nat.zero_add, Nat.le_refl, Nat.zero_le, not_false_eq_true, eq_self, true_implies, Int32.reduceLT, Int32.reduceLE, Int32.reduceGT, hf_rd6, hw6, iq_m6_m5, iq_m6_m4, iq_m6_m3, iq_m6_m2, iq_m6_m1, iq_m6_0, iq_m6_1, iq_m6_2, iq_m6_3, iq_m6_4, iq_m6_5, iq_m5_m6, iq_m5_m4, iq_m5_m3, iq_m5_m2, iq_m5_m1, iq_m5_0, iq_m5_1, iq_m5_2, iq_m5_3, iq_m5_4, iq_m5_5, iq_m4_m6, iq_m4_m5, iq_m4_m3, iq_m4_m2, iq_m4_m1, iq_m4_0, iq_m4_1, iq_m4_2, iq_m4_3, iq_m4_4, iq_m4_5, iq_m3_m6, iq_m3_m5, iq_m3_m4, iq_m3_m2, iq_m3_m1, iq_m3_0, iq_m3_1, iq_m3_2, iq_m3_3, iq_m3_4, iq_m3_5, iq_m2_m6, iq_m2_m5, iq_m2_m4, iq_m2_m3, iq_m2_m1, iq_m2_0, iq_m2_1, iq_m2_2, iq_m2_3, iq_m2_4, iq_m2_5, iq_m1_m6, iq_m1_m5, iq_m1_m4, iq_m1_m3, iq_m1_m2, iq_m1_0, iq_m1_1, iq_m1_2, iq_m1_3, iq_m1_4, iq_m1_5, iq_0_m6, iq_0_m5, iq_0_m4, iq_0_m3, iq_0_m2, iq_0_m1, iq_0_1, iq_0_2, iq_0_3, iq_0_4, iq_0_5, iq_1_m6, iq_1_m5, iq_1_m4, iq_1_m3, iq_1_m2, iq_1_m1, iq_1_0, iq_1_2, iq_1_3, iq_1_4, iq_1_5, iq_2_m6, iq_2_m5, iq_2_m4, iq_2_m3, iq_2_m2, iq_2_m1, iq_2_0, iq_2_1, iq_2_3, iq_2_4, iq_2_5, iq_3_m6, iq_3_m5, iq_3_m4, iq_3_m3, iq_3_m2, iq_3_m1, iq_3_0, iq_3_1, iq_3_2, iq_3_4, iq_3_5, iq_4_m6, iq_4_m5, iq_4_m4, iq_4_m3, iq_4_m2, iq_4_m1, iq_4_0, iq_4_1, iq_4_2, iq_4_3, iq_4_5, iq_5_m6, iq_5_m5, iq_5_m4, iq_5_m3, iq_5_m2, iq_5_m1, iq_5_0, iq_5_1, iq_5_2, iq_5_3, iq_5_4, lk_204, lr_204_17, lr_204_21, lr_204_22, la_215, la_218, la_219, ni_0, ni_1, ni_2, ni_3, ni_4, ni_5, ni_6, ni_7, ni_8, ni_9, ni_10, ni_12, ni_13, ni_14, ni_15, ni_16, ni_20, ni_24, ni_30, ni_40, ni_50, ni_100, ni_200, ni_256, ni_500, ni_512, ni_768, ni_1024, ni_1280, ni_1536, ni_1600, ni_1792, ni_1793, ni_1794, ni_1816, ni_1817, ni_1818, ni_1819, ni_1820, ni_1821, ni_1822, ni_1823, ni_1824, ni_10000, nI_add, pk_mul, nI_clamp, hx_lt, hx_nlt, hx_le, hx_nle, hx_ne, hn_lt, hn_nlt, hn_le, hn_nle, hn_ne, hf_inI, Nat.add_zero, Nat.zero_add, g7, hs, es]
set_option maxRecDepth 100000 in
theorem pn_1 {N f r c n q x : Nat} {K : hf_M} {s a b e g u v : Value} (hg : hgm r c K) (hn : n < r * c) (hs : K 215 n = nI 2) (hq : q < 8) (hx : K 205 n = nI x) (hx1 : 1 ≤ x) (hx4 : x ≤ 4) (hlt : (hf_tab 4 x ≤ K 215 (256 + n)) = False) (es : fX8_stripOf N [.ref 204, .int (nI n)] (hf_w (hf_w K 219 n (nI 0)) 218 n (K 215 (256 + n))) = some (some (Value.int (nI q)), hf_w (hf_w K 219 n (nI 0)) 218 n (K 215 (256 + n)))) : BX8_step1_290 N (f + 1) [.ref 204, s, a, b, e, g, .int (nI n), u, v] [] K = BX8_step1_290 N f [.ref 204, s, a, b, e, g, .int (nI (n + 1)), .int (nI 1), .int (K 215 (256 + n))] [] (hf_w (hf_w (hf_w K 219 n (nI 0)) 218 n (K 215 (256 + n))) 215 (1792 + 3 * q + 2) (K 215 (1792 + 3 * q + 2) + nI 5)) := by
  obtain ⟨g1, g2, g3, g4, g5, g6, g7⟩ := hg
  simp (disch := omega) only [BX8_step1_290, BX8_step1_325, BX8_step1_385, r_iload, r_aload, r_istore, r_astore, r_iinc, r_const, r_dupi, r_dupr, r_dup2, r_goto, r_iadd, r_isub, r_imul, r_iand, r_ixor, r_iushr, r_idiv, r_irem, r_ifeq, r_icmpeq, r_ifne, r_icmpne, r_iflt, r_icmplt, r_ifge, r_icmpge, r_ifgt, r_icmpgt, r_ifle, r_icmple, r_tsw, r_getI, r_getR, r_putI, r_putZ, r_iald, r_iast, r_aald, r_gets, r_copy, r_iret, r_zret, r_vret, r_mmax, r_mmin, r_callV, r_callS, r_fn, hf_pop, List.getElem?_cons_zero, List.getElem?_cons_succ, List.set_cons_zero, List.set_cons_succ, List.replicate_succ, List.replicate_zero, List.cons_append, List.nil_append, List.append_nil, List.length_cons, List.length_nil, List.take_succ_cons, List.take_zero, List.drop_succ_cons, List.drop_zero, List.reverse_cons, List.reverse_nil, List.map_cons, List.map_nil, List.sum_cons, List.sum_nil, List.all_cons, List.all_nil, Option.toList_some, Option.toList_none, Value.category, Nat.reduceAdd, Nat.reduceSub, Nat.reduceLeDiff, Nat.reduceMul, Nat.reduceLT, Nat.reduceEqDiff, beq_self_eq_true, Bool.and_self, Bool.and_true, and_self, and_true, true_and, ite_true, ite_false, if_true, if_false, ↓reduceIte, true_or, or_true, Nat.zero_add, Nat.le_refl, Nat.zero_le, not_false_eq_true, eq_self, true_implies, Int32.reduceLT, Int32.reduceLE, Int32.reduceGT, hf_rd6, hw6, iq_m6_m5, iq_m6_m4, iq_m6_m3, iq_m6_m2, iq_m6_m1, iq_m6_0, iq_m6_1, iq_m6_2, iq_m6_3, iq_m6_4, iq_m6_5, iq_m5_m6, iq_m5_m4, iq_m5_m3, iq_m5_m2, iq_m5_m1, iq_m5_0, iq_m5_1, iq_m5_2, iq_m5_3, iq_m5_4, iq_m5_5, iq_m4_m6, iq_m4_m5, iq_m4_m3, iq_m4_m2, iq_m4_m1, iq_m4_0, iq_m4_1, iq_m4_2, iq_m4_3, iq_m4_4, iq_m4_5, iq_m3_m6, iq_m3_m5, iq_m3_m4, iq_m3_m2, iq_m3_m1, iq_m3_0, iq_m3_1, iq_m3_2, iq_m3_3, iq_m3_4, iq_m3_5, iq_m2_m6, iq_m2_m5, iq_m2_m4, iq_m2_m3, iq_m2_m1, iq_m2_0, iq_m2_1, iq_m2_2, iq_m2_3, iq_m2_4, iq_m2_5, iq_m1_m6, iq_m1_m5, iq_m1_m4, iq_m1_m3, iq_m1_m2, iq_m1_0, iq_m1_1, iq_m1_2, iq_m1_3, iq_m1_4, iq_m1_5, iq_0_m6, iq_0_m5, iq_0_m4, iq_0_m3, iq_0_m2, iq_0_m1, iq_0_1, iq_0_2, iq_0_3, iq_0_4, iq_0_5, iq_1_m6, iq_1_m5, iq_1_m4, iq_1_m3, iq_1_m2, iq_1_m1, iq_1_0, iq_1_2, iq_1_3, iq_1_4, iq_1_5, iq_2_m6, iq_2_m5, iq_2_m4, iq_2_m3, iq_2_m2, iq_2_m1, iq_2_0, iq_2_1, iq_2_3, iq_2_4, iq_2_5, iq_3_m6, iq_3_m5, iq_3_m4, iq_3_m3, iq_3_m2, iq_3_m1, iq_3_0, iq_3_1, iq_3_2, iq_3_4, iq_3_5, iq_4_m6, iq_4_m5, iq_4_m4, iq_4_m3, iq_4_m2, iq_4_m1, iq_4_0, iq_4_1, iq_4_2, iq_4_3, iq_4_5, iq_5_m6, iq_5_m5, iq_5_m4, iq_5_m3, iq_5_m2, iq_5_m1, iq_5_0, iq_5_1, iq_5_2, iq_5_3, iq_5_4, lk_204, lr_204_17, lr_204_3, lr_204_21, lr_204_22, la_205, la_215, la_218, la_219, ni_0, ni_1, ni_2, ni_3, ni_4, ni_5, ni_6, ni_7, ni_8, ni_9, ni_10, ni_12, ni_13, ni_14, ni_15, ni_16, ni_20, ni_24, ni_30, ni_40, ni_50, ni_100, ni_200, ni_256, ni_500, ni_512, ni_768, ni_1024, ni_1280, ni_1536, ni_1600, ni_1792, ni_1793, ni_1794, ni_1816, ni_1817, ni_1818, ni_1819, ni_1820, ni_1821, ni_1822, ni_1823, ni_1824, ni_10000, nI_add, pk_mul, nI_clamp, hx_lt, hx_nlt, hx_le, hx_nle, hx_ne, hn_lt, hn_nlt, hn_le, hn_nle, hn_ne, hf_inI, Nat.add_zero, Nat.zero_add, g7, hs, hx, rate_m, hlt, es]
set_option maxRecDepth 100000 in
theorem pn_2 {N f r c n q x : Nat} {K : hf_M} {s a b e g u v : Value} (hg : hgm r c K) (hn : n < r * c) (hs : K 215 n = nI 2) (hq : q < 8) (hx : K 205 n = nI x) (hx1 : 1 ≤ x) (hx4 : x ≤ 4) (hlt : (hf_tab 4 x ≤ K 215 (256 + n)) = True) (es : fX8_stripOf N [.ref 204, .int (nI n)] (hf_w (hf_w K 219 n (nI 0)) 218 n (hf_tab 4 x)) = some (some (Value.int (nI q)), hf_w (hf_w K 219 n (nI 0)) 218 n (hf_tab 4 x))) : BX8_step1_290 N (f + 1) [.ref 204, s, a, b, e, g, .int (nI n), u, v] [] K = BX8_step1_290 N f [.ref 204, s, a, b, e, g, .int (nI (n + 1)), .int (nI 1), .int (K 215 (256 + n))] [] (hf_w (hf_w (hf_w K 219 n (nI 0)) 218 n (hf_tab 4 x)) 215 (1792 + 3 * q + 2) (K 215 (1792 + 3 * q + 2) + nI 5)) := by
  obtain ⟨g1, g2, g3, g4, g5, g6, g7⟩ := hg
  simp (disch := omega) only [BX8_step1_290, BX8_step1_325, BX8_step1_385, r_iload, r_aload, r_istore, r_astore, r_iinc, r_const, r_dupi, r_dupr, r_dup2, r_goto, r_iadd, r_isub, r_imul, r_iand, r_ixor, r_iushr, r_idiv, r_irem, r_ifeq, r_icmpeq, r_ifne, r_icmpne, r_iflt, r_icmplt, r_ifge, r_icmpge, r_ifgt, r_icmpgt, r_ifle, r_icmple, r_tsw, r_getI, r_getR, r_putI, r_putZ, r_iald, r_iast, r_aald, r_gets, r_copy, r_iret, r_zret, r_vret, r_mmax, r_mmin, r_callV, r_callS, r_fn, hf_pop, List.getElem?_cons_zero, List.getElem?_cons_succ, List.set_cons_zero, List.set_cons_succ, List.replicate_succ, List.replicate_zero, List.cons_append, List.nil_append, List.append_nil, List.length_cons, List.length_nil, List.take_succ_cons, List.take_zero, List.drop_succ_cons, List.drop_zero, List.reverse_cons, List.reverse_nil, List.map_cons, List.map_nil, List.sum_cons, List.sum_nil, List.all_cons, List.all_nil, Option.toList_some, Option.toList_none, Value.category, Nat.reduceAdd, Nat.reduceSub, Nat.reduceLeDiff, Nat.reduceMul, Nat.reduceLT, Nat.reduceEqDiff, beq_self_eq_true, Bool.and_self, Bool.and_true, and_self, and_true, true_and, ite_true, ite_false, if_true, if_false, ↓reduceIte, true_or, or_true, Nat.zero_add, Nat.le_refl, Nat.zero_le, not_false_eq_true, eq_self, true_implies, Int32.reduceLT, Int32.reduceLE, Int32.reduceGT, hf_rd6, hw6, iq_m6_m5, iq_m6_m4, iq_m6_m3, iq_m6_m2, iq_m6_m1, iq_m6_0, iq_m6_1, iq_m6_2, iq_m6_3, iq_m6_4, iq_m6_5, iq_m5_m6, iq_m5_m4, iq_m5_m3, iq_m5_m2, iq_m5_m1, iq_m5_0, iq_m5_1, iq_m5_2, iq_m5_3, iq_m5_4, iq_m5_5, iq_m4_m6, iq_m4_m5, iq_m4_m3, iq_m4_m2, iq_m4_m1, iq_m4_0, iq_m4_1, iq_m4_2, iq_m4_3, iq_m4_4, iq_m4_5, iq_m3_m6, iq_m3_m5, iq_m3_m4, iq_m3_m2, iq_m3_m1, iq_m3_0, iq_m3_1, iq_m3_2, iq_m3_3, iq_m3_4, iq_m3_5, iq_m2_m6, iq_m2_m5, iq_m2_m4, iq_m2_m3, iq_m2_m1, iq_m2_0, iq_m2_1, iq_m2_2, iq_m2_3, iq_m2_4, iq_m2_5, iq_m1_m6, iq_m1_m5, iq_m1_m4, iq_m1_m3, iq_m1_m2, iq_m1_0, iq_m1_1, iq_m1_2, iq_m1_3, iq_m1_4, iq_m1_5, iq_0_m6, iq_0_m5, iq_0_m4, iq_0_m3, iq_0_m2, iq_0_m1, iq_0_1, iq_0_2, iq_0_3, iq_0_4, iq_0_5, iq_1_m6, iq_1_m5, iq_1_m4, iq_1_m3, iq_1_m2, iq_1_m1, iq_1_0, iq_1_2, iq_1_3, iq_1_4, iq_1_5, iq_2_m6, iq_2_m5, iq_2_m4, iq_2_m3, iq_2_m2, iq_2_m1, iq_2_0, iq_2_1, iq_2_3, iq_2_4, iq_2_5, iq_3_m6, iq_3_m5, iq_3_m4, iq_3_m3, iq_3_m2, iq_3_m1, iq_3_0, iq_3_1, iq_3_2, iq_3_4, iq_3_5, iq_4_m6, iq_4_m5, iq_4_m4, iq_4_m3, iq_4_m2, iq_4_m1, iq_4_0, iq_4_1, iq_4_2, iq_4_3, iq_4_5, iq_5_m6, iq_5_m5, iq_5_m4, iq_5_m3, iq_5_m2, iq_5_m1, iq_5_0, iq_5_1, iq_5_2, iq_5_3, iq_5_4, lk_204, lr_204_17, lr_204_3, lr_204_21, lr_204_22, la_205, la_215, la_218, la_219, ni_0, ni_1, ni_2, ni_3, ni_4, ni_5, ni_6, ni_7, ni_8, ni_9, ni_10, ni_12, ni_13, ni_14, ni_15, ni_16, ni_20, ni_24, ni_30, ni_40, ni_50, ni_100, ni_200, ni_256, ni_500, ni_512, ni_768, ni_1024, ni_1280, ni_1536, ni_1600, ni_1792, ni_1793, ni_1794, ni_1816, ni_1817, ni_1818, ni_1819, ni_1820, ni_1821, ni_1822, ni_1823, ni_1824, ni_10000, nI_add, pk_mul, nI_clamp, hx_lt, hx_nlt, hx_le, hx_nle, hx_ne, hn_lt, hn_nlt, hn_le, hn_nle, hn_ne, hf_inI, Nat.add_zero, Nat.zero_add, g7, hs, hx, rate_m, hlt, es]
theorem pn_e {N f r c : Nat} {K : hf_M} {s a b e g u v : Value} (hg : hgm r c K) : BX8_step1_290 N (f + 1) [.ref 204, s, a, b, e, g, .int (nI (r * c)), u, v] [] K = BX8_step1_427 N N [.ref 204, s, a, b, e, g, .int 0, u, v] [] K := by
  show (if K 204 2 ≤ nI (r * c) then _ else _) = _
  rw [hg.2.2.2.2.2.2, if_pos (nI_le (Nat.le_refl _) (by have := hg.2.2.2.1; omega))]; rfl
/-- the reference's memory while it makes ready: cells below n are done -/
def hMI (k c : Nat) (bv : Nat → Int32) (J K : hf_M) (n : Nat) (wk : Nat → Nat) : Prop := (∀ j, j < n → K 219 j = 0 ∧ K 218 j = bv j) ∧ (∀ i, i < k → K 215 (1792 + 3 * i + 2) = nI (wk i)) ∧ (∀ x, (∀ i, i < k → x ≠ 1792 + 3 * i + 2) → K 215 x = J 215 x) ∧ (∀ d, d ≠ 215 → d ≠ 218 → d ≠ 219 → K d = J d)
theorem pn_l {N r c w s k : Nat} {a : Nat → Nat} {h bv st : Nat → Int32} {gr : Nat → Nat} {sd sp : Int32} {J : hf_M} (hN : 8 < N) (hB : hBM r c w s k a h bv st gr sd sp J) (s1 s2 s3 s4 s5 : Value) : ∀ (d n f : Nat) (K : hf_M) (u v : Value), n + d = r * c → d < f → hMI k c bv J K n (fun i => hp_cn (fun n => hp_si a k (n / c)) n i + 4 * hp_al st (fun n => hp_si a k (n / c)) n i) → ∃ K' u' v', BX8_step1_290 N f [.ref 204, s1, s2, s3, s4, s5, .int (nI n), u, v] [] K = BX8_step1_427 N N [.ref 204, s1, s2, s3, s4, s5, .int 0, u', v'] [] K' ∧ hMI k c bv J K' (r * c) (fun i => hp_cn (fun n => hp_si a k (n / c)) (r * c) i + 4 * hp_al st (fun n => hp_si a k (n / c)) (r * c) i) := by
  obtain ⟨hg, hw, hs4, k1, k8, a0, ak, am, hM, h12, h16, hcl⟩ := hB
  have h256 := hg.2.2.2.1
  intro d
  induction d with
  | zero =>
    intro n f K u v hn hf hI
    obtain ⟨f, rfl⟩ : ∃ k, f = k + 1 := ⟨f - 1, by omega⟩
    have : n = r * c := by omega
    subst this
    exact ⟨K, u, v, pn_e (hgm_c (hI.2.2.2 204 (by decide) (by decide) (by decide)) hg), hI⟩
  | succ d ih =>
    intro n f K u v hn hf hI
    obtain ⟨f, rfl⟩ : ∃ k, f = k + 1 := ⟨f - 1, by omega⟩
    have hnr : n < r * c := by omega
    obtain ⟨i1, i2, i3, i4⟩ := id hI
    obtain ⟨q1, q2, q3, q4, q5, q6⟩ := hcl n hnr
    have hgK : hgm r c K := hgm_c (i4 204 (by decide) (by decide) (by decide)) hg
    have hst : K 215 n = st n := by rw [i3 n (fun i hi => by omega)]; exact q1
    have hfu : K 215 (256 + n) = J 215 (256 + n) := i3 _ (fun i hi => by omega)
    have hgr : K 205 n = nI (gr n) := by rw [i4 205 (by decide) (by decide) (by decide)]; exact q2
    have hd : n / c < a k := by rw [ak, ← div_lo hg.2.1]; exact hnr
    have hsl := (si_ex k (n / c) k1 (by rw [a0]; exact Nat.zero_le _) hd).1
    have hMK : hMS k a K := ⟨by rw [i3 1818 (fun i hi => by omega)]; exact hM.1, fun j hj => by rw [i3 (1792 + 3 * j) (fun i hi => by omega), i3 (1792 + 3 * j + 1) (fun i hi => by omega)]; exact hM.2 j hj⟩
    have es : ∀ b : Int32, fX8_stripOf N [.ref 204, .int (nI n)] (hf_w (hf_w K 219 n (nI 0)) 218 n b) = some (some (Value.int (nI (hp_si a k (n / c)))), hf_w (hf_w K 219 n (nI 0)) 218 n b) := fun b => so_f hN (hgm_c (by rw [hw_d (by decide), hw_d (by decide)]) hgK) k1 k8 am a0 ak ⟨by rw [hw_d (by decide), hw_d (by decide)]; exact hMK.1, fun j hj => by rw [hw_d (by decide), hw_d (by decide)]; exact hMK.2 j hj⟩ hnr
    have key : ∀ (b : Int32) (z : Nat), b = bv n → (∀ i, hp_cn (fun n => hp_si a k (n / c)) (n + 1) i + 4 * hp_al st (fun n => hp_si a k (n / c)) (n + 1) i = hp_cn (fun n => hp_si a k (n / c)) n i + 4 * hp_al st (fun n => hp_si a k (n / c)) n i + (if hp_si a k (n / c) = i then z else 0)) → hMI k c bv J (hf_w (hf_w (hf_w K 219 n (nI 0)) 218 n b) 215 (1792 + 3 * hp_si a k (n / c) + 2) (K 215 (1792 + 3 * hp_si a k (n / c) + 2) + nI z)) (n + 1) (fun i => hp_cn (fun n => hp_si a k (n / c)) (n + 1) i + 4 * hp_al st (fun n => hp_si a k (n / c)) (n + 1) i) := by
      intro b z hb hz
      refine ⟨fun j hj => ?_, fun i hi => ?_, fun x hx => ?_, fun d d1 d2 d3 => ?_⟩
      · by_cases e : j = n
        · subst e
          simp only [hw6, Nat.reduceEqDiff, ↓reduceIte]
          exact ⟨rfl, hb⟩
        · simp only [hw6, Nat.reduceEqDiff, ↓reduceIte, e]
          exact i1 j (by omega)
      · simp only []
        rw [hz i, hw6, if_pos rfl]
        by_cases e : hp_si a k (n / c) = i
        · subst e
          rw [if_pos rfl, if_pos rfl, i2 _ hsl, nI_add]
        · rw [if_neg e, if_neg (by omega), hw_o (Or.inl (by decide)), hw_o (Or.inl (by decide)), i2 i hi]; rfl
      · rw [hw_o (Or.inr (hx _ hsl)), hw_o (Or.inl (by decide)), hw_o (Or.inl (by decide))]; exact i3 x hx
      · rw [hw_d d1, hw_d d2, hw_d d3]; exact i4 d d1 d2 d3
    by_cases hs : st n = 2
    · have hz : ∀ i, hp_cn (fun n => hp_si a k (n / c)) (n + 1) i + 4 * hp_al st (fun n => hp_si a k (n / c)) (n + 1) i = hp_cn (fun n => hp_si a k (n / c)) n i + 4 * hp_al st (fun n => hp_si a k (n / c)) n i + (if hp_si a k (n / c) = i then 5 else 0) := by
        intro i
        show hp_cn (fun n => hp_si a k (n / c)) n i + (if hp_si a k (n / c) = i then 1 else 0) + 4 * (hp_al st (fun n => hp_si a k (n / c)) n i + (if st n = 2 ∧ hp_si a k (n / c) = i then 1 else 0)) = _
        by_cases e : hp_si a k (n / c) = i
        · rw [if_pos e, if_pos ⟨hs, e⟩, if_pos e]; omega
        · rw [if_neg e, if_neg (fun z => e z.2), if_neg e]; omega
      by_cases hlt : hf_tab 4 (gr n) ≤ K 215 (256 + n)
      · rw [pn_2 hgK hnr (by rw [hst]; exact hs) (by omega) hgr (q5 hs).1 (q5 hs).2 (eq_true hlt) (es _)]
        exact ih (n + 1) f _ _ _ (by omega) (by omega) (key _ 5 (by rw [q6, if_pos hs, if_neg (by rw [← hfu]; exact Int32.not_lt.mpr hlt)]) hz)
      · rw [pn_1 hgK hnr (by rw [hst]; exact hs) (by omega) hgr (q5 hs).1 (q5 hs).2 (eq_false hlt) (es _)]
        exact ih (n + 1) f _ _ _ (by omega) (by omega) (key _ 5 (by rw [q6, if_pos hs, if_pos (by rw [← hfu]; exact Int32.not_le.mp hlt), hfu]) hz)
    · have hz : ∀ i, hp_cn (fun n => hp_si a k (n / c)) (n + 1) i + 4 * hp_al st (fun n => hp_si a k (n / c)) (n + 1) i = hp_cn (fun n => hp_si a k (n / c)) n i + 4 * hp_al st (fun n => hp_si a k (n / c)) n i + (if hp_si a k (n / c) = i then 1 else 0) := by
        intro i
        show hp_cn (fun n => hp_si a k (n / c)) n i + (if hp_si a k (n / c) = i then 1 else 0) + 4 * (hp_al st (fun n => hp_si a k (n / c)) n i + (if st n = 2 ∧ hp_si a k (n / c) = i then 1 else 0)) = _
        rw [if_neg (c := st n = 2 ∧ hp_si a k (n / c) = i) (fun z => hs z.1)]; omega
      rw [pn_0 hgK hnr (eq_false (by rw [hst]; exact hs)) (by omega) (es _)]
      exact ih (n + 1) f _ _ _ (by omega) (by omega) (key _ 1 (by rw [q6, if_neg hs]; rfl) hz)
