/-! a crew's act: what is common -/
theorem hwf_s (I : hf_M) (c j : Nat) (v w : Int32) : hf_w (hf_w I c j v) c j w = hf_w I c j w := by
  funext d x
  simp only [hw6]
  by_cases h : d = c
  · subst h
    by_cases hx : x = j
    · simp [hx]
    · simp [hx]
  · simp [h]
theorem hwf_d {I : hf_M} {c j d i : Nat} {v w : Int32} (h : ¬ d = c) : hf_w (hf_w I c j v) d i w = hf_w (hf_w I d i w) c j v := by
  funext y x
  simp only [hw6]
  by_cases h1 : y = c
  · subst h1
    have h2 : ¬ y = d := fun q => h q.symm
    simp [h2]
  · by_cases h2 : y = d
    · subst h2; simp [h]
    · simp [h1, h2]
theorem hwf_i {I : hf_M} {c j i : Nat} {v w : Int32} (h : ¬ i = j) : hf_w (hf_w I c j v) c i w = hf_w (hf_w I c i w) c j v := by
  funext y x
  simp only [hw6]
  by_cases h1 : y = c
  · subst h1
    by_cases h2 : x = j
    · subst h2
      have h3 : ¬ x = i := fun q => h q.symm
      simp [h3]
    · by_cases h4 : x = i
      · subst h4; simp [h2]
      · simp [h2, h4]
  · simp [h1]
/-- the relation of a crew, but for what it has spent -/
theorem fx_crew {r c k i : Nat} {I J : hf_M} (h9 : I k 9 = 0) (h : hr_crew r c I k J 215 0 i) : hr_crew r c (hf_w I k 3 0) k (hf_w J 215 (1536 + 8 * i + 7) 0) 215 0 i := by
  obtain ⟨x1, x2, ⟨a, x3, x4, x5, x6, x7, x8⟩, x9, x10, x11, x12, x13⟩ := h
  unfold hr_crew
  simp (disch := omega) only [hw6, hn_ne, ite_true, ite_false, if_true, if_false, reduceIte, Nat.reduceEqDiff, Nat.reduceAdd, Nat.zero_add]
  simp only [Nat.zero_add] at x1 x2 x5 x7 x9 x11 x12 x13
  refine ⟨x1, x2, ⟨a, x3, x4, x5, x6, fun j hj => ?_, fun _ => ⟨fun _ => ⟨trivial, trivial⟩, fun ha => ⟨fun _ => trivial, fun hn => ⟨0, rfl, rfl, fun h0 => ?_, fun _ => by decide, fun _ _ => rfl⟩⟩⟩⟩, x9, x10, x11, x12, x13⟩
  · exact x7 j hj
  · obtain ⟨t, x, y1, y2, y3, y4, y5, y6, y7⟩ := x7 0 ha
    have ht : t = 0 := by
      rw [y2] at h0
      exact (nI_eq (by omega) (by decide)).mp h0
    obtain ⟨n, n1, n2, n3⟩ := y7 ht
    rw [y4, n3]
    exact ⟨nI_lt (by omega) (by omega), by decide⟩
theorem crew_c {r c k i : Nat} {I I' J J' : hf_M} (h0 : I' k = I k) (h1 : I' (k + 1) = I (k + 1)) (h2 : I' (k + 2) = I (k + 2)) (hJ : ∀ j, 1536 ≤ j → J' 215 j = J 215 j) (h : hr_crew r c I k J 215 0 i) : hr_crew r c I' k J' 215 0 i := by
  obtain ⟨x1, x2, ⟨a, x3, x4, x5, x6, x7, x8⟩, x9⟩ := h
  unfold hr_crew
  rw [h0, h1, h2, hJ (0 + (1536 + 8 * i)) (by omega), hJ (0 + (1536 + 8 * i + 1)) (by omega), hJ (0 + (1536 + 8 * i + 2)) (by omega), hJ (0 + (1536 + 8 * i + 3)) (by omega), hJ (0 + (1536 + 8 * i + 4)) (by omega), hJ (0 + (1536 + 8 * i + 5)) (by omega), hJ (0 + (1536 + 8 * i + 6)) (by omega), hJ (0 + (1536 + 8 * i + 7)) (by omega)]
  refine ⟨x1, x2, ⟨a, x3, x4, x5, x6, fun j hj => ?_, x8⟩, x9⟩
  rw [hJ (0 + (1600 + 24 * i + 2 * j)) (by omega), hJ (0 + (1600 + 24 * i + 2 * j + 1)) (by omega)]
  exact x7 j hj
theorem fx_q {r c S i : Nat} {I0 J0 I J : hf_M} (hS : hsc S) (hrc : r * c ≤ 256) (hi : i < 8) (h9 : I (S + 12 + 3 * i) 9 = 0) (hc : hr_crew r c I (S + 12 + 3 * i) J 215 0 i) (h : hq r c S I0 J0 I J) : hq r c S I0 J0 (hf_w I (S + 12 + 3 * i) 3 0) (hf_w J 215 (1536 + 8 * i + 7) 0) := by
  have hb := hsc_b hS
  refine ⟨fun d hd => ?_, fun d hd => ?_, ?_, ?_⟩
  · rw [hw_d (by omega)]; exact h.1 d hd
  · rw [hw_d hd]; exact h.2.1 d hd
  · rw [hw_d (by omega)]; exact h.2.2.1
  · exact sc_crew hS hrc h.2.2.2 hi (fun d h1 h2 h3 => hw_d h1) (fun j h1 h2 => hw_o (Or.inr (by omega))) (fx_crew h9 hc)
/-- a number of a crew changes alike on both sides -/
theorem cw_q {r c S i f g : Nat} {v : Int32} {I0 J0 I J : hf_M} (hS : hsc S) (hrc : r * c ≤ 256) (hi : i < 8) (hc : hr_crew r c I (S + 12 + 3 * i) J 215 0 i) (h : hq r c S I0 J0 I J) (hf : (f = 4 ∧ g = 0 ∧ ∃ n, n < r * c ∧ v = nI n) ∨ (f = 5 ∧ g = 1) ∨ (f = 6 ∧ g = 4) ∨ (f = 7 ∧ g = 5) ∨ (f = 8 ∧ g = 6)) : hq r c S I0 J0 (hf_w I (S + 12 + 3 * i) f v) (hf_w J 215 (1536 + 8 * i + g) v) ∧ hr_crew r c (hf_w I (S + 12 + 3 * i) f v) (S + 12 + 3 * i) (hf_w J 215 (1536 + 8 * i + g) v) 215 0 i := by
  have hb := hsc_b hS
  have hcr : hr_crew r c (hf_w I (S + 12 + 3 * i) f v) (S + 12 + 3 * i) (hf_w J 215 (1536 + 8 * i + g) v) 215 0 i := by
    obtain ⟨x1, x2, ⟨a, x3, x4, x5, x6, x7, x8⟩, x9, x10, x11, x12, x13⟩ := hc
    simp only [Nat.zero_add] at x1 x2 x5 x7 x8 x9 x11 x12 x13
    unfold hr_crew
    rcases hf with ⟨rfl, rfl, hv⟩ | ⟨rfl, rfl⟩ | ⟨rfl, rfl⟩ | ⟨rfl, rfl⟩ | ⟨rfl, rfl⟩
    all_goals simp (disch := omega) only [hw6, hn_ne, ite_true, ite_false, if_true, if_false, reduceIte, Nat.reduceEqDiff, Nat.reduceAdd, Nat.zero_add, Nat.add_zero]
    all_goals refine ⟨?_, ?_, ⟨a, x3, x4, x5, x6, fun j hj => ?_, x8⟩, x9, x10, ?_, ?_, ?_⟩
    all_goals first
      | exact x1
      | exact x2
      | exact x11
      | exact x12
      | exact x13
      | trivial
      | exact x7 j hj
      | (obtain ⟨n, hn, e⟩ := hv; exact ⟨n, hn, e, e⟩)
  refine ⟨⟨fun d hd => ?_, fun d hd => ?_, ?_, ?_⟩, hcr⟩
  · rw [hw_d (by omega)]; exact h.1 d hd
  · rw [hw_d hd]; exact h.2.1 d hd
  · rw [hw_d (by omega)]; exact h.2.2.1
  · exact sc_crew hS hrc h.2.2.2 hi (fun d h1 h2 h3 => hw_d h1) (fun j h1 h2 => hw_o (Or.inr (by omega))) hcr
/-- the act at hand ends: relation up to what is spent before, whole behind -/
theorem end_q {r c S i a N : Nat} {I0 J0 I J : hf_M} (hN : 24 < N) (hS : hsc S) (hrc : r * c ≤ 256) (hi : i < 8) (h9 : I (S + 12 + 3 * i) 9 = 0) (ha : I (S + 12 + 3 * i) 2 = nI (a + 1)) (ha12 : a < 12) (hc : hr_crew r c (hf_w I (S + 12 + 3 * i) 3 0) (S + 12 + 3 * i) (hf_w J 215 (1536 + 8 * i + 7) 0) 215 0 i) (h : hq r c S I0 J0 (hf_w I (S + 12 + 3 * i) 3 0) (hf_w J 215 (1536 + 8 * i + 7) 0)) : ∃ I' J', fX0_endAct N [.ref (S + 12 + 3 * i)] I = some (none, I') ∧ fX8_over N [.ref 204, .int (nI i)] J = some (none, J') ∧ hq r c S I0 J0 I' J' := by
  have hb := hsc_b hS
  obtain ⟨x1, x2, ⟨b, x3, x4, x5, x6, x7, x8⟩, x9, x10, x11, x12, x13⟩ := hc
  simp (disch := omega) only [hw6, hn_ne, ite_true, ite_false, if_true, if_false, reduceIte, Nat.reduceEqDiff, Nat.reduceAdd, Nat.zero_add] at x1 x2 x4 x5 x6 x9 x10 x11 x12 x13
  have hba : b = a + 1 := by
    rw [ha] at x4
    exact ((nI_eq (by omega) (by omega)).mp x4).symm
  subst hba
  obtain ⟨I', e, c1, c2, c3, c5, c6⟩ := en_cf (N := N) (k := S + 12 + 3 * i) (a := a) (I := I) (by omega) (hcw_of hS hi) ha12 ha
  obtain ⟨J', m, d1, d2, d3, d4, d5⟩ := ov_mf (N := N) (i := i) (a := a) (J := J) (by omega) hi ha12 x5
  refine ⟨I', J', e, m, fun d hd => ?_, fun d hd => ?_, ?_, ?_⟩
  · rw [c6 d (by omega) (by omega) (by omega)]
    have := h.1 d hd
    rw [hw_d (by omega)] at this
    exact this
  · rw [d5 d hd]
    have := h.2.1 d hd
    rw [hw_d hd] at this
    exact this
  · rw [c6 S (by omega) (by omega) (by omega)]
    have := h.2.2.1
    rw [hw_d (by omega)] at this
    exact this
  · refine sc_crew hS hrc h.2.2.2 hi (fun d h1 h2 h3 => ?_) (fun j h1 h2 => ?_) ?_
    · rw [c6 d h1 h2 h3, hw_d h1]
    · rw [d4 j (by omega) (by omega) (by omega), hw_o (Or.inr (by omega))]
    · unfold hr_crew
      simp only [Nat.zero_add]
      rw [c1, c2, c5 4 (by decide) (by decide), c5 5 (by decide) (by decide), c5 6 (by decide) (by decide), c5 7 (by decide) (by decide), c5 8 (by decide) (by decide), c5 9 (by decide) (by decide), d1, d2, d4 (1536 + 8 * i) (by omega) (by omega) (by omega), d4 (1536 + 8 * i + 1) (by omega) (by omega) (by omega), d4 (1536 + 8 * i + 3) (by omega) (by omega) (by omega), d4 (1536 + 8 * i + 4) (by omega) (by omega) (by omega), d4 (1536 + 8 * i + 5) (by omega) (by omega) (by omega), d4 (1536 + 8 * i + 6) (by omega) (by omega) (by omega)]
      have hp : ∀ j, j < a → ∃ t x, t ≤ 5 ∧ I' (S + 12 + 3 * i + 1) j = nI t ∧ J' 215 (1600 + 24 * i + 2 * j) = nI t ∧ I' (S + 12 + 3 * i + 2) j = x ∧ J' 215 (1600 + 24 * i + 2 * j + 1) = x ∧ (t = 1 → ∃ n, n < r * c ∧ x = nI n) ∧ (t = 0 → ∃ n, 1 ≤ n ∧ n ≤ 100 ∧ x = nI n) := by
        intro j hj
        obtain ⟨t, x, y1, y2, y3, y4, y5, y6, y7⟩ := x7 (j + 1) (by omega)
        simp (disch := omega) only [hw6, hn_ne, ite_true, ite_false, if_true, if_false, reduceIte, Nat.reduceEqDiff, Nat.reduceAdd, Nat.zero_add] at y2 y3 y4 y5
        refine ⟨t, x, y1, ?_, ?_, ?_, ?_, y6, y7⟩
        · rw [(c3 j hj).1]; exact y2
        · rw [d3 (2 * j) (by omega), show 1600 + 24 * i + 2 + 2 * j = 1600 + 24 * i + 2 * (j + 1) by omega]; exact y3
        · rw [(c3 j hj).2]; exact y4
        · rw [Nat.add_assoc, d3 (2 * j + 1) (by omega), show 1600 + 24 * i + 2 + (2 * j + 1) = 1600 + 24 * i + 2 * (j + 1) + 1 by omega]; exact y5
      refine ⟨x1, x2, ⟨a, by omega, rfl, rfl, fun hl => ?_, hp, fun _ => ⟨fun _ => ⟨rfl, rfl⟩, fun ha => ⟨fun _ => rfl, fun hn => ⟨0, rfl, rfl, fun h0 => ?_, fun _ => by decide, fun _ _ => rfl⟩⟩⟩⟩, x9, x10, x11, x12, x13⟩
      · rw [h9] at hl; exact absurd hl (by decide)
      · obtain ⟨t, x, y1, y2, y3, y4, y5, y6, y7⟩ := hp 0 ha
        have ht : t = 0 := by
          rw [y2] at h0
          exact (nI_eq (by omega) (by decide)).mp h0
        obtain ⟨n, n1, n2, n3⟩ := y7 ht
        rw [y4, n3]
        exact ⟨nI_lt (by omega) (by omega), by decide⟩
set_option maxRecDepth 100000 in
theorem ac0 {N S k : Nat} {I : hf_M} (hk : hcw k) (h : I k 2 = nI 0) : fX0_act N [.ref k, .ref S, .ref 7] I = some (none, I) := by
  obtain ⟨k1, k2, k3, k4, k5, k6⟩ := hk
  have e0 : nI 0 = 0 := rfl
  simp (disch := omega) only [fX0_act, EX0_act, r_iload, r_aload, r_istore, r_astore, r_iinc, r_const, r_dupi, r_dupr, r_dup2, r_goto, r_iadd, r_isub, r_imul, r_iand, r_ixor, r_iushr, r_idiv, r_irem, r_ifeq, r_icmpeq, r_ifne, r_icmpne, r_iflt, r_icmplt, r_ifge, r_icmpge, r_ifgt, r_icmpgt, r_ifle, r_icmple, r_tsw, r_getI, r_getR, r_putI, r_putZ, r_iald, r_iast, r_aald, r_gets, r_copy, r_iret, r_zret, r_vret, r_mmax, r_mmin, r_callV, r_callS, r_fn, hf_pop, List.getElem?_cons_zero, List.getElem?_cons_succ, List.set_cons_zero, List.set_cons_succ, List.replicate_succ, List.replicate_zero, List.cons_append, List.nil_append, List.append_nil, List.length_cons, List.length_nil, List.take_succ_cons, List.take_zero, List.drop_succ_cons, List.drop_zero, List.reverse_cons, List.reverse_nil, List.map_cons, List.map_nil, List.sum_cons, List.sum_nil, List.all_cons, List.all_nil, Option.toList_some, Option.toList_none, Value.category, Nat.reduceAdd, Nat.reduceSub, Nat.reduceLeDiff, Nat.reduceMul, Nat.reduceLT, Nat.reduceEqDiff, beq_self_eq_true, Bool.and_self, Bool.and_true, and_self, and_true, true_and, ite_true, ite_false, if_true, if_false, reduceIte, true_or, or_true, Nat.zero_add, Nat.le_refl, Nat.zero_le, not_false_eq_true, eq_self, true_implies, Int32.reduceLT, Int32.reduceLE, Int32.reduceGT, hf_rd6, hw6, iq_m6_m5, iq_m6_m4, iq_m6_m3, iq_m6_m2, iq_m6_m1, iq_m6_0, iq_m6_1, iq_m6_2, iq_m6_3, iq_m6_4, iq_m6_5, iq_m5_m6, iq_m5_m4, iq_m5_m3, iq_m5_m2, iq_m5_m1, iq_m5_0, iq_m5_1, iq_m5_2, iq_m5_3, iq_m5_4, iq_m5_5, iq_m4_m6, iq_m4_m5, iq_m4_m3, iq_m4_m2, iq_m4_m1, iq_m4_0, iq_m4_1, iq_m4_2, iq_m4_3, iq_m4_4, iq_m4_5, iq_m3_m6, iq_m3_m5, iq_m3_m4, iq_m3_m2, iq_m3_m1, iq_m3_0, iq_m3_1, iq_m3_2, iq_m3_3, iq_m3_4, iq_m3_5, iq_m2_m6, iq_m2_m5, iq_m2_m4, iq_m2_m3, iq_m2_m1, iq_m2_0, iq_m2_1, iq_m2_2, iq_m2_3, iq_m2_4, iq_m2_5, iq_m1_m6, iq_m1_m5, iq_m1_m4, iq_m1_m3, iq_m1_m2, iq_m1_0, iq_m1_1, iq_m1_2, iq_m1_3, iq_m1_4, iq_m1_5, iq_0_m6, iq_0_m5, iq_0_m4, iq_0_m3, iq_0_m2, iq_0_m1, iq_0_1, iq_0_2, iq_0_3, iq_0_4, iq_0_5, iq_1_m6, iq_1_m5, iq_1_m4, iq_1_m3, iq_1_m2, iq_1_m1, iq_1_0, iq_1_2, iq_1_3, iq_1_4, iq_1_5, iq_2_m6, iq_2_m5, iq_2_m4, iq_2_m3, iq_2_m2, iq_2_m1, iq_2_0, iq_2_1, iq_2_3, iq_2_4, iq_2_5, iq_3_m6, iq_3_m5, iq_3_m4, iq_3_m3, iq_3_m2, iq_3_m1, iq_3_0, iq_3_1, iq_3_2, iq_3_4, iq_3_5, iq_4_m6, iq_4_m5, iq_4_m4, iq_4_m3, iq_4_m2, iq_4_m1, iq_4_0, iq_4_1, iq_4_2, iq_4_3, iq_4_5, iq_5_m6, iq_5_m5, iq_5_m4, iq_5_m3, iq_5_m2, iq_5_m1, iq_5_0, iq_5_1, iq_5_2, iq_5_3, iq_5_4, k1, h, e0]
set_option maxRecDepth 100000 in
theorem ac1 {N S k a : Nat} {I I2 I3 : hf_M} (hk : hcw k) (h : I k 2 = nI (a + 1)) (ha : a < 12) (e1 : fX0_isOver N [.ref k, .ref S, .ref 7] (hf_w I k 3 (I k 3 + 1)) = some (some (Value.int 1), I2)) (e2 : fX0_endAct N [.ref k] I2 = some (none, I3)) : fX0_act N [.ref k, .ref S, .ref 7] I = some (none, I3) := by
  obtain ⟨k1, k2, k3, k4, k5, k6⟩ := hk
  have h0 : (nI (a + 1) = 0) = False := eq_false (nI_ne0 (by omega) (by omega))
  simp (disch := omega) only [fX0_act, EX0_act, r_iload, r_aload, r_istore, r_astore, r_iinc, r_const, r_dupi, r_dupr, r_dup2, r_goto, r_iadd, r_isub, r_imul, r_iand, r_ixor, r_iushr, r_idiv, r_irem, r_ifeq, r_icmpeq, r_ifne, r_icmpne, r_iflt, r_icmplt, r_ifge, r_icmpge, r_ifgt, r_icmpgt, r_ifle, r_icmple, r_tsw, r_getI, r_getR, r_putI, r_putZ, r_iald, r_iast, r_aald, r_gets, r_copy, r_iret, r_zret, r_vret, r_mmax, r_mmin, r_callV, r_callS, r_fn, hf_pop, List.getElem?_cons_zero, List.getElem?_cons_succ, List.set_cons_zero, List.set_cons_succ, List.replicate_succ, List.replicate_zero, List.cons_append, List.nil_append, List.append_nil, List.length_cons, List.length_nil, List.take_succ_cons, List.take_zero, List.drop_succ_cons, List.drop_zero, List.reverse_cons, List.reverse_nil, List.map_cons, List.map_nil, List.sum_cons, List.sum_nil, List.all_cons, List.all_nil, Option.toList_some, Option.toList_none, Value.category, Nat.reduceAdd, Nat.reduceSub, Nat.reduceLeDiff, Nat.reduceMul, Nat.reduceLT, Nat.reduceEqDiff, beq_self_eq_true, Bool.and_self, Bool.and_true, and_self, and_true, true_and, ite_true, ite_false, if_true, if_false, reduceIte, true_or, or_true, Nat.zero_add, Nat.le_refl, Nat.zero_le, not_false_eq_true, eq_self, true_implies, Int32.reduceLT, Int32.reduceLE, Int32.reduceGT, hf_rd6, hw6, iq_m6_m5, iq_m6_m4, iq_m6_m3, iq_m6_m2, iq_m6_m1, iq_m6_0, iq_m6_1, iq_m6_2, iq_m6_3, iq_m6_4, iq_m6_5, iq_m5_m6, iq_m5_m4, iq_m5_m3, iq_m5_m2, iq_m5_m1, iq_m5_0, iq_m5_1, iq_m5_2, iq_m5_3, iq_m5_4, iq_m5_5, iq_m4_m6, iq_m4_m5, iq_m4_m3, iq_m4_m2, iq_m4_m1, iq_m4_0, iq_m4_1, iq_m4_2, iq_m4_3, iq_m4_4, iq_m4_5, iq_m3_m6, iq_m3_m5, iq_m3_m4, iq_m3_m2, iq_m3_m1, iq_m3_0, iq_m3_1, iq_m3_2, iq_m3_3, iq_m3_4, iq_m3_5, iq_m2_m6, iq_m2_m5, iq_m2_m4, iq_m2_m3, iq_m2_m1, iq_m2_0, iq_m2_1, iq_m2_2, iq_m2_3, iq_m2_4, iq_m2_5, iq_m1_m6, iq_m1_m5, iq_m1_m4, iq_m1_m3, iq_m1_m2, iq_m1_0, iq_m1_1, iq_m1_2, iq_m1_3, iq_m1_4, iq_m1_5, iq_0_m6, iq_0_m5, iq_0_m4, iq_0_m3, iq_0_m2, iq_0_m1, iq_0_1, iq_0_2, iq_0_3, iq_0_4, iq_0_5, iq_1_m6, iq_1_m5, iq_1_m4, iq_1_m3, iq_1_m2, iq_1_m1, iq_1_0, iq_1_2, iq_1_3, iq_1_4, iq_1_5, iq_2_m6, iq_2_m5, iq_2_m4, iq_2_m3, iq_2_m2, iq_2_m1, iq_2_0, iq_2_1, iq_2_3, iq_2_4, iq_2_5, iq_3_m6, iq_3_m5, iq_3_m4, iq_3_m3, iq_3_m2, iq_3_m1, iq_3_0, iq_3_1, iq_3_2, iq_3_4, iq_3_5, iq_4_m6, iq_4_m5, iq_4_m4, iq_4_m3, iq_4_m2, iq_4_m1, iq_4_0, iq_4_1, iq_4_2, iq_4_3, iq_4_5, iq_5_m6, iq_5_m5, iq_5_m4, iq_5_m3, iq_5_m2, iq_5_m1, iq_5_0, iq_5_1, iq_5_2, iq_5_3, iq_5_4, k1, h, h0, e1, e2]
set_option maxRecDepth 100000 in
theorem ac2 {N S k a : Nat} {I I2 : hf_M} (hk : hcw k) (h : I k 2 = nI (a + 1)) (ha : a < 12) (e1 : fX0_isOver N [.ref k, .ref S, .ref 7] (hf_w I k 3 (I k 3 + 1)) = some (some (Value.int 0), I2)) : fX0_act N [.ref k, .ref S, .ref 7] I = some (none, I2) := by
  obtain ⟨k1, k2, k3, k4, k5, k6⟩ := hk
  have h0 : (nI (a + 1) = 0) = False := eq_false (nI_ne0 (by omega) (by omega))
  simp (disch := omega) only [fX0_act, EX0_act, r_iload, r_aload, r_istore, r_astore, r_iinc, r_const, r_dupi, r_dupr, r_dup2, r_goto, r_iadd, r_isub, r_imul, r_iand, r_ixor, r_iushr, r_idiv, r_irem, r_ifeq, r_icmpeq, r_ifne, r_icmpne, r_iflt, r_icmplt, r_ifge, r_icmpge, r_ifgt, r_icmpgt, r_ifle, r_icmple, r_tsw, r_getI, r_getR, r_putI, r_putZ, r_iald, r_iast, r_aald, r_gets, r_copy, r_iret, r_zret, r_vret, r_mmax, r_mmin, r_callV, r_callS, r_fn, hf_pop, List.getElem?_cons_zero, List.getElem?_cons_succ, List.set_cons_zero, List.set_cons_succ, List.replicate_succ, List.replicate_zero, List.cons_append, List.nil_append, List.append_nil, List.length_cons, List.length_nil, List.take_succ_cons, List.take_zero, List.drop_succ_cons, List.drop_zero, List.reverse_cons, List.reverse_nil, List.map_cons, List.map_nil, List.sum_cons, List.sum_nil, List.all_cons, List.all_nil, Option.toList_some, Option.toList_none, Value.category, Nat.reduceAdd, Nat.reduceSub, Nat.reduceLeDiff, Nat.reduceMul, Nat.reduceLT, Nat.reduceEqDiff, beq_self_eq_true, Bool.and_self, Bool.and_true, and_self, and_true, true_and, ite_true, ite_false, if_true, if_false, reduceIte, true_or, or_true, Nat.zero_add, Nat.le_refl, Nat.zero_le, not_false_eq_true, eq_self, true_implies, Int32.reduceLT, Int32.reduceLE, Int32.reduceGT, hf_rd6, hw6, iq_m6_m5, iq_m6_m4, iq_m6_m3, iq_m6_m2, iq_m6_m1, iq_m6_0, iq_m6_1, iq_m6_2, iq_m6_3, iq_m6_4, iq_m6_5, iq_m5_m6, iq_m5_m4, iq_m5_m3, iq_m5_m2, iq_m5_m1, iq_m5_0, iq_m5_1, iq_m5_2, iq_m5_3, iq_m5_4, iq_m5_5, iq_m4_m6, iq_m4_m5, iq_m4_m3, iq_m4_m2, iq_m4_m1, iq_m4_0, iq_m4_1, iq_m4_2, iq_m4_3, iq_m4_4, iq_m4_5, iq_m3_m6, iq_m3_m5, iq_m3_m4, iq_m3_m2, iq_m3_m1, iq_m3_0, iq_m3_1, iq_m3_2, iq_m3_3, iq_m3_4, iq_m3_5, iq_m2_m6, iq_m2_m5, iq_m2_m4, iq_m2_m3, iq_m2_m1, iq_m2_0, iq_m2_1, iq_m2_2, iq_m2_3, iq_m2_4, iq_m2_5, iq_m1_m6, iq_m1_m5, iq_m1_m4, iq_m1_m3, iq_m1_m2, iq_m1_0, iq_m1_1, iq_m1_2, iq_m1_3, iq_m1_4, iq_m1_5, iq_0_m6, iq_0_m5, iq_0_m4, iq_0_m3, iq_0_m2, iq_0_m1, iq_0_1, iq_0_2, iq_0_3, iq_0_4, iq_0_5, iq_1_m6, iq_1_m5, iq_1_m4, iq_1_m3, iq_1_m2, iq_1_m1, iq_1_0, iq_1_2, iq_1_3, iq_1_4, iq_1_5, iq_2_m6, iq_2_m5, iq_2_m4, iq_2_m3, iq_2_m2, iq_2_m1, iq_2_0, iq_2_1, iq_2_3, iq_2_4, iq_2_5, iq_3_m6, iq_3_m5, iq_3_m4, iq_3_m3, iq_3_m2, iq_3_m1, iq_3_0, iq_3_1, iq_3_2, iq_3_4, iq_3_5, iq_4_m6, iq_4_m5, iq_4_m4, iq_4_m3, iq_4_m2, iq_4_m1, iq_4_0, iq_4_1, iq_4_2, iq_4_3, iq_4_5, iq_5_m6, iq_5_m5, iq_5_m4, iq_5_m3, iq_5_m2, iq_5_m1, iq_5_0, iq_5_1, iq_5_2, iq_5_3, iq_5_4, k1, h, h0, e1]
