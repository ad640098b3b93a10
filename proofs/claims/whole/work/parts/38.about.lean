/-! cells about a cell; the hottest of them -/
abbrev hp_abP (c n m : Nat) : Prop := ¬ n = m ∧ (n / c ≤ m / c + 1 ∧ m / c ≤ n / c + 1) ∧ (n % c ≤ m % c + 1 ∧ m % c ≤ n % c + 1)
theorem of_iff {r c n m d far : Nat} (hc : 0 < c) (hm : m < r * c) : hp_of r c n d far = some m ↔ (hp_rw c n d far = ((m / c : Nat) : Int) ∧ hp_cl c n d far = ((m % c : Nat) : Int)) := by
  have h1 : m / c < r := Nat.div_lt_of_lt_mul (by rw [Nat.mul_comm]; exact hm)
  have h2 : m % c < c := Nat.mod_lt _ hc
  constructor
  · intro h
    unfold hp_of at h
    split at h
    · cases h
    split at h
    · cases h
    split at h
    · cases h
    split at h
    · cases h
    cases h
    have l : (hp_cl c n d far).toNat < c := by omega
    rw [dm_1 l, dm_2 l]
    omega
  · rintro ⟨h3, h4⟩
    unfold hp_of
    rw [h3, h4]
    have e : m / c * c + m % c = m := by rw [Nat.mul_comm]; exact Nat.div_add_mod m c
    generalize m / c = x at h1 e ⊢
    generalize m % c = y at h2 e ⊢
    rw [if_neg (by omega), if_neg (by omega), if_neg (by omega), if_neg (by omega), Int.toNat_natCast, Int.toNat_natCast, e]
theorem ab_iff {r c n m : Nat} (hc : 0 < c) (hm : m < r * c) : hp_abP c n m ↔ ∃ d, d < 8 ∧ hp_of r c n d 1 = some m := by
  have hnm : n = m ↔ (n / c = m / c ∧ n % c = m % c) := by
    constructor
    · intro h; subst h; exact ⟨rfl, rfl⟩
    · rintro ⟨h1, h2⟩
      rw [← Nat.div_add_mod n c, ← Nat.div_add_mod m c, h1, h2]
  have key : hp_abP c n m ↔ ∃ d, d < 8 ∧ (hp_rw c n d 1 = ((m / c : Nat) : Int) ∧ hp_cl c n d 1 = ((m % c : Nat) : Int)) := by
    unfold hp_abP hp_rw hp_cl
    rw [hnm]
    generalize n / c = a
    generalize m / c = b
    generalize n % c = e
    generalize m % c = g
    constructor
    · rintro ⟨h1, h2, h3⟩
      have hd : ∀ d, d < 8 → (((a : Nat) : Int) + ((1 : Nat) : Int) * hp_dn d = ((b : Nat) : Int) ∧ ((e : Nat) : Int) + ((1 : Nat) : Int) * hp_rt d = ((g : Nat) : Int)) → ∃ d, d < 8 ∧ (((a : Nat) : Int) + ((1 : Nat) : Int) * hp_dn d = ((b : Nat) : Int) ∧ ((e : Nat) : Int) + ((1 : Nat) : Int) * hp_rt d = ((g : Nat) : Int)) := fun d h1 h2 => ⟨d, h1, h2⟩
      have v : hp_dn 0 = -1 ∧ hp_dn 1 = -1 ∧ hp_dn 2 = 0 ∧ hp_dn 3 = 1 ∧ hp_dn 4 = 1 ∧ hp_dn 5 = 1 ∧ hp_dn 6 = 0 ∧ hp_dn 7 = -1 := by decide
      have w : hp_rt 0 = 0 ∧ hp_rt 1 = 1 ∧ hp_rt 2 = 1 ∧ hp_rt 3 = 1 ∧ hp_rt 4 = 0 ∧ hp_rt 5 = -1 ∧ hp_rt 6 = -1 ∧ hp_rt 7 = -1 := by decide
      obtain ⟨v0, v1, v2, v3, v4, v5, v6, v7⟩ := v
      obtain ⟨w0, w1, w2, w3, w4, w5, w6, w7⟩ := w
      by_cases p1 : b + 1 = a
      · by_cases q1 : g + 1 = e
        · exact hd 7 (by decide) (by rw [v7, w7]; omega)
        · by_cases q2 : g = e
          · exact hd 0 (by decide) (by rw [v0, w0]; omega)
          · exact hd 1 (by decide) (by rw [v1, w1]; omega)
      · by_cases p2 : b = a
        · by_cases q1 : g + 1 = e
          · exact hd 6 (by decide) (by rw [v6, w6]; omega)
          · exact hd 2 (by decide) (by rw [v2, w2]; omega)
        · by_cases q1 : g + 1 = e
          · exact hd 5 (by decide) (by rw [v5, w5]; omega)
          · by_cases q2 : g = e
            · exact hd 4 (by decide) (by rw [v4, w4]; omega)
            · exact hd 3 (by decide) (by rw [v3, w3]; omega)
    · rintro ⟨d, h1, h2, h3⟩
      have b1 := hp_dn_b d
      have b2 := hp_rt_b d
      have nz : ¬ (hp_dn d = 0 ∧ hp_rt d = 0) := (by decide : ∀ d, d < 8 → ¬ (hp_dn d = 0 ∧ hp_rt d = 0)) d h1
      omega
  rw [key]
  constructor
  · rintro ⟨d, h1, h2⟩; exact ⟨d, h1, (of_iff hc hm).mpr h2⟩
  · rintro ⟨d, h1, h2⟩; exact ⟨d, h1, (of_iff hc hm).mp h2⟩
theorem in_y {N a b : Nat} {J : hf_M} (ha : a < 2 ^ 30) (hb : b < 2 ^ 30) (h : a ≤ b + 1 ∧ b ≤ a + 1) : fX8_in N [.int (nI a - nI b), .int (-1), .int 1] J = some (some (Value.int 1), J) := by
  have e : nI a - nI b = zI ((a : Int) - b) := by rw [zI_n, zI_n, zI_sub]
  rw [e]
  refine e_in1 ?_ ?_
  · rw [m1_z, zI_lt (by omega) (by omega) (by omega) (by omega)]; omega
  · rw [(by decide +kernel : (1 : Int32) = zI 1), zI_lt (by omega) (by omega) (by omega) (by omega)]; omega
theorem in_n {N a b : Nat} {J : hf_M} (ha : a < 2 ^ 30) (hb : b < 2 ^ 30) (h : ¬ (a ≤ b + 1 ∧ b ≤ a + 1)) : fX8_in N [.int (nI a - nI b), .int (-1), .int 1] J = some (some (Value.int 0), J) := by
  have e : nI a - nI b = zI ((a : Int) - b) := by rw [zI_n, zI_n, zI_sub]
  rw [e]
  refine e_in0 ?_
  rw [m1_z, zI_lt (by omega) (by omega) (by omega) (by omega), (by decide +kernel : (1 : Int32) = zI 1), zI_lt (by omega) (by omega) (by omega) (by omega)]; omega
set_option maxRecDepth 100000 in
theorem ab_m {N r c n m : Nat} {J : hf_M} (hg : hgm r c J) (hn : n < r * c) (hm : m < r * c) : fX8_isAbout N [.ref 204, .int (nI n), .int (nI m)] J = some (some (Value.int (if hp_abP c n m then 1 else 0)), J) := by
  obtain ⟨h1, h2, h3, h4, h5, h6, h7⟩ := hg
  have d1 : n / c ≤ n := Nat.div_le_self _ _
  have d2 : m / c ≤ m := Nat.div_le_self _ _
  have d3 : n % c ≤ n := Nat.mod_le _ _
  have d4 : m % c ≤ m := Nat.mod_le _ _
  have hy : (nI c = 0) = False := eq_false (nI_ne0 h2 (by omega))
  by_cases k1 : n = m
  · rw [if_neg (fun z => z.1 k1)]
    subst k1
    simp (disch := omega) only [fX8_isAbout, EX8_isAbout, r_iload, r_aload, r_istore, r_astore, r_iinc, r_const, r_dupi, r_dupr, r_dup2, r_goto, r_iadd, r_isub, r_imul, r_iand, r_ixor, r_iushr, r_idiv, r_irem, r_ifeq, r_icmpeq, r_ifne, r_icmpne, r_iflt, r_icmplt, r_ifge, r_icmpge, r_ifgt, r_icmpgt, r_ifle, r_icmple, r_tsw, r_getI, r_getR, r_putI, r_putZ, r_iald, r_iast, r_aald, r_gets, r_copy, r_iret, r_zret, r_vret, r_mmax, r_mmin, r_callV, r_callS, r_fn, hf_pop, List.getElem?_cons_zero, List.getElem?_cons_succ, List.set_cons_zero, List.set_cons_succ, List.replicate_succ, List.replicate_zero, List.cons_append, List.nil_append, List.append_nil, List.length_cons, List.length_nil, List.take_succ_cons, List.take_zero, List.drop_succ_cons, List.drop_zero, List.reverse_cons, List.reverse_nil, List.map_cons, List.map_nil, List.sum_cons, List.sum_nil, List.all_cons, List.all_nil, Option.toList_some, Option.toList_none, Value.category, Nat.reduceAdd, Nat.reduceSub, Nat.reduceLeDiff, Nat.reduceMul, Nat.reduceLT, Nat.reduceEqDiff, beq_self_eq_true, Bool.and_self, Bool.and_true, and_self, and_true, true_and, ite_true, ite_false, if_true, if_false, reduceIte, true_or, or_true, Nat.zero_add, Nat.le_refl, Nat.zero_le, not_false_eq_true, eq_self, true_implies, Int32.reduceLT, Int32.reduceLE, Int32.reduceGT, hf_rd6, hw6, iq_m6_m5, iq_m6_m4, iq_m6_m3, iq_m6_m2, iq_m6_m1, iq_m6_0, iq_m6_1, iq_m6_2, iq_m6_3, iq_m6_4, iq_m6_5, iq_m5_m6, iq_m5_m4, iq_m5_m3, iq_m5_m2, iq_m5_m1, iq_m5_0, iq_m5_1, iq_m5_2, iq_m5_3, iq_m5_4, iq_m5_5, iq_m4_m6, iq_m4_m5, iq_m4_m3, iq_m4_m2, iq_m4_m1, iq_m4_0, iq_m4_1, iq_m4_2, iq_m4_3, iq_m4_4, iq_m4_5, iq_m3_m6, iq_m3_m5, iq_m3_m4, iq_m3_m2, iq_m3_m1, iq_m3_0, iq_m3_1, iq_m3_2, iq_m3_3, iq_m3_4, iq_m3_5, iq_m2_m6, iq_m2_m5, iq_m2_m4, iq_m2_m3, iq_m2_m1, iq_m2_0, iq_m2_1, iq_m2_2, iq_m2_3, iq_m2_4, iq_m2_5, iq_m1_m6, iq_m1_m5, iq_m1_m4, iq_m1_m3, iq_m1_m2, iq_m1_0, iq_m1_1, iq_m1_2, iq_m1_3, iq_m1_4, iq_m1_5, iq_0_m6, iq_0_m5, iq_0_m4, iq_0_m3, iq_0_m2, iq_0_m1, iq_0_1, iq_0_2, iq_0_3, iq_0_4, iq_0_5, iq_1_m6, iq_1_m5, iq_1_m4, iq_1_m3, iq_1_m2, iq_1_m1, iq_1_0, iq_1_2, iq_1_3, iq_1_4, iq_1_5, iq_2_m6, iq_2_m5, iq_2_m4, iq_2_m3, iq_2_m2, iq_2_m1, iq_2_0, iq_2_1, iq_2_3, iq_2_4, iq_2_5, iq_3_m6, iq_3_m5, iq_3_m4, iq_3_m3, iq_3_m2, iq_3_m1, iq_3_0, iq_3_1, iq_3_2, iq_3_4, iq_3_5, iq_4_m6, iq_4_m5, iq_4_m4, iq_4_m3, iq_4_m2, iq_4_m1, iq_4_0, iq_4_1, iq_4_2, iq_4_3, iq_4_5, iq_5_m6, iq_5_m5, iq_5_m4, iq_5_m3, iq_5_m2, iq_5_m1, iq_5_0, iq_5_1, iq_5_2, iq_5_3, iq_5_4, lk_204, h6, hy, pk_div, pk_mul, pk_rem2]
  have hne : (nI n = nI m) = False := hx_ne k1 (by omega) (by omega)
  by_cases k2 : n / c ≤ m / c + 1 ∧ m / c ≤ n / c + 1
  · have e1 := in_y (N := N) (J := J) (a := n / c) (b := m / c) (by omega) (by omega) k2
    by_cases k3 : n % c ≤ m % c + 1 ∧ m % c ≤ n % c + 1
    · have e2 := in_y (N := N) (J := J) (a := n % c) (b := m % c) (by omega) (by omega) k3
      rw [if_pos ⟨k1, k2, k3⟩]
      simp (disch := omega) only [fX8_isAbout, EX8_isAbout, r_iload, r_aload, r_istore, r_astore, r_iinc, r_const, r_dupi, r_dupr, r_dup2, r_goto, r_iadd, r_isub, r_imul, r_iand, r_ixor, r_iushr, r_idiv, r_irem, r_ifeq, r_icmpeq, r_ifne, r_icmpne, r_iflt, r_icmplt, r_ifge, r_icmpge, r_ifgt, r_icmpgt, r_ifle, r_icmple, r_tsw, r_getI, r_getR, r_putI, r_putZ, r_iald, r_iast, r_aald, r_gets, r_copy, r_iret, r_zret, r_vret, r_mmax, r_mmin, r_callV, r_callS, r_fn, hf_pop, List.getElem?_cons_zero, List.getElem?_cons_succ, List.set_cons_zero, List.set_cons_succ, List.replicate_succ, List.replicate_zero, List.cons_append, List.nil_append, List.append_nil, List.length_cons, List.length_nil, List.take_succ_cons, List.take_zero, List.drop_succ_cons, List.drop_zero, List.reverse_cons, List.reverse_nil, List.map_cons, List.map_nil, List.sum_cons, List.sum_nil, List.all_cons, List.all_nil, Option.toList_some, Option.toList_none, Value.category, Nat.reduceAdd, Nat.reduceSub, Nat.reduceLeDiff, Nat.reduceMul, Nat.reduceLT, Nat.reduceEqDiff, beq_self_eq_true, Bool.and_self, Bool.and_true, and_self, and_true, true_and, ite_true, ite_false, if_true, if_false, reduceIte, true_or, or_true, Nat.zero_add, Nat.le_refl, Nat.zero_le, not_false_eq_true, eq_self, true_implies, Int32.reduceLT, Int32.reduceLE, Int32.reduceGT, hf_rd6, hw6, iq_m6_m5, iq_m6_m4, iq_m6_m3, iq_m6_m2, iq_m6_m1, iq_m6_0, iq_m6_1, iq_m6_2, iq_m6_3, iq_m6_4, iq_m6_5, iq_m5_m6, iq_m5_m4, iq_m5_m3, iq_m5_m2, iq_m5_m1, iq_m5_0, iq_m5_1, iq_m5_2, iq_m5_3, iq_m5_4, iq_m5_5, iq_m4_m6, iq_m4_m5, iq_m4_m3, iq_m4_m2, iq_m4_m1, iq_m4_0, iq_m4_1, iq_m4_2, iq_m4_3, iq_m4_4, iq_m4_5, iq_m3_m6, iq_m3_m5, iq_m3_m4, iq_m3_m2, iq_m3_m1, iq_m3_0, iq_m3_1, iq_m3_2, iq_m3_3, iq_m3_4, iq_m3_5, iq_m2_m6, iq_m2_m5, iq_m2_m4, iq_m2_m3, iq_m2_m1, iq_m2_0, iq_m2_1, iq_m2_2, iq_m2_3, iq_m2_4, iq_m2_5, iq_m1_m6, iq_m1_m5, iq_m1_m4, iq_m1_m3, iq_m1_m2, iq_m1_0, iq_m1_1, iq_m1_2, iq_m1_3, iq_m1_4, iq_m1_5, iq_0_m6, iq_0_m5, iq_0_m4, iq_0_m3, iq_0_m2, iq_0_m1, iq_0_1, iq_0_2, iq_0_3, iq_0_4, iq_0_5, iq_1_m6, iq_1_m5, iq_1_m4, iq_1_m3, iq_1_m2, iq_1_m1, iq_1_0, iq_1_2, iq_1_3, iq_1_4, iq_1_5, iq_2_m6, iq_2_m5, iq_2_m4, iq_2_m3, iq_2_m2, iq_2_m1, iq_2_0, iq_2_1, iq_2_3, iq_2_4, iq_2_5, iq_3_m6, iq_3_m5, iq_3_m4, iq_3_m3, iq_3_m2, iq_3_m1, iq_3_0, iq_3_1, iq_3_2, iq_3_4, iq_3_5, iq_4_m6, iq_4_m5, iq_4_m4, iq_4_m3, iq_4_m2, iq_4_m1, iq_4_0, iq_4_1, iq_4_2, iq_4_3, iq_4_5, iq_5_m6, iq_5_m5, iq_5_m4, iq_5_m3, iq_5_m2, iq_5_m1, iq_5_0, iq_5_1, iq_5_2, iq_5_3, iq_5_4, lk_204, h6, hy, pk_div, pk_mul, pk_rem2, hne, e1, e2]
    · have e2 := in_n (N := N) (J := J) (a := n % c) (b := m % c) (by omega) (by omega) k3
      rw [if_neg (fun z => k3 z.2.2)]
      simp (disch := omega) only [fX8_isAbout, EX8_isAbout, r_iload, r_aload, r_istore, r_astore, r_iinc, r_const, r_dupi, r_dupr, r_dup2, r_goto, r_iadd, r_isub, r_imul, r_iand, r_ixor, r_iushr, r_idiv, r_irem, r_ifeq, r_icmpeq, r_ifne, r_icmpne, r_iflt, r_icmplt, r_ifge, r_icmpge, r_ifgt, r_icmpgt, r_ifle, r_icmple, r_tsw, r_getI, r_getR, r_putI, r_putZ, r_iald, r_iast, r_aald, r_gets, r_copy, r_iret, r_zret, r_vret, r_mmax, r_mmin, r_callV, r_callS, r_fn, hf_pop, List.getElem?_cons_zero, List.getElem?_cons_succ, List.set_cons_zero, List.set_cons_succ, List.replicate_succ, List.replicate_zero, List.cons_append, List.nil_append, List.append_nil, List.length_cons, List.length_nil, List.take_succ_cons, List.take_zero, List.drop_succ_cons, List.drop_zero, List.reverse_cons, List.reverse_nil, List.map_cons, List.map_nil, List.sum_cons, List.sum_nil, List.all_cons, List.all_nil, Option.toList_some, Option.toList_none, Value.category, Nat.reduceAdd, Nat.reduceSub, Nat.reduceLeDiff, Nat.reduceMul, Nat.reduceLT, Nat.reduceEqDiff, beq_self_eq_true, Bool.and_self, Bool.and_true, and_self, and_true, true_and, ite_true, ite_false, if_true, if_false, reduceIte, true_or, or_true, Nat.zero_add, Nat.le_refl, Nat.zero_le, not_false_eq_true, eq_self, true_implies, Int32.reduceLT, Int32.reduceLE, Int32.reduceGT, hf_rd6, hw6, iq_m6_m5, iq_m6_m4, iq_m6_m3, iq_m6_m2, iq_m6_m1, iq_m6_0, iq_m6_1, iq_m6_2, iq_m6_3, iq_m6_4, iq_m6_5, iq_m5_m6, iq_m5_m4, iq_m5_m3, iq_m5_m2, iq_m5_m1, iq_m5_0, iq_m5_1, iq_m5_2, iq_m5_3, iq_m5_4, iq_m5_5, iq_m4_m6, iq_m4_m5, iq_m4_m3, iq_m4_m2, iq_m4_m1, iq_m4_0, iq_m4_1, iq_m4_2, iq_m4_3, iq_m4_4, iq_m4_5, iq_m3_m6, iq_m3_m5, iq_m3_m4, iq_m3_m2, iq_m3_m1, iq_m3_0, iq_m3_1, iq_m3_2, iq_m3_3, iq_m3_4, iq_m3_5, iq_m2_m6, iq_m2_m5, iq_m2_m4, iq_m2_m3, iq_m2_m1, iq_m2_0, iq_m2_1, iq_m2_2, iq_m2_3, iq_m2_4, iq_m2_5, iq_m1_m6, iq_m1_m5, iq_m1_m4, iq_m1_m3, iq_m1_m2, iq_m1_0, iq_m1_1, iq_m1_2, iq_m1_3, iq_m1_4, iq_m1_5, iq_0_m6, iq_0_m5, iq_0_m4, iq_0_m3, iq_0_m2, iq_0_m1, iq_0_1, iq_0_2, iq_0_3, iq_0_4, iq_0_5, iq_1_m6, iq_1_m5, iq_1_m4, iq_1_m3, iq_1_m2, iq_1_m1, iq_1_0, iq_1_2, iq_1_3, iq_1_4, iq_1_5, iq_2_m6, iq_2_m5, iq_2_m4, iq_2_m3, iq_2_m2, iq_2_m1, iq_2_0, iq_2_1, iq_2_3, iq_2_4, iq_2_5, iq_3_m6, iq_3_m5, iq_3_m4, iq_3_m3, iq_3_m2, iq_3_m1, iq_3_0, iq_3_1, iq_3_2, iq_3_4, iq_3_5, iq_4_m6, iq_4_m5, iq_4_m4, iq_4_m3, iq_4_m2, iq_4_m1, iq_4_0, iq_4_1, iq_4_2, iq_4_3, iq_4_5, iq_5_m6, iq_5_m5, iq_5_m4, iq_5_m3, iq_5_m2, iq_5_m1, iq_5_0, iq_5_1, iq_5_2, iq_5_3, iq_5_4, lk_204, h6, hy, pk_div, pk_mul, pk_rem2, hne, e1, e2]
  · have e1 := in_n (N := N) (J := J) (a := n / c) (b := m / c) (by omega) (by omega) k2
    rw [if_neg (fun z => k2 z.2.1)]
    simp (disch := omega) only [fX8_isAbout, EX8_isAbout, r_iload, r_aload, r_istore, r_astore, r_iinc, r_const, r_dupi, r_dupr, r_dup2, r_goto, r_iadd, r_isub, r_imul, r_iand, r_ixor, r_iushr, r_idiv, r_irem, r_ifeq, r_icmpeq, r_ifne, r_icmpne, r_iflt, r_icmplt, r_ifge, r_icmpge, r_ifgt, r_icmpgt, r_ifle, r_icmple, r_tsw, r_getI, r_getR, r_putI, r_putZ, r_iald, r_iast, r_aald, r_gets, r_copy, r_iret, r_zret, r_vret, r_mmax, r_mmin, r_callV, r_callS, r_fn, hf_pop, List.getElem?_cons_zero, List.getElem?_cons_succ, List.set_cons_zero, List.set_cons_succ, List.replicate_succ, List.replicate_zero, List.cons_append, List.nil_append, List.append_nil, List.length_cons, List.length_nil, List.take_succ_cons, List.take_zero, List.drop_succ_cons, List.drop_zero, List.reverse_cons, List.reverse_nil, List.map_cons, List.map_nil, List.sum_cons, List.sum_nil, List.all_cons, List.all_nil, Option.toList_some, Option.toList_none, Value.category, Nat.reduceAdd, Nat.reduceSub, Nat.reduceLeDiff, Nat.reduceMul, Nat.reduceLT, Nat.reduceEqDiff, beq_self_eq_true, Bool.and_self, Bool.and_true, and_self, and_true, true_and, ite_true, ite_false, if_true, if_false, reduceIte, true_or, or_true, Nat.zero_add, Nat.le_refl, Nat.zero_le, not_false_eq_true, eq_self, true_implies, Int32.reduceLT, Int32.reduceLE, Int32.reduceGT, hf_rd6, hw6, iq_m6_m5, iq_m6_m4, iq_m6_m3, iq_m6_m2, iq_m6_m1, iq_m6_0, iq_m6_1, iq_m6_2, iq_m6_3, iq_m6_4, iq_m6_5, iq_m5_m6, iq_m5_m4, iq_m5_m3, iq_m5_m2, iq_m5_m1, iq_m5_0, iq_m5_1, iq_m5_2, iq_m5_3, iq_m5_4, iq_m5_5, iq_m4_m6, iq_m4_m5, iq_m4_m3, iq_m4_m2, iq_m4_m1, iq_m4_0, iq_m4_1, iq_m4_2, iq_m4_3, iq_m4_4, iq_m4_5, iq_m3_m6, iq_m3_m5, iq_m3_m4, iq_m3_m2, iq_m3_m1, iq_m3_0, iq_m3_1, iq_m3_2, iq_m3_3, iq_m3_4, iq_m3_5, iq_m2_m6, iq_m2_m5, iq_m2_m4, iq_m2_m3, iq_m2_m1, iq_m2_0, iq_m2_1, iq_m2_2, iq_m2_3, iq_m2_4, iq_m2_5, iq_m1_m6, iq_m1_m5, iq_m1_m4, iq_m1_m3, iq_m1_m2, iq_m1_0, iq_m1_1, iq_m1_2, iq_m1_3, iq_m1_4, iq_m1_5, iq_0_m6, iq_0_m5, iq_0_m4, iq_0_m3, iq_0_m2, iq_0_m1, iq_0_1, iq_0_2, iq_0_3, iq_0_4, iq_0_5, iq_1_m6, iq_1_m5, iq_1_m4, iq_1_m3, iq_1_m2, iq_1_m1, iq_1_0, iq_1_2, iq_1_3, iq_1_4, iq_1_5, iq_2_m6, iq_2_m5, iq_2_m4, iq_2_m3, iq_2_m2, iq_2_m1, iq_2_0, iq_2_1, iq_2_3, iq_2_4, iq_2_5, iq_3_m6, iq_3_m5, iq_3_m4, iq_3_m3, iq_3_m2, iq_3_m1, iq_3_0, iq_3_1, iq_3_2, iq_3_4, iq_3_5, iq_4_m6, iq_4_m5, iq_4_m4, iq_4_m3, iq_4_m2, iq_4_m1, iq_4_0, iq_4_1, iq_4_2, iq_4_3, iq_4_5, iq_5_m6, iq_5_m5, iq_5_m4, iq_5_m3, iq_5_m2, iq_5_m1, iq_5_0, iq_5_1, iq_5_2, iq_5_3, iq_5_4, lk_204, h6, hy, pk_div, pk_mul, pk_rem2, hne, e1]
def hbest (C : Nat → Prop) (h : Nat → Int) (b : Option Nat) : Prop := (b = none → ∀ m, ¬ C m) ∧ ∀ m, b = some m → C m ∧ ∀ x, C x → h x < h m ∨ (h x = h m ∧ m ≤ x)
theorem hb_uniq {C C' : Nat → Prop} {h h' : Nat → Int} {b b' : Option Nat} (hC : ∀ m, C m ↔ C' m) (hh : ∀ m, C m → h m = h' m) (h1 : hbest C h b) (h2 : hbest C' h' b') : b = b' := by
  cases b with
  | none =>
    cases b' with
    | none => rfl
    | some y => exact absurd ((hC y).mpr (h2.2 y rfl).1) (h1.1 rfl y)
  | some x =>
    cases b' with
    | none => exact absurd ((hC x).mp (h1.2 x rfl).1) (h2.1 rfl x)
    | some y =>
      obtain ⟨a1, a2⟩ := h1.2 x rfl
      obtain ⟨b1, b2⟩ := h2.2 y rfl
      have c1 := a2 y ((hC y).mpr b1)
      have c2 := b2 x ((hC x).mp a1)
      rw [← hh x a1, ← hh y ((hC y).mpr b1)] at c2
      have : x = y := by omega
      rw [this]
theorem hb_skip {C C' : Nat → Prop} {h : Nat → Int} {b : Option Nat} (hC : ∀ m, C' m ↔ C m) (h1 : hbest C h b) : hbest C' h b :=
  ⟨fun e m hm => h1.1 e m ((hC m).mp hm), fun m e => ⟨(hC m).mpr (h1.2 m e).1, fun x hx => (h1.2 m e).2 x ((hC x).mp hx)⟩⟩
theorem hb_none {C C' : Nat → Prop} {h : Nat → Int} {m : Nat} (hC : ∀ x, C' x ↔ C x ∨ x = m) (h1 : hbest C h none) : hbest C' h (some m) := by
  refine ⟨fun e => (by cases e), fun y e => ?_⟩
  cases e
  refine ⟨(hC m).mpr (Or.inr rfl), fun x hx => ?_⟩
  rcases (hC x).mp hx with z | z
  · exact absurd z (h1.1 rfl x)
  · subst z; exact Or.inr ⟨rfl, Nat.le_refl _⟩
theorem hb_new {C C' : Nat → Prop} {h : Nat → Int} {m b : Nat} (hC : ∀ x, C' x ↔ C x ∨ x = m) (h1 : hbest C h (some b)) (h2 : h b < h m ∨ (h b = h m ∧ m ≤ b)) : hbest C' h (some m) := by
  refine ⟨fun e => (by cases e), fun y e => ?_⟩
  cases e
  refine ⟨(hC m).mpr (Or.inr rfl), fun x hx => ?_⟩
  rcases (hC x).mp hx with z | z
  · have := (h1.2 b rfl).2 x z; omega
  · subst z; exact Or.inr ⟨rfl, Nat.le_refl _⟩
theorem hb_old {C C' : Nat → Prop} {h : Nat → Int} {m b : Nat} (hC : ∀ x, C' x ↔ C x ∨ x = m) (h1 : hbest C h (some b)) (h2 : h m < h b ∨ (h m = h b ∧ b ≤ m)) : hbest C' h (some b) := by
  refine ⟨fun e => (by cases e), fun y e => ?_⟩
  cases e
  refine ⟨(hC b).mpr (Or.inl (h1.2 b rfl).1), fun x hx => ?_⟩
  rcases (hC x).mp hx with z | z
  · exact (h1.2 b rfl).2 x z
  · subst z; exact h2
def hp_C (I : hf_M) (S r c n d m : Nat) : Prop := ∃ d', d' < d ∧ hp_of r c n d' 1 = some m ∧ I (S + 1) m = 2
def hp_h (I : hf_M) (S m : Nat) : Int := (I (S + 4) m).toInt
set_option maxRecDepth 100000 in
theorem ho_0 {N f r c S k n d : Nat} {b : Int32} {I : hf_M} {u w : Value} (hk : hcw k) (hS : hsc S) (hg : hgc r c I) (hn : n < r * c) (h4 : I k 4 = nI n) (hd : d < 8) (h : hp_of r c n d 1 = none) : BX0_hottestAbout_5 N (f + 1) [.ref k, .ref S, .ref 7, .int b, .int (nI d), u, w] [] I = BX0_hottestAbout_5 N f [.ref k, .ref S, .ref 7, .int b, .int (nI (d + 1)), .int (-1), w] [] I := by
  obtain ⟨k1, k2, k3, k4, k5, k6⟩ := hk
  have hb := hsc_b hS
  have e0 : fX2_off N [.ref 7, .int (nI n), .int (nI d), .int 1] I = some (some (Value.int (-1)), I) := by rw [of_cg1 hg hn hd, h]; rfl
  have e8 := nI_8lt hd
  clear hg hn hd h hS hb k2 k3 k4 k5
  simp only [BX0_hottestAbout_5, r_iload, r_aload, r_istore, r_astore, r_iinc, r_const, r_dupi, r_dupr, r_dup2, r_goto, r_iadd, r_isub, r_imul, r_iand, r_ixor, r_iushr, r_idiv, r_irem, r_ifeq, r_icmpeq, r_ifne, r_icmpne, r_iflt, r_icmplt, r_ifge, r_icmpge, r_ifgt, r_icmpgt, r_ifle, r_icmple, r_tsw, r_getI, r_getR, r_putI, r_putZ, r_iald, r_iast, r_aald, r_gets, r_copy, r_iret, r_zret, r_vret, r_mmax, r_mmin, r_callV, r_callS, r_fn, hf_pop, List.getElem?_cons_zero, List.getElem?_cons_succ, List.set_cons_zero, List.set_cons_succ, List.replicate_succ, List.replicate_zero, List.cons_append, List.nil_append, List.append_nil, List.length_cons, List.length_nil, List.take_succ_cons, List.take_zero, List.drop_succ_cons, List.drop_zero, List.reverse_cons, List.reverse_nil, List.map_cons, List.map_nil, List.sum_cons, List.sum_nil, List.all_cons, List.all_nil, Option.toList_some, Option.toList_none, Value.category, Nat.reduceAdd, Nat.reduceSub, Nat.reduceLeDiff, Nat.reduceMul, Nat.reduceLT, Nat.reduceEqDiff, beq_self_eq_true, Bool.and_self, Bool.and_true, and_self, and_true, true_and, ite_true, ite_false, if_true, if_false, reduceIte, true_or, or_true, Nat.zero_add, Nat.le_refl, Nat.zero_le, not_false_eq_true, eq_self, true_implies, Int32.reduceLT, Int32.reduceLE, Int32.reduceGT, k1, lk_7, h4, e0, m1_lt, e8, nI_p1]
set_option maxRecDepth 100000 in
theorem ho_1 {N f r c S k n d m : Nat} {b : Int32} {I : hf_M} {u w : Value} (hk : hcw k) (hS : hsc S) (hg : hgc r c I) (hn : n < r * c) (h4 : I k 4 = nI n) (hd : d < 8) (h : hp_of r c n d 1 = some m) (hs : (I (S + 1) m = 2) = False) : BX0_hottestAbout_5 N (f + 1) [.ref k, .ref S, .ref 7, .int b, .int (nI d), u, w] [] I = BX0_hottestAbout_5 N f [.ref k, .ref S, .ref 7, .int b, .int (nI (d + 1)), .int (nI m), w] [] I := by
  obtain ⟨k1, k2, k3, k4, k5, k6⟩ := hk
  have hb := hsc_b hS
  have hm := hp_of_lt h
  have h256 := hg.2.2.2.1
  simp (disch := omega) only [BX0_hottestAbout_5, r_iload, r_aload, r_istore, r_astore, r_iinc, r_const, r_dupi, r_dupr, r_dup2, r_goto, r_iadd, r_isub, r_imul, r_iand, r_ixor, r_iushr, r_idiv, r_irem, r_ifeq, r_icmpeq, r_ifne, r_icmpne, r_iflt, r_icmplt, r_ifge, r_icmpge, r_ifgt, r_icmpgt, r_ifle, r_icmple, r_tsw, r_getI, r_getR, r_putI, r_putZ, r_iald, r_iast, r_aald, r_gets, r_copy, r_iret, r_zret, r_vret, r_mmax, r_mmin, r_callV, r_callS, r_fn, hf_pop, List.getElem?_cons_zero, List.getElem?_cons_succ, List.set_cons_zero, List.set_cons_succ, List.replicate_succ, List.replicate_zero, List.cons_append, List.nil_append, List.append_nil, List.length_cons, List.length_nil, List.take_succ_cons, List.take_zero, List.drop_succ_cons, List.drop_zero, List.reverse_cons, List.reverse_nil, List.map_cons, List.map_nil, List.sum_cons, List.sum_nil, List.all_cons, List.all_nil, Option.toList_some, Option.toList_none, Value.category, Nat.reduceAdd, Nat.reduceSub, Nat.reduceLeDiff, Nat.reduceMul, Nat.reduceLT, Nat.reduceEqDiff, beq_self_eq_true, Bool.and_self, Bool.and_true, and_self, and_true, true_and, ite_true, ite_false, if_true, if_false, reduceIte, true_or, or_true, Nat.zero_add, Nat.le_refl, Nat.zero_le, not_false_eq_true, eq_self, true_implies, Int32.reduceLT, Int32.reduceLE, Int32.reduceGT, hf_rd6, hw6, iq_m6_m5, iq_m6_m4, iq_m6_m3, iq_m6_m2, iq_m6_m1, iq_m6_0, iq_m6_1, iq_m6_2, iq_m6_3, iq_m6_4, iq_m6_5, iq_m5_m6, iq_m5_m4, iq_m5_m3, iq_m5_m2, iq_m5_m1, iq_m5_0, iq_m5_1, iq_m5_2, iq_m5_3, iq_m5_4, iq_m5_5, iq_m4_m6, iq_m4_m5, iq_m4_m3, iq_m4_m2, iq_m4_m1, iq_m4_0, iq_m4_1, iq_m4_2, iq_m4_3, iq_m4_4, iq_m4_5, iq_m3_m6, iq_m3_m5, iq_m3_m4, iq_m3_m2, iq_m3_m1, iq_m3_0, iq_m3_1, iq_m3_2, iq_m3_3, iq_m3_4, iq_m3_5, iq_m2_m6, iq_m2_m5, iq_m2_m4, iq_m2_m3, iq_m2_m1, iq_m2_0, iq_m2_1, iq_m2_2, iq_m2_3, iq_m2_4, iq_m2_5, iq_m1_m6, iq_m1_m5, iq_m1_m4, iq_m1_m3, iq_m1_m2, iq_m1_0, iq_m1_1, iq_m1_2, iq_m1_3, iq_m1_4, iq_m1_5, iq_0_m6, iq_0_m5, iq_0_m4, iq_0_m3, iq_0_m2, iq_0_m1, iq_0_1, iq_0_2, iq_0_3, iq_0_4, iq_0_5, iq_1_m6, iq_1_m5, iq_1_m4, iq_1_m3, iq_1_m2, iq_1_m1, iq_1_0, iq_1_2, iq_1_3, iq_1_4, iq_1_5, iq_2_m6, iq_2_m5, iq_2_m4, iq_2_m3, iq_2_m2, iq_2_m1, iq_2_0, iq_2_1, iq_2_3, iq_2_4, iq_2_5, iq_3_m6, iq_3_m5, iq_3_m4, iq_3_m3, iq_3_m2, iq_3_m1, iq_3_0, iq_3_1, iq_3_2, iq_3_4, iq_3_5, iq_4_m6, iq_4_m5, iq_4_m4, iq_4_m3, iq_4_m2, iq_4_m1, iq_4_0, iq_4_1, iq_4_2, iq_4_3, iq_4_5, iq_5_m6, iq_5_m5, iq_5_m4, iq_5_m3, iq_5_m2, iq_5_m1, iq_5_0, iq_5_1, iq_5_2, iq_5_3, iq_5_4, k1, lk_7, ls_k hS, ls_r0 hS, ls_a1 hS, h4, of_cg1 hg hn hd, h, ov_s, nI_nlt0, nI_8lt, nI_p1, hf_inI, nI_clamp, hs]
set_option maxRecDepth 100000 in
theorem ho_2 {N f r c S k n d m : Nat} {I : hf_M} {u w : Value} (hk : hcw k) (hS : hsc S) (hg : hgc r c I) (hn : n < r * c) (h4 : I k 4 = nI n) (hd : d < 8) (h : hp_of r c n d 1 = some m) (hs : I (S + 1) m = 2) : BX0_hottestAbout_5 N (f + 1) [.ref k, .ref S, .ref 7, .int (-1), .int (nI d), u, w] [] I = BX0_hottestAbout_5 N f [.ref k, .ref S, .ref 7, .int (nI m), .int (nI (d + 1)), .int (nI m), .int 1] [] I := by
  obtain ⟨k1, k2, k3, k4, k5, k6⟩ := hk
  have hb := hsc_b hS
  have hm := hp_of_lt h
  have h256 := hg.2.2.2.1
  simp (disch := omega) only [BX0_hottestAbout_5, BX0_hottestAbout_83, BX0_hottestAbout_87, BX0_hottestAbout_88, r_iload, r_aload, r_istore, r_astore, r_iinc, r_const, r_dupi, r_dupr, r_dup2, r_goto, r_iadd, r_isub, r_imul, r_iand, r_ixor, r_iushr, r_idiv, r_irem, r_ifeq, r_icmpeq, r_ifne, r_icmpne, r_iflt, r_icmplt, r_ifge, r_icmpge, r_ifgt, r_icmpgt, r_ifle, r_icmple, r_tsw, r_getI, r_getR, r_putI, r_putZ, r_iald, r_iast, r_aald, r_gets, r_copy, r_iret, r_zret, r_vret, r_mmax, r_mmin, r_callV, r_callS, r_fn, hf_pop, List.getElem?_cons_zero, List.getElem?_cons_succ, List.set_cons_zero, List.set_cons_succ, List.replicate_succ, List.replicate_zero, List.cons_append, List.nil_append, List.append_nil, List.length_cons, List.length_nil, List.take_succ_cons, List.take_zero, List.drop_succ_cons, List.drop_zero, List.reverse_cons, List.reverse_nil, List.map_cons, List.map_nil, List.sum_cons, List.sum_nil, List.all_cons, List.all_nil, Option.toList_some, Option.toList_none, Value.category, Nat.reduceAdd, Nat.reduceSub, Nat.reduceLeDiff, Nat.reduceMul, Nat.reduceLT, Nat.reduceEqDiff, beq_self_eq_true, Bool.and_self, Bool.and_true, and_self, and_true, true_and, ite_true, ite_false, if_true, if_false, reduceIte, true_or, or_true, Nat.zero_add, Nat.le_refl, Nat.zero_le, not_false_eq_true, eq_self, true_implies, Int32.reduceLT, Int32.reduceLE, Int32.reduceGT, hf_rd6, hw6, iq_m6_m5, iq_m6_m4, iq_m6_m3, iq_m6_m2, iq_m6_m1, iq_m6_0, iq_m6_1, iq_m6_2, iq_m6_3, iq_m6_4, iq_m6_5, iq_m5_m6, iq_m5_m4, iq_m5_m3, iq_m5_m2, iq_m5_m1, iq_m5_0, iq_m5_1, iq_m5_2, iq_m5_3, iq_m5_4, iq_m5_5, iq_m4_m6, iq_m4_m5, iq_m4_m3, iq_m4_m2, iq_m4_m1, iq_m4_0, iq_m4_1, iq_m4_2, iq_m4_3, iq_m4_4, iq_m4_5, iq_m3_m6, iq_m3_m5, iq_m3_m4, iq_m3_m2, iq_m3_m1, iq_m3_0, iq_m3_1, iq_m3_2, iq_m3_3, iq_m3_4, iq_m3_5, iq_m2_m6, iq_m2_m5, iq_m2_m4, iq_m2_m3, iq_m2_m1, iq_m2_0, iq_m2_1, iq_m2_2, iq_m2_3, iq_m2_4, iq_m2_5, iq_m1_m6, iq_m1_m5, iq_m1_m4, iq_m1_m3, iq_m1_m2, iq_m1_0, iq_m1_1, iq_m1_2, iq_m1_3, iq_m1_4, iq_m1_5, iq_0_m6, iq_0_m5, iq_0_m4, iq_0_m3, iq_0_m2, iq_0_m1, iq_0_1, iq_0_2, iq_0_3, iq_0_4, iq_0_5, iq_1_m6, iq_1_m5, iq_1_m4, iq_1_m3, iq_1_m2, iq_1_m1, iq_1_0, iq_1_2, iq_1_3, iq_1_4, iq_1_5, iq_2_m6, iq_2_m5, iq_2_m4, iq_2_m3, iq_2_m2, iq_2_m1, iq_2_0, iq_2_1, iq_2_3, iq_2_4, iq_2_5, iq_3_m6, iq_3_m5, iq_3_m4, iq_3_m3, iq_3_m2, iq_3_m1, iq_3_0, iq_3_1, iq_3_2, iq_3_4, iq_3_5, iq_4_m6, iq_4_m5, iq_4_m4, iq_4_m3, iq_4_m2, iq_4_m1, iq_4_0, iq_4_1, iq_4_2, iq_4_3, iq_4_5, iq_5_m6, iq_5_m5, iq_5_m4, iq_5_m3, iq_5_m2, iq_5_m1, iq_5_0, iq_5_1, iq_5_2, iq_5_3, iq_5_4, k1, lk_7, ls_k hS, ls_r0 hS, ls_a1 hS, h4, of_cg1 hg hn hd, h, ov_s, nI_nlt0, m1_lt, nI_8lt, nI_p1, hf_inI, nI_clamp, hs]
set_option maxRecDepth 100000 in
theorem ho_3 {N f r c S k n d m b : Nat} {I : hf_M} {u w : Value} (hk : hcw k) (hS : hsc S) (hg : hgc r c I) (hn : n < r * c) (h4 : I k 4 = nI n) (hd : d < 8) (h : hp_of r c n d 1 = some m) (hs : I (S + 1) m = 2) (hbl : b < r * c) (h1 : (I (S + 4) b < I (S + 4) m) = True) : BX0_hottestAbout_5 N (f + 1) [.ref k, .ref S, .ref 7, .int (nI b), .int (nI d), u, w] [] I = BX0_hottestAbout_5 N f [.ref k, .ref S, .ref 7, .int (nI m), .int (nI (d + 1)), .int (nI m), .int 1] [] I := by
  obtain ⟨k1, k2, k3, k4, k5, k6⟩ := hk
  have hb := hsc_b hS
  have hm := hp_of_lt h
  have h256 := hg.2.2.2.1
  simp (disch := omega) only [BX0_hottestAbout_5, BX0_hottestAbout_83, BX0_hottestAbout_87, BX0_hottestAbout_88, r_iload, r_aload, r_istore, r_astore, r_iinc, r_const, r_dupi, r_dupr, r_dup2, r_goto, r_iadd, r_isub, r_imul, r_iand, r_ixor, r_iushr, r_idiv, r_irem, r_ifeq, r_icmpeq, r_ifne, r_icmpne, r_iflt, r_icmplt, r_ifge, r_icmpge, r_ifgt, r_icmpgt, r_ifle, r_icmple, r_tsw, r_getI, r_getR, r_putI, r_putZ, r_iald, r_iast, r_aald, r_gets, r_copy, r_iret, r_zret, r_vret, r_mmax, r_mmin, r_callV, r_callS, r_fn, hf_pop, List.getElem?_cons_zero, List.getElem?_cons_succ, List.set_cons_zero, List.set_cons_succ, List.replicate_succ, List.replicate_zero, List.cons_append, List.nil_append, List.append_nil, List.length_cons, List.length_nil, List.take_succ_cons, List.take_zero, List.drop_succ_cons, List.drop_zero, List.reverse_cons, List.reverse_nil, List.map_cons, List.map_nil, List.sum_cons, List.sum_nil, List.all_cons, List.all_nil, Option.toList_some, Option.toList_none, Value.category, Nat.reduceAdd, Nat.reduceSub, Nat.reduceLeDiff, Nat.reduceMul, Nat.reduceLT, Nat.reduceEqDiff, beq_self_eq_true, Bool.and_self, Bool.and_true, and_self, and_true, true_and, ite_true, ite_false, if_true, if_false, reduceIte, true_or, or_true, Nat.zero_add, Nat.le_refl, Nat.zero_le, not_false_eq_true, eq_self, true_implies, Int32.reduceLT, Int32.reduceLE, Int32.reduceGT, hf_rd6, hw6, iq_m6_m5, iq_m6_m4, iq_m6_m3, iq_m6_m2, iq_m6_m1, iq_m6_0, iq_m6_1, iq_m6_2, iq_m6_3, iq_m6_4, iq_m6_5, iq_m5_m6, iq_m5_m4, iq_m5_m3, iq_m5_m2, iq_m5_m1, iq_m5_0, iq_m5_1, iq_m5_2, iq_m5_3, iq_m5_4, iq_m5_5, iq_m4_m6, iq_m4_m5, iq_m4_m3, iq_m4_m2, iq_m4_m1, iq_m4_0, iq_m4_1, iq_m4_2, iq_m4_3, iq_m4_4, iq_m4_5, iq_m3_m6, iq_m3_m5, iq_m3_m4, iq_m3_m2, iq_m3_m1, iq_m3_0, iq_m3_1, iq_m3_2, iq_m3_3, iq_m3_4, iq_m3_5, iq_m2_m6, iq_m2_m5, iq_m2_m4, iq_m2_m3, iq_m2_m1, iq_m2_0, iq_m2_1, iq_m2_2, iq_m2_3, iq_m2_4, iq_m2_5, iq_m1_m6, iq_m1_m5, iq_m1_m4, iq_m1_m3, iq_m1_m2, iq_m1_0, iq_m1_1, iq_m1_2, iq_m1_3, iq_m1_4, iq_m1_5, iq_0_m6, iq_0_m5, iq_0_m4, iq_0_m3, iq_0_m2, iq_0_m1, iq_0_1, iq_0_2, iq_0_3, iq_0_4, iq_0_5, iq_1_m6, iq_1_m5, iq_1_m4, iq_1_m3, iq_1_m2, iq_1_m1, iq_1_0, iq_1_2, iq_1_3, iq_1_4, iq_1_5, iq_2_m6, iq_2_m5, iq_2_m4, iq_2_m3, iq_2_m2, iq_2_m1, iq_2_0, iq_2_1, iq_2_3, iq_2_4, iq_2_5, iq_3_m6, iq_3_m5, iq_3_m4, iq_3_m3, iq_3_m2, iq_3_m1, iq_3_0, iq_3_1, iq_3_2, iq_3_4, iq_3_5, iq_4_m6, iq_4_m5, iq_4_m4, iq_4_m3, iq_4_m2, iq_4_m1, iq_4_0, iq_4_1, iq_4_2, iq_4_3, iq_4_5, iq_5_m6, iq_5_m5, iq_5_m4, iq_5_m3, iq_5_m2, iq_5_m1, iq_5_0, iq_5_1, iq_5_2, iq_5_3, iq_5_4, k1, lk_7, ls_k hS, ls_r0 hS, ls_a1 hS, ls_r3 hS, ls_a4 hS, h4, of_cg1 hg hn hd, h, ov_s, nI_nlt0, m1_lt, nI_8lt, nI_p1, hf_inI, nI_clamp, hs, h1]
set_option maxRecDepth 100000 in
theorem ho_4 {N f r c S k n d m b : Nat} {I : hf_M} {u w : Value} (hk : hcw k) (hS : hsc S) (hg : hgc r c I) (hn : n < r * c) (h4 : I k 4 = nI n) (hd : d < 8) (h : hp_of r c n d 1 = some m) (hs : I (S + 1) m = 2) (hbl : b < r * c) (h1 : (I (S + 4) b < I (S + 4) m) = False) (h2 : (I (S + 4) m = I (S + 4) b) = False) : BX0_hottestAbout_5 N (f + 1) [.ref k, .ref S, .ref 7, .int (nI b), .int (nI d), u, w] [] I = BX0_hottestAbout_5 N f [.ref k, .ref S, .ref 7, .int (nI b), .int (nI (d + 1)), .int (nI m), .int 0] [] I := by
  obtain ⟨k1, k2, k3, k4, k5, k6⟩ := hk
  have hb := hsc_b hS
  have hm := hp_of_lt h
  have h256 := hg.2.2.2.1
  simp (disch := omega) only [BX0_hottestAbout_5, BX0_hottestAbout_83, BX0_hottestAbout_87, BX0_hottestAbout_88, r_iload, r_aload, r_istore, r_astore, r_iinc, r_const, r_dupi, r_dupr, r_dup2, r_goto, r_iadd, r_isub, r_imul, r_iand, r_ixor, r_iushr, r_idiv, r_irem, r_ifeq, r_icmpeq, r_ifne, r_icmpne, r_iflt, r_icmplt, r_ifge, r_icmpge, r_ifgt, r_icmpgt, r_ifle, r_icmple, r_tsw, r_getI, r_getR, r_putI, r_putZ, r_iald, r_iast, r_aald, r_gets, r_copy, r_iret, r_zret, r_vret, r_mmax, r_mmin, r_callV, r_callS, r_fn, hf_pop, List.getElem?_cons_zero, List.getElem?_cons_succ, List.set_cons_zero, List.set_cons_succ, List.replicate_succ, List.replicate_zero, List.cons_append, List.nil_append, List.append_nil, List.length_cons, List.length_nil, List.take_succ_cons, List.take_zero, List.drop_succ_cons, List.drop_zero, List.reverse_cons, List.reverse_nil, List.map_cons, List.map_nil, List.sum_cons, List.sum_nil, List.all_cons, List.all_nil, Option.toList_some, Option.toList_none, Value.category, Nat.reduceAdd, Nat.reduceSub, Nat.reduceLeDiff, Nat.reduceMul, Nat.reduceLT, Nat.reduceEqDiff, beq_self_eq_true, Bool.and_self, Bool.and_true, and_self, and_true, true_and, ite_true, ite_false, if_true, if_false, reduceIte, true_or, or_true, Nat.zero_add, Nat.le_refl, Nat.zero_le, not_false_eq_true, eq_self, true_implies, Int32.reduceLT, Int32.reduceLE, Int32.reduceGT, hf_rd6, hw6, iq_m6_m5, iq_m6_m4, iq_m6_m3, iq_m6_m2, iq_m6_m1, iq_m6_0, iq_m6_1, iq_m6_2, iq_m6_3, iq_m6_4, iq_m6_5, iq_m5_m6, iq_m5_m4, iq_m5_m3, iq_m5_m2, iq_m5_m1, iq_m5_0, iq_m5_1, iq_m5_2, iq_m5_3, iq_m5_4, iq_m5_5, iq_m4_m6, iq_m4_m5, iq_m4_m3, iq_m4_m2, iq_m4_m1, iq_m4_0, iq_m4_1, iq_m4_2, iq_m4_3, iq_m4_4, iq_m4_5, iq_m3_m6, iq_m3_m5, iq_m3_m4, iq_m3_m2, iq_m3_m1, iq_m3_0, iq_m3_1, iq_m3_2, iq_m3_3, iq_m3_4, iq_m3_5, iq_m2_m6, iq_m2_m5, iq_m2_m4, iq_m2_m3, iq_m2_m1, iq_m2_0, iq_m2_1, iq_m2_2, iq_m2_3, iq_m2_4, iq_m2_5, iq_m1_m6, iq_m1_m5, iq_m1_m4, iq_m1_m3, iq_m1_m2, iq_m1_0, iq_m1_1, iq_m1_2, iq_m1_3, iq_m1_4, iq_m1_5, iq_0_m6, iq_0_m5, iq_0_m4, iq_0_m3, iq_0_m2, iq_0_m1, iq_0_1, iq_0_2, iq_0_3, iq_0_4, iq_0_5, iq_1_m6, iq_1_m5, iq_1_m4, iq_1_m3, iq_1_m2, iq_1_m1, iq_1_0, iq_1_2, iq_1_3, iq_1_4, iq_1_5, iq_2_m6, iq_2_m5, iq_2_m4, iq_2_m3, iq_2_m2, iq_2_m1, iq_2_0, iq_2_1, iq_2_3, iq_2_4, iq_2_5, iq_3_m6, iq_3_m5, iq_3_m4, iq_3_m3, iq_3_m2, iq_3_m1, iq_3_0, iq_3_1, iq_3_2, iq_3_4, iq_3_5, iq_4_m6, iq_4_m5, iq_4_m4, iq_4_m3, iq_4_m2, iq_4_m1, iq_4_0, iq_4_1, iq_4_2, iq_4_3, iq_4_5, iq_5_m6, iq_5_m5, iq_5_m4, iq_5_m3, iq_5_m2, iq_5_m1, iq_5_0, iq_5_1, iq_5_2, iq_5_3, iq_5_4, k1, lk_7, ls_k hS, ls_r0 hS, ls_a1 hS, ls_r3 hS, ls_a4 hS, h4, of_cg1 hg hn hd, h, ov_s, nI_nlt0, m1_lt, nI_8lt, nI_p1, hf_inI, nI_clamp, hs, h1, h2]
set_option maxRecDepth 100000 in
theorem ho_5 {N f r c S k n d m b : Nat} {I : hf_M} {u w : Value} (hk : hcw k) (hS : hsc S) (hg : hgc r c I) (hn : n < r * c) (h4 : I k 4 = nI n) (hd : d < 8) (h : hp_of r c n d 1 = some m) (hs : I (S + 1) m = 2) (hbl : b < r * c) (h2 : I (S + 4) m = I (S + 4) b) (h3 : b ≤ m) : BX0_hottestAbout_5 N (f + 1) [.ref k, .ref S, .ref 7, .int (nI b), .int (nI d), u, w] [] I = BX0_hottestAbout_5 N f [.ref k, .ref S, .ref 7, .int (nI b), .int (nI (d + 1)), .int (nI m), .int 0] [] I := by
  obtain ⟨k1, k2, k3, k4, k5, k6⟩ := hk
  have hb := hsc_b hS
  have hm := hp_of_lt h
  have h256 := hg.2.2.2.1
  have h1 : (I (S + 4) b < I (S + 4) b) = False := eq_false Int32.lt_irrefl
  simp (disch := omega) only [BX0_hottestAbout_5, BX0_hottestAbout_83, BX0_hottestAbout_87, BX0_hottestAbout_88, r_iload, r_aload, r_istore, r_astore, r_iinc, r_const, r_dupi, r_dupr, r_dup2, r_goto, r_iadd, r_isub, r_imul, r_iand, r_ixor, r_iushr, r_idiv, r_irem, r_ifeq, r_icmpeq, r_ifne, r_icmpne, r_iflt, r_icmplt, r_ifge, r_icmpge, r_ifgt, r_icmpgt, r_ifle, r_icmple, r_tsw, r_getI, r_getR, r_putI, r_putZ, r_iald, r_iast, r_aald, r_gets, r_copy, r_iret, r_zret, r_vret, r_mmax, r_mmin, r_callV, r_callS, r_fn, hf_pop, List.getElem?_cons_zero, List.getElem?_cons_succ, List.set_cons_zero, List.set_cons_succ, List.replicate_succ, List.replicate_zero, List.cons_append, List.nil_append, List.append_nil, List.length_cons, List.length_nil, List.take_succ_cons, List.take_zero, List.drop_succ_cons, List.drop_zero, List.reverse_cons, List.reverse_nil, List.map_cons, List.map_nil, List.sum_cons, List.sum_nil, List.all_cons, List.all_nil, Option.toList_some, Option.toList_none, Value.category, Nat.reduceAdd, Nat.reduceSub, Nat.reduceLeDiff, Nat.reduceMul, Nat.reduceLT, Nat.reduceEqDiff, beq_self_eq_true, Bool.and_self, Bool.and_true, and_self, and_true, true_and, ite_true, ite_false, if_true, if_false, reduceIte, true_or, or_true, Nat.zero_add, Nat.le_refl, Nat.zero_le, not_false_eq_true, eq_self, true_implies, Int32.reduceLT, Int32.reduceLE, Int32.reduceGT, hf_rd6, hw6, iq_m6_m5, iq_m6_m4, iq_m6_m3, iq_m6_m2, iq_m6_m1, iq_m6_0, iq_m6_1, iq_m6_2, iq_m6_3, iq_m6_4, iq_m6_5, iq_m5_m6, iq_m5_m4, iq_m5_m3, iq_m5_m2, iq_m5_m1, iq_m5_0, iq_m5_1, iq_m5_2, iq_m5_3, iq_m5_4, iq_m5_5, iq_m4_m6, iq_m4_m5, iq_m4_m3, iq_m4_m2, iq_m4_m1, iq_m4_0, iq_m4_1, iq_m4_2, iq_m4_3, iq_m4_4, iq_m4_5, iq_m3_m6, iq_m3_m5, iq_m3_m4, iq_m3_m2, iq_m3_m1, iq_m3_0, iq_m3_1, iq_m3_2, iq_m3_3, iq_m3_4, iq_m3_5, iq_m2_m6, iq_m2_m5, iq_m2_m4, iq_m2_m3, iq_m2_m1, iq_m2_0, iq_m2_1, iq_m2_2, iq_m2_3, iq_m2_4, iq_m2_5, iq_m1_m6, iq_m1_m5, iq_m1_m4, iq_m1_m3, iq_m1_m2, iq_m1_0, iq_m1_1, iq_m1_2, iq_m1_3, iq_m1_4, iq_m1_5, iq_0_m6, iq_0_m5, iq_0_m4, iq_0_m3, iq_0_m2, iq_0_m1, iq_0_1, iq_0_2, iq_0_3, iq_0_4, iq_0_5, iq_1_m6, iq_1_m5, iq_1_m4, iq_1_m3, iq_1_m2, iq_1_m1, iq_1_0, iq_1_2, iq_1_3, iq_1_4, iq_1_5, iq_2_m6, iq_2_m5, iq_2_m4, iq_2_m3, iq_2_m2, iq_2_m1, iq_2_0, iq_2_1, iq_2_3, iq_2_4, iq_2_5, iq_3_m6, iq_3_m5, iq_3_m4, iq_3_m3, iq_3_m2, iq_3_m1, iq_3_0, iq_3_1, iq_3_2, iq_3_4, iq_3_5, iq_4_m6, iq_4_m5, iq_4_m4, iq_4_m3, iq_4_m2, iq_4_m1, iq_4_0, iq_4_1, iq_4_2, iq_4_3, iq_4_5, iq_5_m6, iq_5_m5, iq_5_m4, iq_5_m3, iq_5_m2, iq_5_m1, iq_5_0, iq_5_1, iq_5_2, iq_5_3, iq_5_4, k1, lk_7, ls_k hS, ls_r0 hS, ls_a1 hS, ls_r3 hS, ls_a4 hS, h4, of_cg1 hg hn hd, h, ov_s, nI_nlt0, m1_lt, nI_8lt, nI_p1, hf_inI, nI_clamp, hs, h1, h2, hx_le]
set_option maxRecDepth 100000 in
theorem ho_6 {N f r c S k n d m b : Nat} {I : hf_M} {u w : Value} (hk : hcw k) (hS : hsc S) (hg : hgc r c I) (hn : n < r * c) (h4 : I k 4 = nI n) (hd : d < 8) (h : hp_of r c n d 1 = some m) (hs : I (S + 1) m = 2) (hbl : b < r * c) (h2 : I (S + 4) m = I (S + 4) b) (h3 : m < b) : BX0_hottestAbout_5 N (f + 1) [.ref k, .ref S, .ref 7, .int (nI b), .int (nI d), u, w] [] I = BX0_hottestAbout_5 N f [.ref k, .ref S, .ref 7, .int (nI m), .int (nI (d + 1)), .int (nI m), .int 1] [] I := by
  obtain ⟨k1, k2, k3, k4, k5, k6⟩ := hk
  have hb := hsc_b hS
  have hm := hp_of_lt h
  have h256 := hg.2.2.2.1
  have h1 : (I (S + 4) b < I (S + 4) b) = False := eq_false Int32.lt_irrefl
  simp (disch := omega) only [BX0_hottestAbout_5, BX0_hottestAbout_83, BX0_hottestAbout_87, BX0_hottestAbout_88, r_iload, r_aload, r_istore, r_astore, r_iinc, r_const, r_dupi, r_dupr, r_dup2, r_goto, r_iadd, r_isub, r_imul, r_iand, r_ixor, r_iushr, r_idiv, r_irem, r_ifeq, r_icmpeq, r_ifne, r_icmpne, r_iflt, r_icmplt, r_ifge, r_icmpge, r_ifgt, r_icmpgt, r_ifle, r_icmple, r_tsw, r_getI, r_getR, r_putI, r_putZ, r_iald, r_iast, r_aald, r_gets, r_copy, r_iret, r_zret, r_vret, r_mmax, r_mmin, r_callV, r_callS, r_fn, hf_pop, List.getElem?_cons_zero, List.getElem?_cons_succ, List.set_cons_zero, List.set_cons_succ, List.replicate_succ, List.replicate_zero, List.cons_append, List.nil_append, List.append_nil, List.length_cons, List.length_nil, List.take_succ_cons, List.take_zero, List.drop_succ_cons, List.drop_zero, List.reverse_cons, List.reverse_nil, List.map_cons, List.map_nil, List.sum_cons, List.sum_nil, List.all_cons, List.all_nil, Option.toList_some, Option.toList_none, Value.category, Nat.reduceAdd, Nat.reduceSub, Nat.reduceLeDiff, Nat.reduceMul, Nat.reduceLT, Nat.reduceEqDiff, beq_self_eq_true, Bool.and_self, Bool.and_true, and_self, and_true, true_and, ite_true, ite_false, if_true, if_false, reduceIte, true_or, or_true, Nat.zero_add, Nat.le_refl, Nat.zero_le, not_false_eq_true, eq_self, true_implies, Int32.reduceLT, Int32.reduceLE, Int32.reduceGT, hf_rd6, hw6, iq_m6_m5, iq_m6_m4, iq_m6_m3, iq_m6_m2, iq_m6_m1, iq_m6_0, iq_m6_1, iq_m6_2, iq_m6_3, iq_m6_4, iq_m6_5, iq_m5_m6, iq_m5_m4, iq_m5_m3, iq_m5_m2, iq_m5_m1, iq_m5_0, iq_m5_1, iq_m5_2, iq_m5_3, iq_m5_4, iq_m5_5, iq_m4_m6, iq_m4_m5, iq_m4_m3, iq_m4_m2, iq_m4_m1, iq_m4_0, iq_m4_1, iq_m4_2, iq_m4_3, iq_m4_4, iq_m4_5, iq_m3_m6, iq_m3_m5, iq_m3_m4, iq_m3_m2, iq_m3_m1, iq_m3_0, iq_m3_1, iq_m3_2, iq_m3_3, iq_m3_4, iq_m3_5, iq_m2_m6, iq_m2_m5, iq_m2_m4, iq_m2_m3, iq_m2_m1, iq_m2_0, iq_m2_1, iq_m2_2, iq_m2_3, iq_m2_4, iq_m2_5, iq_m1_m6, iq_m1_m5, iq_m1_m4, iq_m1_m3, iq_m1_m2, iq_m1_0, iq_m1_1, iq_m1_2, iq_m1_3, iq_m1_4, iq_m1_5, iq_0_m6, iq_0_m5, iq_0_m4, iq_0_m3, iq_0_m2, iq_0_m1, iq_0_1, iq_0_2, iq_0_3, iq_0_4, iq_0_5, iq_1_m6, iq_1_m5, iq_1_m4, iq_1_m3, iq_1_m2, iq_1_m1, iq_1_0, iq_1_2, iq_1_3, iq_1_4, iq_1_5, iq_2_m6, iq_2_m5, iq_2_m4, iq_2_m3, iq_2_m2, iq_2_m1, iq_2_0, iq_2_1, iq_2_3, iq_2_4, iq_2_5, iq_3_m6, iq_3_m5, iq_3_m4, iq_3_m3, iq_3_m2, iq_3_m1, iq_3_0, iq_3_1, iq_3_2, iq_3_4, iq_3_5, iq_4_m6, iq_4_m5, iq_4_m4, iq_4_m3, iq_4_m2, iq_4_m1, iq_4_0, iq_4_1, iq_4_2, iq_4_3, iq_4_5, iq_5_m6, iq_5_m5, iq_5_m4, iq_5_m3, iq_5_m2, iq_5_m1, iq_5_0, iq_5_1, iq_5_2, iq_5_3, iq_5_4, k1, lk_7, ls_k hS, ls_r0 hS, ls_a1 hS, ls_r3 hS, ls_a4 hS, h4, of_cg1 hg hn hd, h, ov_s, nI_nlt0, m1_lt, nI_8lt, nI_p1, hf_inI, nI_clamp, hs, h1, h2, hx_nle]
theorem ho_l {N r c S k n : Nat} {I : hf_M} (hk : hcw k) (hS : hsc S) (hg : hgc r c I) (hn : n < r * c) (h4 : I k 4 = nI n) : ∀ (j d f : Nat) (b : Option Nat) (u w : Value), d + j = 8 → j < f → (∀ x, b = some x → x < r * c) → hbest (hp_C I S r c n d) (hp_h I S) b → ∃ b', BX0_hottestAbout_5 N f [.ref k, .ref S, .ref 7, .int (hp_ov b (-1)), .int (nI d), u, w] [] I = some (some (Value.int (hp_ov b' (-1))), I) ∧ (∀ x, b' = some x → x < r * c) ∧ hbest (hp_C I S r c n 8) (hp_h I S) b' := by
  intro j
  induction j with
  | zero =>
    intro d f b u w hd hf hb h
    obtain ⟨f, rfl⟩ : ∃ k, f = k + 1 := ⟨f - 1, by omega⟩
    have : d = 8 := by omega
    subst this
    exact ⟨b, rfl, hb, h⟩
  | succ j ih =>
    intro d f b u w hd hf hb h
    obtain ⟨f, rfl⟩ : ∃ k, f = k + 1 := ⟨f - 1, by omega⟩
    have hd8 : d < 8 := by omega
    cases e : hp_of r c n d 1 with
    | none =>
      have hC : ∀ m, hp_C I S r c n (d + 1) m ↔ hp_C I S r c n d m := fun m => ⟨fun ⟨d', q1, q2, q3⟩ => ⟨d', by
        have : d' ≠ d := fun z => by rw [z, e] at q2; cases q2
        omega, q2, q3⟩, fun ⟨d', q1, q2, q3⟩ => ⟨d', by omega, q2, q3⟩⟩
      rw [ho_0 hk hS hg hn h4 hd8 e]
      exact ih (d + 1) f b _ _ (by omega) (by omega) hb (hb_skip hC h)
    | some m =>
      have hml := hp_of_lt e
      by_cases hs : I (S + 1) m = 2
      · have hC : ∀ x, hp_C I S r c n (d + 1) x ↔ hp_C I S r c n d x ∨ x = m := fun x => ⟨fun ⟨d', q1, q2, q3⟩ => by
          by_cases z : d' = d
          · rw [z, e] at q2; cases q2; exact Or.inr rfl
          · exact Or.inl ⟨d', by omega, q2, q3⟩, fun q => q.elim (fun ⟨d', q1, q2, q3⟩ => ⟨d', by omega, q2, q3⟩) (fun q => by subst q; exact ⟨d, by omega, e, hs⟩)⟩
        have hbm : ∀ x, some m = some x → x < r * c := fun x z => by cases z; exact hml
        cases b with
        | none =>
          rw [show hp_ov none (-1) = -1 from rfl, ho_2 hk hS hg hn h4 hd8 e hs]
          exact ih (d + 1) f (some m) _ _ (by omega) (by omega) hbm (hb_none hC h)
        | some b =>
          have hbl := hb b rfl
          rw [show hp_ov (some b) (-1) = nI b from rfl]
          by_cases h1 : I (S + 4) b < I (S + 4) m
          · rw [ho_3 hk hS hg hn h4 hd8 e hs hbl (eq_true h1)]
            exact ih (d + 1) f (some m) _ _ (by omega) (by omega) hbm (hb_new hC h (Or.inl (Int32.lt_iff_toInt_lt.mp h1)))
          · have h1' : hp_h I S m ≤ hp_h I S b := by
              have := Int32.not_lt.mp h1
              exact Int32.le_iff_toInt_le.mp this
            by_cases h2 : I (S + 4) m = I (S + 4) b
            · have h2' : hp_h I S m = hp_h I S b := by unfold hp_h; rw [h2]
              by_cases h3 : b ≤ m
              · rw [ho_5 hk hS hg hn h4 hd8 e hs hbl h2 h3]
                exact ih (d + 1) f (some b) _ _ (by omega) (by omega) hb (hb_old hC h (Or.inr ⟨h2', h3⟩))
              · rw [ho_6 hk hS hg hn h4 hd8 e hs hbl h2 (by omega)]
                exact ih (d + 1) f (some m) _ _ (by omega) (by omega) hbm (hb_new hC h (Or.inr ⟨h2'.symm, by omega⟩))
            · have h2' : hp_h I S m ≠ hp_h I S b := fun z => h2 (Int32.toInt_inj.mp z)
              rw [ho_4 hk hS hg hn h4 hd8 e hs hbl (eq_false h1) (eq_false h2)]
              exact ih (d + 1) f (some b) _ _ (by omega) (by omega) hb (hb_old hC h (Or.inl (by omega)))
      · have hC : ∀ x, hp_C I S r c n (d + 1) x ↔ hp_C I S r c n d x := fun x => ⟨fun ⟨d', q1, q2, q3⟩ => ⟨d', by
          have : d' ≠ d := fun z => by
            rw [z, e] at q2; cases q2; exact hs q3
          omega, q2, q3⟩, fun ⟨d', q1, q2, q3⟩ => ⟨d', by omega, q2, q3⟩⟩
        rw [ho_1 hk hS hg hn h4 hd8 e (eq_false hs)]
        exact ih (d + 1) f b _ _ (by omega) (by omega) hb (hb_skip hC h)
theorem ho_f {N r c S k n : Nat} {I : hf_M} (hN : 8 < N) (hk : hcw k) (hS : hsc S) (hg : hgc r c I) (hn : n < r * c) (h4 : I k 4 = nI n) : ∃ b', fX0_hottestAbout N [.ref k, .ref S, .ref 7] I = some (some (Value.int (hp_ov b' (-1))), I) ∧ (∀ x, b' = some x → x < r * c) ∧ hbest (hp_C I S r c n 8) (hp_h I S) b' :=
  ho_l hk hS hg hn h4 8 0 N none (.long 0) (.long 0) rfl hN (fun x z => by cases z) ⟨fun _ m ⟨d', q, _⟩ => by omega, fun m z => by cases z⟩
def hp_D (J : hf_M) (c n q m : Nat) : Prop := m < q ∧ J 215 m = 2 ∧ hp_abP c n m
def hp_g (J : hf_M) (m : Nat) : Int := (J 215 (768 + m)).toInt
