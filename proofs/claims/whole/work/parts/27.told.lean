theorem told_c0 (N : Nat) (I : hf_M) : fX7_told N [.ref 6, .int (nI 0)] I = some (some (.int (I 7 4)), I) := rfl
theorem told_m0 (N : Nat) (J : hf_M) : fX8_told N [.ref 204, .int (nI 0)] J = some (some (.int (J 204 0)), J) := rfl
theorem told_c1 (N : Nat) (I : hf_M) : fX7_told N [.ref 6, .int (nI 1)] I = some (some (.int (I 7 5)), I) := rfl
theorem told_m1 (N : Nat) (J : hf_M) : fX8_told N [.ref 204, .int (nI 1)] J = some (some (.int (J 204 1)), J) := rfl
theorem told_c2 (N : Nat) (I : hf_M) : fX7_told N [.ref 6, .int (nI 2)] I = some (some (.int (I 22 9)), I) := rfl
theorem told_m2 (N : Nat) (J : hf_M) : fX8_told N [.ref 204, .int (nI 2)] J = some (some (.int (J 215 1816)), J) := rfl
theorem told_c3 (N : Nat) (I : hf_M) : fX7_told N [.ref 6, .int (nI 3)] I = some (some (.int (I 12 2)), I) := rfl
theorem told_m3 (N : Nat) (J : hf_M) : fX8_told N [.ref 204, .int (nI 3)] J = some (some (.int (J 204 7)), J) := rfl
theorem told_c4 (N : Nat) (I : hf_M) : fX7_told N [.ref 6, .int (nI 4)] I = some (some (.int (I 22 8)), I) := rfl
theorem told_m4 (N : Nat) (J : hf_M) : fX8_told N [.ref 204, .int (nI 4)] J = some (some (.int (J 215 1817)), J) := rfl
theorem told_c5 (N : Nat) (I : hf_M) : fX7_told N [.ref 6, .int (nI 5)] I = some (some (.int (I 30 3)), I) := rfl
theorem told_m5 (N : Nat) (J : hf_M) : fX8_told N [.ref 204, .int (nI 5)] J = some (some (.int (J 215 1818)), J) := rfl
theorem told_c9 (N : Nat) (I : hf_M) : fX7_told N [.ref 6, .int (nI 9)] I = some (some (.int (I 22 10)), I) := rfl
theorem told_m9 (N : Nat) (J : hf_M) : fX8_told N [.ref 204, .int (nI 9)] J = some (some (.int (J 215 1819)), J) := rfl
theorem told_c10 (N : Nat) (I : hf_M) : fX7_told N [.ref 6, .int (nI 10)] I = some (some (.int (I 22 11)), I) := rfl
theorem told_m10 (N : Nat) (J : hf_M) : fX8_told N [.ref 204, .int (nI 10)] J = some (some (.int (J 215 1820)), J) := rfl
theorem told_c11 (N : Nat) (I : hf_M) : fX7_told N [.ref 6, .int (nI 11)] I = some (some (.int (I 22 12)), I) := rfl
theorem told_m11 (N : Nat) (J : hf_M) : fX8_told N [.ref 204, .int (nI 11)] J = some (some (.int (J 215 1821)), J) := rfl
theorem told_c12 (N : Nat) (I : hf_M) : fX7_told N [.ref 6, .int (nI 12)] I = some (some (.int (I 22 13)), I) := rfl
theorem told_m12 (N : Nat) (J : hf_M) : fX8_told N [.ref 204, .int (nI 12)] J = some (some (.int (J 215 1822)), J) := rfl
theorem told_c13 (N : Nat) (I : hf_M) : fX7_told N [.ref 6, .int (nI 13)] I = some (some (.int (I 22 14)), I) := rfl
theorem told_m13 (N : Nat) (J : hf_M) : fX8_told N [.ref 204, .int (nI 13)] J = some (some (.int (J 215 1823)), J) := rfl
theorem told_c6 (N : Nat) {I : hf_M} {m : Nat} (hN : 4096 ≤ N) (hm : I 7 6 = nI m) (h : m ≤ 256) : fX7_told N [.ref 6, .int (nI 6)] I = some (some (.int (hp_sum (I 24) m 0 0)), I) := by
  show (match fX7_sum N [.ref 24, .int (I 7 6)] I with
    | some (v, J) => _
    | none => _) = _
  rw [hm, sum_cf N 24 hN (by decide) (by rw [la_24]; exact h) h]
  rfl
theorem told_m6 (N : Nat) {J : hf_M} {m : Nat} (hN : 4096 ≤ N) (hm : J 204 2 = nI m) (h : m ≤ 256) : fX8_told N [.ref 204, .int (nI 6)] J = some (some (.int (hp_sum (fun j => J 215 (256 + j)) m 0 0)), J) := by
  show (match fX8_sum N [.ref 204, .int (nI 256)] J with
    | some (v, J) => _
    | none => _) = _
  rw [sum_mf N hN hm h (by decide)]
  rfl
theorem told_c7 (N : Nat) {I : hf_M} {m : Nat} (hN : 4096 ≤ N) (hm : I 7 6 = nI m) (h : m ≤ 256) : fX7_told N [.ref 6, .int (nI 7)] I = some (some (.int (hp_sum (I 26) m 0 0)), I) := by
  show (match fX7_sum N [.ref 26, .int (I 7 6)] I with
    | some (v, J) => _
    | none => _) = _
  rw [hm, sum_cf N 26 hN (by decide) (by rw [la_26]; exact h) h]
  rfl
theorem told_m7 (N : Nat) {J : hf_M} {m : Nat} (hN : 4096 ≤ N) (hm : J 204 2 = nI m) (h : m ≤ 256) : fX8_told N [.ref 204, .int (nI 7)] J = some (some (.int (hp_sum (fun j => J 215 (768 + j)) m 0 0)), J) := by
  show (match fX8_sum N [.ref 204, .int (nI 768)] J with
    | some (v, J) => _
    | none => _) = _
  rw [sum_mf N hN hm h (by decide)]
  rfl
theorem told_c8 (N : Nat) {I : hf_M} {m : Nat} (hN : 4096 ≤ N) (hm : I 7 6 = nI m) (h : m ≤ 256) : fX7_told N [.ref 6, .int (nI 8)] I = some (some (.int (hp_sum (I 27) m 0 0)), I) := by
  show (match fX7_sum N [.ref 27, .int (I 7 6)] I with
    | some (v, J) => _
    | none => _) = _
  rw [hm, sum_cf N 27 hN (by decide) (by rw [la_27]; exact h) h]
  rfl
theorem told_m8 (N : Nat) {J : hf_M} {m : Nat} (hN : 4096 ≤ N) (hm : J 204 2 = nI m) (h : m ≤ 256) : fX8_told N [.ref 204, .int (nI 8)] J = some (some (.int (hp_sum (fun j => J 215 (1024 + j)) m 0 0)), J) := by
  show (match fX8_sum N [.ref 204, .int (nI 1024)] J with
    | some (v, J) => _
    | none => _) = _
  rw [sum_mf N hN hm h (by decide)]
  rfl
theorem tsw_hi {M : Type} (ks : List (hf_K M)) (kd : hf_K M) (m : Nat) (pl st : List Value) (I : M) (h : ks.length ≤ m) (hm : m < 2 ^ 31) : c_tsw ks kd pl (.int (nI m) :: st) I = kd pl st I := by
  rw [r_tsw, if_neg (nI_pos hm), nI_clamp hm, List.getElem?_eq_none_iff.mpr h]
theorem tsw_lo {M : Type} (ks : List (hf_K M)) (kd : hf_K M) (w : Int32) (pl st : List Value) (I : M) (h : w < 0) : c_tsw ks kd pl (.int w :: st) I = kd pl st I := by
  rw [r_tsw, if_pos h]
theorem told_cn (N : Nat) (I : hf_M) (w : Int32) (h : w < 0) : fX7_told N [.ref 6, .int w] I = some (some (.int (-2)), I) := by
  show c_tsw _ _ [.ref 6, .int w] [.int w] I = _
  rw [tsw_lo _ _ w _ _ I h]
  rfl
theorem told_mn (N : Nat) (J : hf_M) (w : Int32) (h : w < 0) : fX8_told N [.ref 204, .int w] J = some (some (.int (-2)), J) := by
  show c_tsw _ _ [.ref 204, .int w] [.int w] J = _
  rw [tsw_lo _ _ w _ _ J h]
  simp only [r_iload, r_aload, r_istore, r_astore, r_iinc, r_const, r_dupi, r_dupr, r_dup2, r_goto, r_iadd, r_isub, r_imul, r_iand, r_ixor, r_iushr, r_idiv, r_irem, r_ifeq, r_icmpeq, r_ifne, r_icmpne, r_iflt, r_icmplt, r_ifge, r_icmpge, r_ifgt, r_icmpgt, r_ifle, r_icmple, r_tsw, r_getI, r_getR, r_putI, r_putZ, r_iald, r_iast, r_aald, r_gets, r_copy, r_iret, r_zret, r_vret, r_mmax, r_mmin, r_callV, r_callS, r_fn, hf_pop, List.getElem?_cons_zero, List.getElem?_cons_succ, List.set_cons_zero, List.set_cons_succ, List.replicate_succ, List.replicate_zero, List.cons_append, List.nil_append, List.append_nil, List.length_cons, List.length_nil, List.take_succ_cons, List.take_zero, List.drop_succ_cons, List.drop_zero, List.reverse_cons, List.reverse_nil, List.map_cons, List.map_nil, List.sum_cons, List.sum_nil, List.all_cons, List.all_nil, Option.toList_some, Option.toList_none, Value.category, Nat.reduceAdd, Nat.reduceSub, Nat.reduceLeDiff, Nat.reduceMul, Nat.reduceLT, Nat.reduceEqDiff, beq_self_eq_true, Bool.and_self, Bool.and_true, and_self, and_true, true_and, ite_true, ite_false, if_true, if_false, reduceIte, true_or, or_true, Nat.zero_add, Nat.le_refl, Nat.zero_le, not_false_eq_true, eq_self, true_implies, Int32.reduceLT, Int32.reduceLE, Int32.reduceGT, hf_rd6, hw6, iq_m6_m5, iq_m6_m4, iq_m6_m3, iq_m6_m2, iq_m6_m1, iq_m6_0, iq_m6_1, iq_m6_2, iq_m6_3, iq_m6_4, iq_m6_5, iq_m5_m6, iq_m5_m4, iq_m5_m3, iq_m5_m2, iq_m5_m1, iq_m5_0, iq_m5_1, iq_m5_2, iq_m5_3, iq_m5_4, iq_m5_5, iq_m4_m6, iq_m4_m5, iq_m4_m3, iq_m4_m2, iq_m4_m1, iq_m4_0, iq_m4_1, iq_m4_2, iq_m4_3, iq_m4_4, iq_m4_5, iq_m3_m6, iq_m3_m5, iq_m3_m4, iq_m3_m2, iq_m3_m1, iq_m3_0, iq_m3_1, iq_m3_2, iq_m3_3, iq_m3_4, iq_m3_5, iq_m2_m6, iq_m2_m5, iq_m2_m4, iq_m2_m3, iq_m2_m1, iq_m2_0, iq_m2_1, iq_m2_2, iq_m2_3, iq_m2_4, iq_m2_5, iq_m1_m6, iq_m1_m5, iq_m1_m4, iq_m1_m3, iq_m1_m2, iq_m1_0, iq_m1_1, iq_m1_2, iq_m1_3, iq_m1_4, iq_m1_5, iq_0_m6, iq_0_m5, iq_0_m4, iq_0_m3, iq_0_m2, iq_0_m1, iq_0_1, iq_0_2, iq_0_3, iq_0_4, iq_0_5, iq_1_m6, iq_1_m5, iq_1_m4, iq_1_m3, iq_1_m2, iq_1_m1, iq_1_0, iq_1_2, iq_1_3, iq_1_4, iq_1_5, iq_2_m6, iq_2_m5, iq_2_m4, iq_2_m3, iq_2_m2, iq_2_m1, iq_2_0, iq_2_1, iq_2_3, iq_2_4, iq_2_5, iq_3_m6, iq_3_m5, iq_3_m4, iq_3_m3, iq_3_m2, iq_3_m1, iq_3_0, iq_3_1, iq_3_2, iq_3_4, iq_3_5, iq_4_m6, iq_4_m5, iq_4_m4, iq_4_m3, iq_4_m2, iq_4_m1, iq_4_0, iq_4_1, iq_4_2, iq_4_3, iq_4_5, iq_5_m6, iq_5_m5, iq_5_m4, iq_5_m3, iq_5_m2, iq_5_m1, iq_5_0, iq_5_1, iq_5_2, iq_5_3, iq_5_4, e_in, Int32.lt_trans h (by decide : (0 : Int32) < 9)]
theorem told_ch (N : Nat) (I : hf_M) (m : Nat) (h : 14 ≤ m) (hm : m < 2 ^ 31) : fX7_told N [.ref 6, .int (nI m)] I = some (some (.int (-2)), I) := by
  show c_tsw _ _ [.ref 6, .int (nI m)] [.int (nI m)] I = _
  rw [tsw_hi]
  · rfl
  · exact h
  · exact hm
theorem told_mh (N : Nat) (J : hf_M) (m : Nat) (h : 14 ≤ m) (hm : m < 2 ^ 31) : fX8_told N [.ref 204, .int (nI m)] J = some (some (.int (-2)), J) := by
  show c_tsw _ _ [.ref 204, .int (nI m)] [.int (nI m)] J = _
  rw [tsw_hi]
  rotate_left
  · show 9 ≤ m; omega
  · exact hm
  simp only [r_iload, r_aload, r_istore, r_astore, r_iinc, r_const, r_dupi, r_dupr, r_dup2, r_goto, r_iadd, r_isub, r_imul, r_iand, r_ixor, r_iushr, r_idiv, r_irem, r_ifeq, r_icmpeq, r_ifne, r_icmpne, r_iflt, r_icmplt, r_ifge, r_icmpge, r_ifgt, r_icmpgt, r_ifle, r_icmple, r_tsw, r_getI, r_getR, r_putI, r_putZ, r_iald, r_iast, r_aald, r_gets, r_copy, r_iret, r_zret, r_vret, r_mmax, r_mmin, r_callV, r_callS, r_fn, hf_pop, List.getElem?_cons_zero, List.getElem?_cons_succ, List.set_cons_zero, List.set_cons_succ, List.replicate_succ, List.replicate_zero, List.cons_append, List.nil_append, List.append_nil, List.length_cons, List.length_nil, List.take_succ_cons, List.take_zero, List.drop_succ_cons, List.drop_zero, List.reverse_cons, List.reverse_nil, List.map_cons, List.map_nil, List.sum_cons, List.sum_nil, List.all_cons, List.all_nil, Option.toList_some, Option.toList_none, Value.category, Nat.reduceAdd, Nat.reduceSub, Nat.reduceLeDiff, Nat.reduceMul, Nat.reduceLT, Nat.reduceEqDiff, beq_self_eq_true, Bool.and_self, Bool.and_true, and_self, and_true, true_and, ite_true, ite_false, if_true, if_false, reduceIte, true_or, or_true, Nat.zero_add, Nat.le_refl, Nat.zero_le, not_false_eq_true, eq_self, true_implies, Int32.reduceLT, Int32.reduceLE, Int32.reduceGT, hf_rd6, hw6, iq_m6_m5, iq_m6_m4, iq_m6_m3, iq_m6_m2, iq_m6_m1, iq_m6_0, iq_m6_1, iq_m6_2, iq_m6_3, iq_m6_4, iq_m6_5, iq_m5_m6, iq_m5_m4, iq_m5_m3, iq_m5_m2, iq_m5_m1, iq_m5_0, iq_m5_1, iq_m5_2, iq_m5_3, iq_m5_4, iq_m5_5, iq_m4_m6, iq_m4_m5, iq_m4_m3, iq_m4_m2, iq_m4_m1, iq_m4_0, iq_m4_1, iq_m4_2, iq_m4_3, iq_m4_4, iq_m4_5, iq_m3_m6, iq_m3_m5, iq_m3_m4, iq_m3_m2, iq_m3_m1, iq_m3_0, iq_m3_1, iq_m3_2, iq_m3_3, iq_m3_4, iq_m3_5, iq_m2_m6, iq_m2_m5, iq_m2_m4, iq_m2_m3, iq_m2_m1, iq_m2_0, iq_m2_1, iq_m2_2, iq_m2_3, iq_m2_4, iq_m2_5, iq_m1_m6, iq_m1_m5, iq_m1_m4, iq_m1_m3, iq_m1_m2, iq_m1_0, iq_m1_1, iq_m1_2, iq_m1_3, iq_m1_4, iq_m1_5, iq_0_m6, iq_0_m5, iq_0_m4, iq_0_m3, iq_0_m2, iq_0_m1, iq_0_1, iq_0_2, iq_0_3, iq_0_4, iq_0_5, iq_1_m6, iq_1_m5, iq_1_m4, iq_1_m3, iq_1_m2, iq_1_m1, iq_1_0, iq_1_2, iq_1_3, iq_1_4, iq_1_5, iq_2_m6, iq_2_m5, iq_2_m4, iq_2_m3, iq_2_m2, iq_2_m1, iq_2_0, iq_2_1, iq_2_3, iq_2_4, iq_2_5, iq_3_m6, iq_3_m5, iq_3_m4, iq_3_m3, iq_3_m2, iq_3_m1, iq_3_0, iq_3_1, iq_3_2, iq_3_4, iq_3_5, iq_4_m6, iq_4_m5, iq_4_m4, iq_4_m3, iq_4_m2, iq_4_m1, iq_4_0, iq_4_1, iq_4_2, iq_4_3, iq_4_5, iq_5_m6, iq_5_m5, iq_5_m4, iq_5_m3, iq_5_m2, iq_5_m1, iq_5_0, iq_5_1, iq_5_2, iq_5_3, iq_5_4, e_in, (by rw [ni_9]; exact nI_nlt (by omega) hm : ¬ nI m < 9), (by rw [ni_13]; exact nI_lt (by omega) hm : 13 < nI m)]
theorem q_told (q N : Nat) (hN : 4096 ≤ N) (w : Int32) : hr_call q (fX7_told N [.ref 6, .int w]) (fX8_told N [.ref 204, .int w]) := by
  apply hr_read
  intro r c I J hR
  have hL := hR.1
  have hb := hL.1
  obtain ⟨ce, ⟨n1, n2, n3, n4, n5, n6⟩, ⟨sk, sa, -, -, -, -, -, st1, st2, -⟩, ck, -, cr1, cr2, -⟩ := hR.2.2.2.1
  obtain ⟨wk, -, w1, w2, -⟩ := hR.2.1
  simp only [Nat.zero_add, Nat.reduceAdd] at n1 n2 n3 n4 n5 n6 st1 st2 cr1 cr2
  have hs : ∀ (S o : Nat), (∀ j, j < r * c → I S j = J 215 (o + j)) → hp_sum (fun j => J 215 (o + j)) (r * c) 0 0 = hp_sum (I S) (r * c) 0 0 := fun S o h => hp_sum_congr (r * c) 0 0 (fun j _ hj => (h j (by omega)).symm)
  rcases hr_sw w 14 (by decide) with h | ⟨m, hm, rfl⟩ | ⟨j, hj, rfl⟩
  · exact ⟨-2, told_cn N I w h, told_mn N J w h⟩
  · exact ⟨-2, told_ch N I _ (by omega) hm, told_mh N J _ (by omega) hm⟩
  · match j, hj with
    | 0, _ => exact ⟨_, told_c0 N I, by rw [told_m0, hL.2.1.1, hL.2.2.1.1]⟩
    | 1, _ => exact ⟨_, told_c1 N I, by rw [told_m1, hL.2.1.2.1, hL.2.2.1.2.1]⟩
    | 2, _ => exact ⟨_, told_c2 N I, by rw [told_m2, n1]⟩
    | 3, _ => exact ⟨_, told_c3 N I, by rw [told_m3, w1, w2]⟩
    | 4, _ => exact ⟨_, told_c4 N I, by rw [told_m4, cr1, cr2]⟩
    | 5, _ => exact ⟨_, told_c5 N I, by rw [told_m5, st1, st2]⟩
    | 6, _ => exact ⟨_, told_c6 N hN hL.i (by omega), by rw [told_m6 N hN hL.j (by omega), hs 24 256 (fun j hj => by have := (ce j hj).2.1; rw [Nat.zero_add] at this; exact this)]⟩
    | 7, _ => exact ⟨_, told_c7 N hN hL.i (by omega), by rw [told_m7 N hN hL.j (by omega), hs 26 768 (fun j hj => by have := (ce j hj).2.2.2.1; rw [Nat.zero_add] at this; exact this)]⟩
    | 8, _ => exact ⟨_, told_c8 N hN hL.i (by omega), by rw [told_m8 N hN hL.j (by omega), hs 27 1024 (fun j hj => by have := (ce j hj).2.2.2.2.1; rw [Nat.zero_add] at this; exact this)]⟩
    | 9, _ => exact ⟨_, told_c9 N I, by rw [told_m9, n2]⟩
    | 10, _ => exact ⟨_, told_c10 N I, by rw [told_m10, n3]⟩
    | 11, _ => exact ⟨_, told_c11 N I, by rw [told_m11, n4]⟩
    | 12, _ => exact ⟨_, told_c12 N I, by rw [told_m12, n5]⟩
    | 13, _ => exact ⟨_, told_c13 N I, by rw [told_m13, n6]⟩

