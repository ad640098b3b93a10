/-! a scene begins: the relation; clear -/
theorem be_q {N r c : Nat} {I J : hf_M} (hN : 4096 ≤ N) (hl : hr_land r c I J) : ∃ I' J', fX4_begin N [.ref 22, .ref 7] I = some (none, I') ∧ fX8_begin N [.ref 204] J = some (none, J') ∧ hr_sc r c I' 22 J' 215 0 ∧ (∀ q, hr_fr r c q I' 22) ∧ (∀ d, d < 22 ∨ 34 ≤ d → I' d = I d) ∧ (∀ d, d ≠ 215 → J' d = J d) := by
  obtain ⟨hb, ⟨i4, i5, i6⟩, ⟨j0, j1, j2⟩, hc⟩ := hl
  obtain ⟨I', e1, a1, _, a3, a4, a5, a6, a7, a8⟩ := bg_l (N := N) (m := r * c) (R := r) hN (by omega) (by omega) (by omega) (r * c) 0 N I (by omega) (by omega) i6 i4
  obtain ⟨J', e2, b1, b2, b3, b4, b5, b6, b7⟩ := nb_q (N := N) (R := r) (J := J) hN (by omega) j0
  have e0 : fX4_begin N [.ref 22, .ref 7] I = BX4_begin_2 N N [.ref 22, .ref 7, .int (nI 0)] [] I := rfl
  refine ⟨I', J', e0.trans e1, e2, ⟨fun n hn => ?_, ?_, ⟨1, fun i => if i = 0 then 0 else r, by decide, by decide, rfl, rfl, fun i hi => ?_, a4, by rw [Nat.zero_add]; exact b2, fun i hi => ?_⟩, 0, by decide, a3 8 (by decide) (by decide), by rw [Nat.zero_add]; exact b6 1817 (by decide) (by decide) (by decide), fun i hi => by omega⟩, fun q => ⟨0, a3 9 (by decide) (by decide), by omega, fun _ n hn => ?_⟩, a8, b7⟩
  · obtain ⟨x1, x2, x3, x4, x5, x6⟩ := a1 n (by omega) hn
    obtain ⟨y1, y2, y3, y4, y5, y6⟩ := b1 n (by omega)
    obtain ⟨⟨k, k5, g1, g2, g3⟩, f1, f2, f3⟩ := hc n hn
    have hx : I' (22 + 1) n = hp_s0 (I 9 n) := x1
    refine ⟨?_, ?_, ?_, ?_, ?_, ?_, fun hs => ?_, fun _ => x6⟩
    · rw [Nat.zero_add, y1, ← f1]; exact x1
    · rw [Nat.zero_add, y2, ← f1]; exact x2
    · rw [Nat.zero_add, y3, ← f2]; exact x3
    · rw [Nat.zero_add, y4]; exact x4
    · rw [Nat.zero_add, y5]; exact x5
    · rw [Nat.zero_add, y6]; exact x6
    · rw [hx] at hs
      unfold hp_s0 at hs
      by_cases h0 : I 9 n ≤ nI 0
      · rw [if_pos h0] at hs
        rcases hs with z | z
        · exact absurd z (by decide)
        · exact absurd z (by decide)
      · obtain ⟨k1, k4⟩ := g3 (Int32.not_le.mp h0)
        exact ⟨k, k1, k4, by rw [a8 8 (by decide)]; exact g1⟩
  · exact ⟨by rw [a3 9 (by decide) (by decide), Nat.zero_add, b6 1816 (by decide) (by decide) (by decide)], by rw [a3 10 (by decide) (by decide), Nat.zero_add, b6 1819 (by decide) (by decide) (by decide)], by rw [a3 11 (by decide) (by decide), Nat.zero_add, b6 1820 (by decide) (by decide) (by decide)], by rw [a3 12 (by decide) (by decide), Nat.zero_add, b6 1821 (by decide) (by decide) (by decide)], by rw [a3 13 (by decide) (by decide), Nat.zero_add, b6 1822 (by decide) (by decide) (by decide)], by rw [a3 14 (by decide) (by decide), Nat.zero_add, b6 1823 (by decide) (by decide) (by decide)]⟩
  · have : i = 0 := by omega
    subst this
    show 0 < r
    omega
  · have : i = 0 := by omega
    subst this
    refine ⟨a5, a6, ?_, ?_, ?_⟩
    · rw [Nat.zero_add]; exact b3
    · rw [Nat.zero_add]; exact b4
    · rw [Nat.zero_add]; exact a7.trans b5.symm
  · obtain ⟨x1, x2, x3, x4, x5, x6⟩ := a1 n (by omega) hn
    exact ⟨x4, x5, x6⟩
set_option maxRecDepth 100000 in
theorem ca_c {N : Nat} {I I' : hf_M} (e : fX4_begin N [.ref 22, .ref 7] I = some (none, I')) : fX7_clear N [.ref 6] I = some (some (.int (I 22 9)), I') := by
  simp only [fX7_clear, EX7_clear, r_iload, r_aload, r_istore, r_astore, r_iinc, r_const, r_dupi, r_dupr, r_dup2, r_goto, r_iadd, r_isub, r_imul, r_iand, r_ixor, r_iushr, r_idiv, r_irem, r_ifeq, r_icmpeq, r_ifne, r_icmpne, r_iflt, r_icmplt, r_ifge, r_icmpge, r_ifgt, r_icmpgt, r_ifle, r_icmple, r_tsw, r_getI, r_getR, r_putI, r_putZ, r_iald, r_iast, r_aald, r_gets, r_copy, r_iret, r_zret, r_vret, r_mmax, r_mmin, r_callV, r_callS, r_fn, hf_pop, List.getElem?_cons_zero, List.getElem?_cons_succ, List.set_cons_zero, List.set_cons_succ, List.replicate_succ, List.replicate_zero, List.cons_append, List.nil_append, List.append_nil, List.length_cons, List.length_nil, List.take_succ_cons, List.take_zero, List.drop_succ_cons, List.drop_zero, List.reverse_cons, List.reverse_nil, List.map_cons, List.map_nil, List.sum_cons, List.sum_nil, List.all_cons, List.all_nil, Option.toList_some, Option.toList_none, Value.category, Nat.reduceAdd, Nat.reduceSub, Nat.reduceLeDiff, Nat.reduceMul, Nat.reduceLT, Nat.reduceEqDiff, beq_self_eq_true, Bool.and_self, Bool.and_true, and_self, and_true, true_and, ite_true, ite_false, if_true, if_false, ↓reduceIte, true_or, or_true, Nat.zero_add, Nat.le_refl, Nat.zero_le, not_false_eq_true, eq_self, true_implies, Int32.reduceLT, Int32.reduceLE, Int32.reduceGT, hf_rd6, hw6, iq_m6_m5, iq_m6_m4, iq_m6_m3, iq_m6_m2, iq_m6_m1, iq_m6_0, iq_m6_1, iq_m6_2, iq_m6_3, iq_m6_4, iq_m6_5, iq_m5_m6, iq_m5_m4, iq_m5_m3, iq_m5_m2, iq_m5_m1, iq_m5_0, iq_m5_1, iq_m5_2, iq_m5_3, iq_m5_4, iq_m5_5, iq_m4_m6, iq_m4_m5, iq_m4_m3, iq_m4_m2, iq_m4_m1, iq_m4_0, iq_m4_1, iq_m4_2, iq_m4_3, iq_m4_4, iq_m4_5, iq_m3_m6, iq_m3_m5, iq_m3_m4, iq_m3_m2, iq_m3_m1, iq_m3_0, iq_m3_1, iq_m3_2, iq_m3_3, iq_m3_4, iq_m3_5, iq_m2_m6, iq_m2_m5, iq_m2_m4, iq_m2_m3, iq_m2_m1, iq_m2_0, iq_m2_1, iq_m2_2, iq_m2_3, iq_m2_4, iq_m2_5, iq_m1_m6, iq_m1_m5, iq_m1_m4, iq_m1_m3, iq_m1_m2, iq_m1_0, iq_m1_1, iq_m1_2, iq_m1_3, iq_m1_4, iq_m1_5, iq_0_m6, iq_0_m5, iq_0_m4, iq_0_m3, iq_0_m2, iq_0_m1, iq_0_1, iq_0_2, iq_0_3, iq_0_4, iq_0_5, iq_1_m6, iq_1_m5, iq_1_m4, iq_1_m3, iq_1_m2, iq_1_m1, iq_1_0, iq_1_2, iq_1_3, iq_1_4, iq_1_5, iq_2_m6, iq_2_m5, iq_2_m4, iq_2_m3, iq_2_m2, iq_2_m1, iq_2_0, iq_2_1, iq_2_3, iq_2_4, iq_2_5, iq_3_m6, iq_3_m5, iq_3_m4, iq_3_m3, iq_3_m2, iq_3_m1, iq_3_0, iq_3_1, iq_3_2, iq_3_4, iq_3_5, iq_4_m6, iq_4_m5, iq_4_m4, iq_4_m3, iq_4_m2, iq_4_m1, iq_4_0, iq_4_1, iq_4_2, iq_4_3, iq_4_5, iq_5_m6, iq_5_m5, iq_5_m4, iq_5_m3, iq_5_m2, iq_5_m1, iq_5_0, iq_5_1, iq_5_2, iq_5_3, iq_5_4, lk_6, lr_6_0, lr_6_4, lk_7, lk_22, e]
set_option maxRecDepth 100000 in
theorem ca_m {N : Nat} {J J' : hf_M} (e : fX8_begin N [.ref 204] J = some (none, J')) : fX8_clear N [.ref 204] J = some (some (.int (J 215 1816)), J') := by
  have c1 : (1816 : Int32).toNatClampNeg = 1816 := nI_clamp (n := 1816) (by decide)
  have c2 : hf_in 1816 1824 = True := hf_inI (k := 1816) (by decide) (by decide)
  simp only [fX8_clear, EX8_clear, r_iload, r_aload, r_istore, r_astore, r_iinc, r_const, r_dupi, r_dupr, r_dup2, r_goto, r_iadd, r_isub, r_imul, r_iand, r_ixor, r_iushr, r_idiv, r_irem, r_ifeq, r_icmpeq, r_ifne, r_icmpne, r_iflt, r_icmplt, r_ifge, r_icmpge, r_ifgt, r_icmpgt, r_ifle, r_icmple, r_tsw, r_getI, r_getR, r_putI, r_putZ, r_iald, r_iast, r_aald, r_gets, r_copy, r_iret, r_zret, r_vret, r_mmax, r_mmin, r_callV, r_callS, r_fn, hf_pop, List.getElem?_cons_zero, List.getElem?_cons_succ, List.set_cons_zero, List.set_cons_succ, List.replicate_succ, List.replicate_zero, List.cons_append, List.nil_append, List.append_nil, List.length_cons, List.length_nil, List.take_succ_cons, List.take_zero, List.drop_succ_cons, List.drop_zero, List.reverse_cons, List.reverse_nil, List.map_cons, List.map_nil, List.sum_cons, List.sum_nil, List.all_cons, List.all_nil, Option.toList_some, Option.toList_none, Value.category, Nat.reduceAdd, Nat.reduceSub, Nat.reduceLeDiff, Nat.reduceMul, Nat.reduceLT, Nat.reduceEqDiff, beq_self_eq_true, Bool.and_self, Bool.and_true, and_self, and_true, true_and, ite_true, ite_false, if_true, if_false, ↓reduceIte, true_or, or_true, Nat.zero_add, Nat.le_refl, Nat.zero_le, not_false_eq_true, eq_self, true_implies, Int32.reduceLT, Int32.reduceLE, Int32.reduceGT, hf_rd6, hw6, iq_m6_m5, iq_m6_m4, iq_m6_m3, iq_m6_m2, iq_m6_m1, iq_m6_0, iq_m6_1, iq_m6_2, iq_m6_3, iq_m6_4, iq_m6_5, iq_m5_m6, iq_m5_m4, iq_m5_m3, iq_m5_m2, iq_m5_m1, iq_m5_0, iq_m5_1, iq_m5_2, iq_m5_3, iq_m5_4, iq_m5_5, iq_m4_m6, iq_m4_m5, iq_m4_m3, iq_m4_m2, iq_m4_m1, iq_m4_0, iq_m4_1, iq_m4_2, iq_m4_3, iq_m4_4, iq_m4_5, iq_m3_m6, iq_m3_m5, iq_m3_m4, iq_m3_m2, iq_m3_m1, iq_m3_0, iq_m3_1, iq_m3_2, iq_m3_3, iq_m3_4, iq_m3_5, iq_m2_m6, iq_m2_m5, iq_m2_m4, iq_m2_m3, iq_m2_m1, iq_m2_0, iq_m2_1, iq_m2_2, iq_m2_3, iq_m2_4, iq_m2_5, iq_m1_m6, iq_m1_m5, iq_m1_m4, iq_m1_m3, iq_m1_m2, iq_m1_0, iq_m1_1, iq_m1_2, iq_m1_3, iq_m1_4, iq_m1_5, iq_0_m6, iq_0_m5, iq_0_m4, iq_0_m3, iq_0_m2, iq_0_m1, iq_0_1, iq_0_2, iq_0_3, iq_0_4, iq_0_5, iq_1_m6, iq_1_m5, iq_1_m4, iq_1_m3, iq_1_m2, iq_1_m1, iq_1_0, iq_1_2, iq_1_3, iq_1_4, iq_1_5, iq_2_m6, iq_2_m5, iq_2_m4, iq_2_m3, iq_2_m2, iq_2_m1, iq_2_0, iq_2_1, iq_2_3, iq_2_4, iq_2_5, iq_3_m6, iq_3_m5, iq_3_m4, iq_3_m3, iq_3_m2, iq_3_m1, iq_3_0, iq_3_1, iq_3_2, iq_3_4, iq_3_5, iq_4_m6, iq_4_m5, iq_4_m4, iq_4_m3, iq_4_m2, iq_4_m1, iq_4_0, iq_4_1, iq_4_2, iq_4_3, iq_4_5, iq_5_m6, iq_5_m5, iq_5_m4, iq_5_m3, iq_5_m2, iq_5_m1, iq_5_0, iq_5_1, iq_5_2, iq_5_3, iq_5_4, lk_204, lr_204_17, la_215, c1, c2, e, Nat.reduceLeDiff, hf_rd6]
theorem q_clear (q N : Nat) (hN : 4096 ≤ N) : hr_call q (fX7_clear N [.ref 6]) (fX8_clear N [.ref 204]) := by
  intro r c I J _ hR
  obtain ⟨r1, r2, r3, r4, r5, r6⟩ := hr_all_q hR
  obtain ⟨I', J', e1, e2, e3, e4, e5, e6⟩ := be_q (N := N) hN r1
  have hv : J 215 1816 = I 22 9 := by
    have := r4.2.1.1
    rw [Nat.zero_add] at this
    exact this.symm
  have em := ca_m e2
  rw [hv] at em
  refine ⟨_, r, c, I', J', ca_c e1, em, ⟨land_c (fun d d1 d2 => e5 d (by omega)) (fun d d1 d2 => e6 d (by omega)) r1, sky_c (fun d d1 d2 => e5 d (by omega)) (fun d d1 d2 => e6 d (by omega)) r2, lit_c (fun d d1 d2 => e5 d (by omega)) (fun d d1 => e6 d (by omega)) r3, e3, ?_, ?_⟩, fun d hd => e5 d (by omega), fun d hd => e6 d (by omega)⟩
  · obtain ⟨age, ch, a1, a2, a3, a4, a5, _, a6⟩ := r5
    refine ⟨age, ch, by rw [e5 7 (by decide)]; exact a1, by rw [e6 204 (by decide)]; exact a2, a3, a4, a5, e4 _, fun p hp => ?_⟩
    rw [e5 95 (by decide), e6 217 (by decide)]
    rcases a6 p hp with z | ⟨a, b, b1, b2, b3, b4, b5, b6, b7⟩
    · exact Or.inl z
    · exact Or.inr ⟨a, b, b1, b2, b3, b4, b5, b6, fun e => ⟨hr_sc_c (fun d d1 d2 => e5 d (by omega)) (e5 8 (by decide)) (e6 216 (by decide)) (b7 e).1, hr_fr_c (fun d d1 d2 => e5 d (by omega)) (b7 e).2⟩⟩
  · unfold hr_one at r6 ⊢
    rw [e5 6 (by decide), e5 20 (by decide), e5 21 (by decide), e6 204 (by decide)]
    exact r6
