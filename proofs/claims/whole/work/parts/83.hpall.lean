/-! the law, whole -/
theorem rd_callI (a lim : Nat) (f : hg_F) (k : hf_K hg_M) (pl st : List Value) (Y : hg_M) : d_callI a lim f k pl st Y = match hf_pop a st with
  | some (as, .ref cv :: rest) => if (rest.map fun v => v.category).sum ≤ 8 then match f (.ref cv :: as) Y with
    | some (v, J) => if J.1 ≤ lim then k pl (v.toList ++ rest) J else none
    | none => none
    else none
  | _ => none := id rfl
theorem rd_sw (k : hf_K hf_M) (pl st : List Value) (n : Nat) (U : Nat → Nat → Bool) (I : hf_M) : d_sw k pl st (n, U, I) = if n = 215 ∧ hg_full U = true then match k pl st I with
  | some (r, J) => some (r, (215, U, J))
  | none => none
  else none := id rfl
theorem hs_0 : hp_s0 0 = nI 0 := by decide
/-- how it begins -/
theorem hb_all {I J : hf_M} (hI : ∀ c j v, (c, j, v) ∈ hi_l → I c j = v) (hz : ∀ n, n < 256 → I 20 n = 0 ∧ I 21 n = 0) (hJ : ∀ d, d ≠ 215 → J d = hm_I (hg_i0 I 204) d) (b1 : ∀ x, x < 256 → J 215 x = hp_s0 (hm_I (hg_i0 I 204) 207 x) ∧ J 215 (256 + x) = hm_I (hg_i0 I 204) 207 x ∧ J 215 (512 + x) = hm_I (hg_i0 I 204) 208 x ∧ J 215 (768 + x) = nI 0 ∧ J 215 (1024 + x) = nI 0 ∧ J 215 (1280 + x) = -6) (b2 : J 215 1818 = nI 1) (b3 : J 215 1792 = nI 0) (b4 : J 215 1793 = nI (2 - 1)) (b5 : J 215 1794 = nI 0) (b6 : ∀ y, 1795 ≤ y → y < 1824 → y ≠ 1818 → J 215 y = nI 0) : hr_all 2 2 0 J J := by
  have lo : ∀ d, d < 204 → J d = I d := fun d hd => by rw [hJ d (by omega), hm_Id hd, i0_d (by omega)]
  have lv : ∀ c j v, c < 204 → (c, j, v) ∈ hi_l → J c j = v := fun c j v hc h => by rw [lo c hc]; exact hI c j v h
  have i7 : ∀ n, hm_I (hg_i0 I 204) 207 n = 0 := fun n => hm_Iz (by decide)
  have i8 : ∀ n, hm_I (hg_i0 I 204) 208 n = 0 := fun n => hm_Iz (by decide)
  obtain ⟨m0, m1, m2, m20, mo⟩ := hm_I4 (I := hg_i0 I 204)
  have j4 : J 204 = hm_I (hg_i0 I 204) 204 := hJ 204 (by decide)
  have jo : ∀ j, j ≠ 0 → j ≠ 1 → j ≠ 2 → j ≠ 20 → J 204 j = 0 := fun j h0 h1 h2 h3 => by rw [j4, mo j h0 h1 h2 h3, i0_s]
  have jz : ∀ d n, (d = 205 ∨ d = 206 ∨ d = 207 ∨ d = 208 ∨ d = 217) → J d n = 0 := fun d n h => by rw [hJ d (by omega)]; exact hm_Iz (by omega)
  have n4 : ∀ n, n < 4 → (∀ c, (c = 8 ∨ c = 9 ∨ c = 10 ∨ c = 11 ∨ c = 23 ∨ c = 24 ∨ c = 25 ∨ c = 26 ∨ c = 27) → J c n = 0) ∧ J 28 n = -6 := fun n hn => by
    refine ⟨fun c hc => ?_, lv 28 n (-6) (by decide) ((by decide : ∀ n, n < 4 → (28, n, -6) ∈ hi_l) n hn)⟩
    rcases hc with rfl | rfl | rfl | rfl | rfl | rfl | rfl | rfl | rfl
    · exact lv 8 n 0 (by decide) ((by decide : ∀ n, n < 4 → (8, n, 0) ∈ hi_l) n hn)
    · exact lv 9 n 0 (by decide) ((by decide : ∀ n, n < 4 → (9, n, 0) ∈ hi_l) n hn)
    · exact lv 10 n 0 (by decide) ((by decide : ∀ n, n < 4 → (10, n, 0) ∈ hi_l) n hn)
    · exact lv 11 n 0 (by decide) ((by decide : ∀ n, n < 4 → (11, n, 0) ∈ hi_l) n hn)
    · exact lv 23 n 0 (by decide) ((by decide : ∀ n, n < 4 → (23, n, 0) ∈ hi_l) n hn)
    · exact lv 24 n 0 (by decide) ((by decide : ∀ n, n < 4 → (24, n, 0) ∈ hi_l) n hn)
    · exact lv 25 n 0 (by decide) ((by decide : ∀ n, n < 4 → (25, n, 0) ∈ hi_l) n hn)
    · exact lv 26 n 0 (by decide) ((by decide : ∀ n, n < 4 → (26, n, 0) ∈ hi_l) n hn)
    · exact lv 27 n 0 (by decide) ((by decide : ∀ n, n < 4 → (27, n, 0) ∈ hi_l) n hn)
  have j22 : ∀ j, 8 ≤ j → j ≤ 14 → J 22 j = 0 := fun j h1 h2 => lv 22 j 0 (by decide) ((by decide : ∀ j, j < 15 → (j < 8 ∨ (22, j, 0) ∈ hi_l)) j (by omega) |>.resolve_left (by omega))
  refine ⟨⟨⟨by decide, by decide, by decide, by decide, by decide, by decide⟩, ⟨lv 7 4 2 (by decide) (by decide), lv 7 5 2 (by decide) (by decide), lv 7 6 4 (by decide) (by decide)⟩, ⟨?_, ?_, ?_⟩, fun n hn => ?_⟩, ⟨0, by decide, lv 12 2 0 (by decide) (by decide), jo 7 (by decide) (by decide) (by decide) (by decide), fun i hi => by omega⟩, ⟨0, by decide, lv 15 2 0 (by decide) (by decide), jo 13 (by decide) (by decide) (by decide) (by decide), fun i hi => by omega⟩, ⟨fun n hn => ?_, ?_, ⟨1, fun i => if i = 0 then 0 else 2, by decide, by decide, rfl, rfl, fun i hi => ?_, lv 30 3 1 (by decide) (by decide), b2, fun i hi => ?_⟩, 0, by decide, j22 8 (by decide) (by decide), b6 1817 (by decide) (by decide) (by decide), fun i hi => by omega⟩, ⟨0, 1, lv 7 7 0 (by decide) (by decide), ?_, by decide, by decide, by decide, ⟨0, j22 9 (by decide) (by decide), by decide, fun _ n hn => ?_⟩, fun p hp => Or.inl ⟨?_, jz 217 p (by decide)⟩⟩, ⟨?_, ?_, Or.inl (lv 6 9 0 (by decide) (by decide)), fun n hn => ?_⟩⟩
  · rw [j4, m0]; rfl
  · rw [j4, m1]; rfl
  · rw [j4, m2]; rfl
  · obtain ⟨z, _⟩ := n4 n hn
    rw [z 9 (by decide), z 10 (by decide), z 11 (by decide), jz 207 n (by decide), jz 208 n (by decide), jz 206 n (by decide)]
    exact ⟨⟨0, by decide, z 8 (by decide), jz 205 n (by decide), fun y => absurd y (by decide)⟩, rfl, rfl, rfl⟩
  · obtain ⟨z, z28⟩ := n4 n hn
    have hn2 : n < 4 := hn
    obtain ⟨y1, y2, y3, y4, y5, y6⟩ := b1 n (by omega)
    rw [i7, hs_0] at y1
    rw [i7] at y2
    rw [i8] at y3
    refine ⟨?_, ?_, ?_, ?_, ?_, ?_, fun hs => ?_, fun _ => z28⟩
    · rw [Nat.zero_add, y1]; exact z 23 (by decide)
    · rw [Nat.zero_add, y2]; exact z 24 (by decide)
    · rw [Nat.zero_add, y3]; exact z 25 (by decide)
    · rw [Nat.zero_add, y4]; exact z 26 (by decide)
    · rw [Nat.zero_add, y5]; exact z 27 (by decide)
    · rw [Nat.zero_add, y6]; exact z28
    · have h23 : J (22 + 1) n = 0 := z 23 (by decide)
      rw [h23] at hs
      rcases hs with y | y
      · exact absurd y (by decide)
      · exact absurd y (by decide)
  · exact ⟨(j22 9 (by decide) (by decide)).trans (b6 1816 (by decide) (by decide) (by decide)).symm, (j22 10 (by decide) (by decide)).trans (b6 1819 (by decide) (by decide) (by decide)).symm, (j22 11 (by decide) (by decide)).trans (b6 1820 (by decide) (by decide) (by decide)).symm, (j22 12 (by decide) (by decide)).trans (b6 1821 (by decide) (by decide) (by decide)).symm, (j22 13 (by decide) (by decide)).trans (b6 1822 (by decide) (by decide) (by decide)).symm, (j22 14 (by decide) (by decide)).trans (b6 1823 (by decide) (by decide) (by decide)).symm⟩
  · have : i = 0 := by omega
    subst this
    decide
  · have : i = 0 := by omega
    subst this
    exact ⟨lv 31 0 0 (by decide) (by decide), lv 32 0 1 (by decide) (by decide), b3, b4, (lv 33 0 0 (by decide) (by decide)).trans b5.symm⟩
  · rw [j4, m20]; rfl
  · obtain ⟨z, z28⟩ := n4 n hn
    exact ⟨z 26 (by decide), z 27 (by decide), z28⟩
  · exact lv 95 p (-6) (by decide) ((by decide : ∀ p, p < 3 → (95, p, -6) ∈ hi_l) p hp)
  · exact (lv 6 8 0 (by decide) (by decide)).trans (jo 12 (by decide) (by decide) (by decide) (by decide)).symm
  · exact (lv 6 9 0 (by decide) (by decide)).trans (jo 16 (by decide) (by decide) (by decide) (by decide)).symm
  · rw [lo 20 (by decide), lo 21 (by decide)]
    exact hz n hn
set_option maxRecDepth 100000 in
theorem hp_all_holds : hp_all := by
  intro L xs hL
  obtain ⟨he, h198, hU, hI, hz⟩ := hi_e
  have he' : gX7_init 4096 [.ref 6] (1, hg_u0 (fun _ _ => false) 6, hg_i0 (fun _ _ => 0) 6) = some (none, hi_1) := he
  generalize hi_1 = Y at he' h198 hU hI hz
  obtain ⟨n, U, I⟩ := Y
  dsimp only at h198 hU hI hz
  subst h198
  obtain ⟨J, e1, b1, b2, b3, b4, b5, b6, b7⟩ := nb_q (N := 4096) (R := 2) (J := hm_I (hg_i0 I 204)) (Nat.le_refl _) (by decide) hm_I4.1
  have hU2 : ∀ c, c < 204 → ∀ j, j < (hf_rs c).length → (!((hf_rs c).getD j none).isSome || hg_u0 U 204 c j) = true := fun c hc j hj => by
    rw [hgu0_d (by omega)]
    exact hU c hc j hj
  have em := hm_q (N := 4096) (U := hg_u0 U 204) hU2 e1
  have hf := hm_full hU2
  have hR : hr_all 2 2 0 J J := hb_all (fun c j v h => hI (c, j, v) h) hz b7 b1 b2 b3 b4 b5 b6
  obtain ⟨J', eB⟩ := lb_l (N := 4096) (L := L) (xs := xs) (Nat.le_refl _) hL 513 0 4096 2 2 J (by decide) (by decide) hR
  have eB' : BL_18 4096 L xs 4096 [.ref 0, .ref 6, .ref 204, .int 0] [] J = some (some (.int 1), J') := eB
  refine ⟨4096, some (.int 1), (215, hm_U (hg_u0 U 204), J'), ?_⟩
  simp only [EL_law, BL_16, rd_new, rd_callI, rd_sw, r_iload, r_aload, r_istore, r_astore, r_iinc, r_const, r_dupi, r_dupr, r_dup2, r_goto, r_iadd, r_isub, r_imul, r_iand, r_ixor, r_iushr, r_idiv, r_irem, r_ifeq, r_icmpeq, r_ifne, r_icmpne, r_iflt, r_icmplt, r_ifge, r_icmpge, r_ifgt, r_icmpgt, r_ifle, r_icmple, r_tsw, r_getI, r_getR, r_putI, r_putZ, r_iald, r_iast, r_aald, r_gets, r_copy, r_iret, r_zret, r_vret, r_mmax, r_mmin, r_callV, r_callS, r_fn, hf_pop, List.getElem?_cons_zero, List.getElem?_cons_succ, List.set_cons_zero, List.set_cons_succ, List.replicate_succ, List.replicate_zero, List.cons_append, List.nil_append, List.append_nil, List.length_cons, List.length_nil, List.take_succ_cons, List.take_zero, List.drop_succ_cons, List.drop_zero, List.reverse_cons, List.reverse_nil, List.map_cons, List.map_nil, List.sum_cons, List.sum_nil, List.all_cons, List.all_nil, Option.toList_some, Option.toList_none, Value.category, Nat.reduceAdd, Nat.reduceSub, Nat.reduceLeDiff, Nat.reduceMul, Nat.reduceLT, Nat.reduceEqDiff, beq_self_eq_true, Bool.and_self, Bool.and_true, and_self, and_true, true_and, ite_true, ite_false, if_true, if_false, ↓reduceIte, true_or, or_true, Nat.zero_add, Nat.le_refl, Nat.zero_le, not_false_eq_true, eq_self, true_implies, Int32.reduceLT, Int32.reduceLE, Int32.reduceGT, hf_rd6, hw6, iq_m6_m5, iq_m6_m4, iq_m6_m3, iq_m6_m2, iq_m6_m1, iq_m6_0, iq_m6_1, iq_m6_2, iq_m6_3, iq_m6_4, iq_m6_5, iq_m5_m6, iq_m5_m4, iq_m5_m3, iq_m5_m2, iq_m5_m1, iq_m5_0, iq_m5_1, iq_m5_2, iq_m5_3, iq_m5_4, iq_m5_5, iq_m4_m6, iq_m4_m5, iq_m4_m3, iq_m4_m2, iq_m4_m1, iq_m4_0, iq_m4_1, iq_m4_2, iq_m4_3, iq_m4_4, iq_m4_5, iq_m3_m6, iq_m3_m5, iq_m3_m4, iq_m3_m2, iq_m3_m1, iq_m3_0, iq_m3_1, iq_m3_2, iq_m3_3, iq_m3_4, iq_m3_5, iq_m2_m6, iq_m2_m5, iq_m2_m4, iq_m2_m3, iq_m2_m1, iq_m2_0, iq_m2_1, iq_m2_2, iq_m2_3, iq_m2_4, iq_m2_5, iq_m1_m6, iq_m1_m5, iq_m1_m4, iq_m1_m3, iq_m1_m2, iq_m1_0, iq_m1_1, iq_m1_2, iq_m1_3, iq_m1_4, iq_m1_5, iq_0_m6, iq_0_m5, iq_0_m4, iq_0_m3, iq_0_m2, iq_0_m1, iq_0_1, iq_0_2, iq_0_3, iq_0_4, iq_0_5, iq_1_m6, iq_1_m5, iq_1_m4, iq_1_m3, iq_1_m2, iq_1_m1, iq_1_0, iq_1_2, iq_1_3, iq_1_4, iq_1_5, iq_2_m6, iq_2_m5, iq_2_m4, iq_2_m3, iq_2_m2, iq_2_m1, iq_2_0, iq_2_1, iq_2_3, iq_2_4, iq_2_5, iq_3_m6, iq_3_m5, iq_3_m4, iq_3_m3, iq_3_m2, iq_3_m1, iq_3_0, iq_3_1, iq_3_2, iq_3_4, iq_3_5, iq_4_m6, iq_4_m5, iq_4_m4, iq_4_m3, iq_4_m2, iq_4_m1, iq_4_0, iq_4_1, iq_4_2, iq_4_3, iq_4_5, iq_5_m6, iq_5_m5, iq_5_m4, iq_5_m3, iq_5_m2, iq_5_m1, iq_5_0, iq_5_1, iq_5_2, iq_5_3, iq_5_4, lk_6, lk_204, he', em, hf, eB']
