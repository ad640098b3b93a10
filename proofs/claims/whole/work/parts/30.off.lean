/-! signed numbers; the cell off a cell -/
def zI (z : Int) : Int32 := Int32.ofInt z
theorem zI_n (n : Nat) : nI n = zI (n : Int) := Int32.ofInt_eq_ofNat.symm
theorem zI_add (a b : Int) : zI a + zI b = zI (a + b) := (Int32.ofInt_add a b).symm
theorem zI_sub (a b : Int) : zI a - zI b = zI (a - b) := (Int32.ofInt_sub a b).symm
theorem zI_mul (a b : Int) : zI a * zI b = zI (a * b) := (Int32.ofInt_mul a b).symm
theorem zI_lt {a b : Int} (a1 : -2 ^ 31 ≤ a) (a2 : a < 2 ^ 31) (b1 : -2 ^ 31 ≤ b) (b2 : b < 2 ^ 31) : zI a < zI b ↔ a < b := by
  unfold zI
  rw [Int32.lt_iff_toInt_lt, Int32.toInt_ofInt_of_le a1 a2, Int32.toInt_ofInt_of_le b1 b2]
theorem zI_le {a b : Int} (a1 : -2 ^ 31 ≤ a) (a2 : a < 2 ^ 31) (b1 : -2 ^ 31 ≤ b) (b2 : b < 2 ^ 31) : zI a ≤ zI b ↔ a ≤ b := by
  unfold zI
  rw [Int32.le_iff_toInt_le, Int32.toInt_ofInt_of_le a1 a2, Int32.toInt_ofInt_of_le b1 b2]
theorem zI_0 : (0 : Int32) = zI 0 := by decide +kernel
def hp_dn (d : Nat) : Int := if d = 7 ∨ d < 2 then -1 else if d = 2 ∨ d = 6 then 0 else 1
def hp_rt (d : Nat) : Int := if 0 < d ∧ d < 4 then 1 else if d = 0 ∨ d = 4 then 0 else -1
def hp_rw (c n d far : Nat) : Int := ((n / c : Nat) : Int) + (far : Int) * hp_dn d
def hp_cl (c n d far : Nat) : Int := ((n % c : Nat) : Int) + (far : Int) * hp_rt d
/-- the cell so far off a cell, if it is on the grid -/
def hp_of (r c n d far : Nat) : Option Nat := if hp_rw c n d far < 0 then none else if (r : Int) ≤ hp_rw c n d far then none else if hp_cl c n d far < 0 then none else if (c : Int) ≤ hp_cl c n d far then none else some ((hp_rw c n d far).toNat * c + (hp_cl c n d far).toNat)
def hp_ov (x : Option Nat) (e : Int32) : Int32 := match x with
  | some m => nI m
  | none => e
theorem tab1 : ∀ d, d < 8 → hf_tab 1 d = zI (hp_dn d) := by decide +kernel
theorem tab2 : ∀ d, d < 8 → hf_tab 2 d = zI (hp_rt d) := by decide +kernel
theorem hp_dn_b (d : Nat) : -1 ≤ hp_dn d ∧ hp_dn d ≤ 1 := by
  unfold hp_dn
  split
  · exact ⟨by decide, by decide⟩
  · split <;> exact ⟨by decide, by decide⟩
theorem hp_rt_b (d : Nat) : -1 ≤ hp_rt d ∧ hp_rt d ≤ 1 := by
  unfold hp_rt
  split
  · exact ⟨by decide, by decide⟩
  · split <;> exact ⟨by decide, by decide⟩
theorem hp_fb {f : Nat} {z : Int} (hf : f ≤ 4) (h1 : -1 ≤ z) (h2 : z ≤ 1) : -4 ≤ (f : Int) * z ∧ (f : Int) * z ≤ 4 := by
  have : z = -1 ∨ z = 0 ∨ z = 1 := by omega
  rcases this with h | h | h
  · subst h; omega
  · subst h; omega
  · subst h; omega
theorem hp_rw_b {r c n d far : Nat} (hc : 0 < c) (hr : r ≤ 16) (hn : n < r * c) (hf : far ≤ 4) : -4 ≤ hp_rw c n d far ∧ hp_rw c n d far ≤ 19 := by
  unfold hp_rw
  have h1 := hp_fb hf (hp_dn_b d).1 (hp_dn_b d).2
  have h2 : n / c < r := Nat.div_lt_of_lt_mul (by rw [Nat.mul_comm]; exact hn)
  generalize n / c = q at h2 ⊢
  omega
theorem hp_cl_b {c n d far : Nat} (hc : 0 < c) (hc2 : c ≤ 16) (hf : far ≤ 4) : -4 ≤ hp_cl c n d far ∧ hp_cl c n d far ≤ 19 := by
  unfold hp_cl
  have h1 := hp_fb hf (hp_rt_b d).1 (hp_rt_b d).2
  have h2 : n % c < c := Nat.mod_lt _ hc
  omega
theorem hp_of_lt {r c n d far m : Nat} (h : hp_of r c n d far = some m) : m < r * c := by
  unfold hp_of at h
  split at h
  · cases h
  split at h
  · cases h
  split at h
  · cases h
  split at h
  · cases h
  cases h
  have h1 : (hp_rw c n d far).toNat + 1 ≤ r := by omega
  have h2 : (hp_cl c n d far).toNat < c := by omega
  have h3 : ((hp_rw c n d far).toNat + 1) * c ≤ r * c := Nat.mul_le_mul_right _ h1
  rw [Nat.add_mul] at h3
  omega
theorem of_val {row col : Int} {c : Nat} (h1 : ¬ row < 0) (h2 : ¬ col < 0) : zI row * nI c + zI col = nI (row.toNat * c + col.toNat) := by
  rw [zI_n, zI_n, zI_mul, zI_add]
  congr 1
  have e1 : ((row.toNat : Nat) : Int) = row := Int.toNat_of_nonneg (by omega)
  have e2 : ((col.toNat : Nat) : Int) = col := Int.toNat_of_nonneg (by omega)
  rw [Int.natCast_add, Int.natCast_mul, e1, e2]
theorem hp_rwz {n c d far : Nat} (hn : n < 2 ^ 31) (hc : 0 < c) (hc2 : c < 2 ^ 31) (hd : d < 8) : nI n / nI c + nI far * hf_tab 1 d = zI (hp_rw c n d far) := by
  rw [pk_div hn hc hc2, tab1 d hd, zI_n, zI_n, zI_mul, zI_add]; rfl
theorem hp_clz {n c d far : Nat} (hn : n < 2 ^ 31) (hc : 0 < c) (hc2 : c < 2 ^ 31) (hd : d < 8) : nI n - nI n / nI c * nI c + nI far * hf_tab 2 d = zI (hp_cl c n d far) := by
  rw [pk_rem hn hc hc2, tab2 d hd, zI_n, zI_n, zI_mul, zI_add]; rfl
theorem rd_t1 (I : hf_M) : hf_rd I 1 = hf_tab 1 := id rfl
theorem rd_t2 (I : hf_M) : hf_rd I 2 = hf_tab 2 := id rfl
theorem rd_t3 (I : hf_M) : hf_rd I 3 = hf_tab 3 := id rfl
theorem rd_t4 (I : hf_M) : hf_rd I 4 = hf_tab 4 := id rfl
theorem rd_t5 (I : hf_M) : hf_rd I 5 = hf_tab 5 := id rfl
theorem al_1 : hf_al 1 = 8 := id rfl
theorem al_2 : hf_al 2 = 8 := id rfl
theorem al_3 : hf_al 3 = 8 := id rfl
theorem al_4 : hf_al 4 = 6 := id rfl
theorem al_5 : hf_al 5 = 6 := id rfl
theorem of_end {r c n d far : Nat} {I : hf_M} (e : Int32) (h1 : r ≤ 16) (c1 : 0 < c) (c2 : c ≤ 16) (hn : n < r * c) (hf : far ≤ 4) : (if zI (hp_rw c n d far) < 0 then (some (some (Value.int e), I) : hf_R hf_M) else if nI r ≤ zI (hp_rw c n d far) then some (some (Value.int e), I) else if zI (hp_cl c n d far) < 0 then some (some (Value.int e), I) else if zI (hp_cl c n d far) < nI c then some (some (Value.int (zI (hp_rw c n d far) * nI c + zI (hp_cl c n d far))), I) else some (some (Value.int e), I)) = some (some (Value.int (hp_ov (hp_of r c n d far) e)), I) := by
  have b1 := hp_rw_b (d := d) c1 h1 hn hf
  have b2 := hp_cl_b (n := n) (d := d) c1 c2 hf
  unfold hp_of
  by_cases k1 : hp_rw c n d far < 0
  · rw [if_pos (by rw [zI_0, zI_lt (by omega) (by omega) (by omega) (by omega)]; exact k1), if_pos k1]; rfl
  rw [if_neg (by rw [zI_0, zI_lt (by omega) (by omega) (by omega) (by omega)]; exact k1), if_neg k1]
  by_cases k2 : (r : Int) ≤ hp_rw c n d far
  · rw [if_pos (by rw [zI_n, zI_le (by omega) (by omega) (by omega) (by omega)]; exact k2), if_pos k2]; rfl
  rw [if_neg (by rw [zI_n, zI_le (by omega) (by omega) (by omega) (by omega)]; exact k2), if_neg k2]
  by_cases k3 : hp_cl c n d far < 0
  · rw [if_pos (by rw [zI_0, zI_lt (by omega) (by omega) (by omega) (by omega)]; exact k3), if_pos k3]; rfl
  rw [if_neg (by rw [zI_0, zI_lt (by omega) (by omega) (by omega) (by omega)]; exact k3), if_neg k3]
  by_cases k4 : (c : Int) ≤ hp_cl c n d far
  · rw [if_neg (by rw [zI_n, zI_lt (by omega) (by omega) (by omega) (by omega)]; omega), if_pos k4]; rfl
  rw [if_pos (by rw [zI_n, zI_lt (by omega) (by omega) (by omega) (by omega)]; omega), if_neg k4, of_val k1 k3]; rfl
set_option maxRecDepth 100000 in
theorem of_c0 {N d : Nat} {I : hf_M} {x f : Int32} (hy : (I 7 5 = 0) = False) (hd : d < 8) : fX2_off N [.ref 7, .int x, .int (nI d), .int f] I = (if x / I 7 5 + f * hf_tab 1 d < 0 then some (some (Value.int (-1)), I) else if I 7 4 ≤ x / I 7 5 + f * hf_tab 1 d then some (some (Value.int (-1)), I) else if x - x / I 7 5 * I 7 5 + f * hf_tab 2 d < 0 then some (some (Value.int (-1)), I) else if x - x / I 7 5 * I 7 5 + f * hf_tab 2 d < I 7 5 then some (some (Value.int ((x / I 7 5 + f * hf_tab 1 d) * I 7 5 + (x - x / I 7 5 * I 7 5 + f * hf_tab 2 d))), I) else some (some (Value.int (-1)), I)) := by
  simp (disch := omega) only [fX2_off, EX2_off, r_iload, r_aload, r_istore, r_astore, r_iinc, r_const, r_dupi, r_dupr, r_dup2, r_goto, r_iadd, r_isub, r_imul, r_iand, r_ixor, r_iushr, r_idiv, r_irem, r_ifeq, r_icmpeq, r_ifne, r_icmpne, r_iflt, r_icmplt, r_ifge, r_icmpge, r_ifgt, r_icmpgt, r_ifle, r_icmple, r_tsw, r_getI, r_getR, r_putI, r_putZ, r_iald, r_iast, r_aald, r_gets, r_copy, r_iret, r_zret, r_vret, r_mmax, r_mmin, r_callV, r_callS, r_fn, hf_pop, List.getElem?_cons_zero, List.getElem?_cons_succ, List.set_cons_zero, List.set_cons_succ, List.replicate_succ, List.replicate_zero, List.cons_append, List.nil_append, List.append_nil, List.length_cons, List.length_nil, List.take_succ_cons, List.take_zero, List.drop_succ_cons, List.drop_zero, List.reverse_cons, List.reverse_nil, List.map_cons, List.map_nil, List.sum_cons, List.sum_nil, List.all_cons, List.all_nil, Option.toList_some, Option.toList_none, Value.category, Nat.reduceAdd, Nat.reduceSub, Nat.reduceLeDiff, Nat.reduceMul, Nat.reduceLT, Nat.reduceEqDiff, beq_self_eq_true, Bool.and_self, Bool.and_true, and_self, and_true, true_and, ite_true, ite_false, if_true, if_false, reduceIte, true_or, or_true, Nat.zero_add, Nat.le_refl, Nat.zero_le, not_false_eq_true, eq_self, true_implies, Int32.reduceLT, Int32.reduceLE, Int32.reduceGT, hf_rd6, hw6, iq_m6_m5, iq_m6_m4, iq_m6_m3, iq_m6_m2, iq_m6_m1, iq_m6_0, iq_m6_1, iq_m6_2, iq_m6_3, iq_m6_4, iq_m6_5, iq_m5_m6, iq_m5_m4, iq_m5_m3, iq_m5_m2, iq_m5_m1, iq_m5_0, iq_m5_1, iq_m5_2, iq_m5_3, iq_m5_4, iq_m5_5, iq_m4_m6, iq_m4_m5, iq_m4_m3, iq_m4_m2, iq_m4_m1, iq_m4_0, iq_m4_1, iq_m4_2, iq_m4_3, iq_m4_4, iq_m4_5, iq_m3_m6, iq_m3_m5, iq_m3_m4, iq_m3_m2, iq_m3_m1, iq_m3_0, iq_m3_1, iq_m3_2, iq_m3_3, iq_m3_4, iq_m3_5, iq_m2_m6, iq_m2_m5, iq_m2_m4, iq_m2_m3, iq_m2_m1, iq_m2_0, iq_m2_1, iq_m2_2, iq_m2_3, iq_m2_4, iq_m2_5, iq_m1_m6, iq_m1_m5, iq_m1_m4, iq_m1_m3, iq_m1_m2, iq_m1_0, iq_m1_1, iq_m1_2, iq_m1_3, iq_m1_4, iq_m1_5, iq_0_m6, iq_0_m5, iq_0_m4, iq_0_m3, iq_0_m2, iq_0_m1, iq_0_1, iq_0_2, iq_0_3, iq_0_4, iq_0_5, iq_1_m6, iq_1_m5, iq_1_m4, iq_1_m3, iq_1_m2, iq_1_m1, iq_1_0, iq_1_2, iq_1_3, iq_1_4, iq_1_5, iq_2_m6, iq_2_m5, iq_2_m4, iq_2_m3, iq_2_m2, iq_2_m1, iq_2_0, iq_2_1, iq_2_3, iq_2_4, iq_2_5, iq_3_m6, iq_3_m5, iq_3_m4, iq_3_m3, iq_3_m2, iq_3_m1, iq_3_0, iq_3_1, iq_3_2, iq_3_4, iq_3_5, iq_4_m6, iq_4_m5, iq_4_m4, iq_4_m3, iq_4_m2, iq_4_m1, iq_4_0, iq_4_1, iq_4_2, iq_4_3, iq_4_5, iq_5_m6, iq_5_m5, iq_5_m4, iq_5_m3, iq_5_m2, iq_5_m1, iq_5_0, iq_5_1, iq_5_2, iq_5_3, iq_5_4, lk_7, rd_t1, rd_t2, al_1, al_2, hy, nI_clamp, hf_inI]
theorem of_c {N r c n d far : Nat} {I : hf_M} (h4 : I 7 4 = nI r) (h5 : I 7 5 = nI c) (h1 : r ≤ 16) (c1 : 0 < c) (c2 : c ≤ 16) (hn : n < r * c) (hd : d < 8) (hf : far ≤ 4) : fX2_off N [.ref 7, .int (nI n), .int (nI d), .int (nI far)] I = some (some (Value.int (hp_ov (hp_of r c n d far) (-1))), I) := by
  have hb : r * c ≤ 16 * 16 := Nat.mul_le_mul h1 c2
  rw [of_c0 (by rw [h5]; exact eq_false (nI_ne0 c1 (by omega))) hd, h4, h5, hp_rwz (by omega) c1 (by omega) hd, hp_clz (by omega) c1 (by omega) hd]
  exact of_end (-1) h1 c1 c2 hn hf
theorem down_m (N : Nat) (J : hf_M) : ∀ d, d < 8 → fX8_down N [.int (nI d)] J = some (some (Value.int (hf_tab 1 d)), J) := by
  intro d hd
  match d, hd with
  | 0, _ => rfl
  | 1, _ => rfl
  | 2, _ => rfl
  | 3, _ => rfl
  | 4, _ => rfl
  | 5, _ => rfl
  | 6, _ => rfl
  | 7, _ => rfl
theorem right_m (N : Nat) (J : hf_M) : ∀ d, d < 8 → fX8_right N [.int (nI d)] J = some (some (Value.int (hf_tab 2 d)), J) := by
  intro d hd
  match d, hd with
  | 0, _ => rfl
  | 1, _ => rfl
  | 2, _ => rfl
  | 3, _ => rfl
  | 4, _ => rfl
  | 5, _ => rfl
  | 6, _ => rfl
  | 7, _ => rfl
theorem zI_sub1 {r : Nat} {z : Int} (hr : r ≤ 16) (z1 : -4 ≤ z) (z2 : z ≤ 19) : (nI r - 1 < zI z) = (nI r ≤ zI z) := by
  have e : nI r - 1 = zI ((r : Int) - 1) := by rw [zI_n, (by decide +kernel : (1 : Int32) = zI 1), zI_sub]
  rw [e, zI_n, propext (zI_lt (by omega) (by omega) (by omega) (by omega)), propext (zI_le (by omega) (by omega) (by omega) (by omega))]
  exact propext (by omega)
set_option maxRecDepth 100000 in
theorem of_mA {N d : Nat} {J : hf_M} {x f : Int32} (hy : (J 204 1 = 0) = False) (hd : d < 8) (h1 : fX8_in N [.int (x / J 204 1 + f * hf_tab 1 d), .int 0, .int (J 204 0 - 1)] J = some (some (Value.int 0), J)) : fX8_off N [.ref 204, .int x, .int (nI d), .int f] J = some (some (Value.int (-6)), J) := by
  simp only [fX8_off, EX8_off, r_iload, r_aload, r_istore, r_astore, r_iinc, r_const, r_dupi, r_dupr, r_dup2, r_goto, r_iadd, r_isub, r_imul, r_iand, r_ixor, r_iushr, r_idiv, r_irem, r_ifeq, r_icmpeq, r_ifne, r_icmpne, r_iflt, r_icmplt, r_ifge, r_icmpge, r_ifgt, r_icmpgt, r_ifle, r_icmple, r_tsw, r_getI, r_getR, r_putI, r_putZ, r_iald, r_iast, r_aald, r_gets, r_copy, r_iret, r_zret, r_vret, r_mmax, r_mmin, r_callV, r_callS, r_fn, hf_pop, List.getElem?_cons_zero, List.getElem?_cons_succ, List.set_cons_zero, List.set_cons_succ, List.replicate_succ, List.replicate_zero, List.cons_append, List.nil_append, List.append_nil, List.length_cons, List.length_nil, List.take_succ_cons, List.take_zero, List.drop_succ_cons, List.drop_zero, List.reverse_cons, List.reverse_nil, List.map_cons, List.map_nil, List.sum_cons, List.sum_nil, List.all_cons, List.all_nil, Option.toList_some, Option.toList_none, Value.category, Nat.reduceAdd, Nat.reduceSub, Nat.reduceLeDiff, Nat.reduceMul, Nat.reduceLT, Nat.reduceEqDiff, beq_self_eq_true, Bool.and_self, Bool.and_true, and_self, and_true, true_and, ite_true, ite_false, if_true, if_false, reduceIte, true_or, or_true, Nat.zero_add, Nat.le_refl, Nat.zero_le, not_false_eq_true, eq_self, true_implies, Int32.reduceLT, Int32.reduceLE, Int32.reduceGT, hf_rd6, hw6, iq_m6_m5, iq_m6_m4, iq_m6_m3, iq_m6_m2, iq_m6_m1, iq_m6_0, iq_m6_1, iq_m6_2, iq_m6_3, iq_m6_4, iq_m6_5, iq_m5_m6, iq_m5_m4, iq_m5_m3, iq_m5_m2, iq_m5_m1, iq_m5_0, iq_m5_1, iq_m5_2, iq_m5_3, iq_m5_4, iq_m5_5, iq_m4_m6, iq_m4_m5, iq_m4_m3, iq_m4_m2, iq_m4_m1, iq_m4_0, iq_m4_1, iq_m4_2, iq_m4_3, iq_m4_4, iq_m4_5, iq_m3_m6, iq_m3_m5, iq_m3_m4, iq_m3_m2, iq_m3_m1, iq_m3_0, iq_m3_1, iq_m3_2, iq_m3_3, iq_m3_4, iq_m3_5, iq_m2_m6, iq_m2_m5, iq_m2_m4, iq_m2_m3, iq_m2_m1, iq_m2_0, iq_m2_1, iq_m2_2, iq_m2_3, iq_m2_4, iq_m2_5, iq_m1_m6, iq_m1_m5, iq_m1_m4, iq_m1_m3, iq_m1_m2, iq_m1_0, iq_m1_1, iq_m1_2, iq_m1_3, iq_m1_4, iq_m1_5, iq_0_m6, iq_0_m5, iq_0_m4, iq_0_m3, iq_0_m2, iq_0_m1, iq_0_1, iq_0_2, iq_0_3, iq_0_4, iq_0_5, iq_1_m6, iq_1_m5, iq_1_m4, iq_1_m3, iq_1_m2, iq_1_m1, iq_1_0, iq_1_2, iq_1_3, iq_1_4, iq_1_5, iq_2_m6, iq_2_m5, iq_2_m4, iq_2_m3, iq_2_m2, iq_2_m1, iq_2_0, iq_2_1, iq_2_3, iq_2_4, iq_2_5, iq_3_m6, iq_3_m5, iq_3_m4, iq_3_m3, iq_3_m2, iq_3_m1, iq_3_0, iq_3_1, iq_3_2, iq_3_4, iq_3_5, iq_4_m6, iq_4_m5, iq_4_m4, iq_4_m3, iq_4_m2, iq_4_m1, iq_4_0, iq_4_1, iq_4_2, iq_4_3, iq_4_5, iq_5_m6, iq_5_m5, iq_5_m4, iq_5_m3, iq_5_m2, iq_5_m1, iq_5_0, iq_5_1, iq_5_2, iq_5_3, iq_5_4, lk_204, down_m N J d hd, right_m N J d hd, hy, h1]
set_option maxRecDepth 100000 in
theorem of_mB {N d : Nat} {J : hf_M} {x f : Int32} (hy : (J 204 1 = 0) = False) (hd : d < 8) (h1 : fX8_in N [.int (x / J 204 1 + f * hf_tab 1 d), .int 0, .int (J 204 0 - 1)] J = some (some (Value.int 1), J)) (h2 : fX8_in N [.int (x - x / J 204 1 * J 204 1 + f * hf_tab 2 d), .int 0, .int (J 204 1 - 1)] J = some (some (Value.int 0), J)) : fX8_off N [.ref 204, .int x, .int (nI d), .int f] J = some (some (Value.int (-6)), J) := by
  simp only [fX8_off, EX8_off, r_iload, r_aload, r_istore, r_astore, r_iinc, r_const, r_dupi, r_dupr, r_dup2, r_goto, r_iadd, r_isub, r_imul, r_iand, r_ixor, r_iushr, r_idiv, r_irem, r_ifeq, r_icmpeq, r_ifne, r_icmpne, r_iflt, r_icmplt, r_ifge, r_icmpge, r_ifgt, r_icmpgt, r_ifle, r_icmple, r_tsw, r_getI, r_getR, r_putI, r_putZ, r_iald, r_iast, r_aald, r_gets, r_copy, r_iret, r_zret, r_vret, r_mmax, r_mmin, r_callV, r_callS, r_fn, hf_pop, List.getElem?_cons_zero, List.getElem?_cons_succ, List.set_cons_zero, List.set_cons_succ, List.replicate_succ, List.replicate_zero, List.cons_append, List.nil_append, List.append_nil, List.length_cons, List.length_nil, List.take_succ_cons, List.take_zero, List.drop_succ_cons, List.drop_zero, List.reverse_cons, List.reverse_nil, List.map_cons, List.map_nil, List.sum_cons, List.sum_nil, List.all_cons, List.all_nil, Option.toList_some, Option.toList_none, Value.category, Nat.reduceAdd, Nat.reduceSub, Nat.reduceLeDiff, Nat.reduceMul, Nat.reduceLT, Nat.reduceEqDiff, beq_self_eq_true, Bool.and_self, Bool.and_true, and_self, and_true, true_and, ite_true, ite_false, if_true, if_false, reduceIte, true_or, or_true, Nat.zero_add, Nat.le_refl, Nat.zero_le, not_false_eq_true, eq_self, true_implies, Int32.reduceLT, Int32.reduceLE, Int32.reduceGT, hf_rd6, hw6, iq_m6_m5, iq_m6_m4, iq_m6_m3, iq_m6_m2, iq_m6_m1, iq_m6_0, iq_m6_1, iq_m6_2, iq_m6_3, iq_m6_4, iq_m6_5, iq_m5_m6, iq_m5_m4, iq_m5_m3, iq_m5_m2, iq_m5_m1, iq_m5_0, iq_m5_1, iq_m5_2, iq_m5_3, iq_m5_4, iq_m5_5, iq_m4_m6, iq_m4_m5, iq_m4_m3, iq_m4_m2, iq_m4_m1, iq_m4_0, iq_m4_1, iq_m4_2, iq_m4_3, iq_m4_4, iq_m4_5, iq_m3_m6, iq_m3_m5, iq_m3_m4, iq_m3_m2, iq_m3_m1, iq_m3_0, iq_m3_1, iq_m3_2, iq_m3_3, iq_m3_4, iq_m3_5, iq_m2_m6, iq_m2_m5, iq_m2_m4, iq_m2_m3, iq_m2_m1, iq_m2_0, iq_m2_1, iq_m2_2, iq_m2_3, iq_m2_4, iq_m2_5, iq_m1_m6, iq_m1_m5, iq_m1_m4, iq_m1_m3, iq_m1_m2, iq_m1_0, iq_m1_1, iq_m1_2, iq_m1_3, iq_m1_4, iq_m1_5, iq_0_m6, iq_0_m5, iq_0_m4, iq_0_m3, iq_0_m2, iq_0_m1, iq_0_1, iq_0_2, iq_0_3, iq_0_4, iq_0_5, iq_1_m6, iq_1_m5, iq_1_m4, iq_1_m3, iq_1_m2, iq_1_m1, iq_1_0, iq_1_2, iq_1_3, iq_1_4, iq_1_5, iq_2_m6, iq_2_m5, iq_2_m4, iq_2_m3, iq_2_m2, iq_2_m1, iq_2_0, iq_2_1, iq_2_3, iq_2_4, iq_2_5, iq_3_m6, iq_3_m5, iq_3_m4, iq_3_m3, iq_3_m2, iq_3_m1, iq_3_0, iq_3_1, iq_3_2, iq_3_4, iq_3_5, iq_4_m6, iq_4_m5, iq_4_m4, iq_4_m3, iq_4_m2, iq_4_m1, iq_4_0, iq_4_1, iq_4_2, iq_4_3, iq_4_5, iq_5_m6, iq_5_m5, iq_5_m4, iq_5_m3, iq_5_m2, iq_5_m1, iq_5_0, iq_5_1, iq_5_2, iq_5_3, iq_5_4, lk_204, down_m N J d hd, right_m N J d hd, hy, h1, h2]
set_option maxRecDepth 100000 in
theorem of_mC {N d : Nat} {J : hf_M} {x f : Int32} (hy : (J 204 1 = 0) = False) (hd : d < 8) (h1 : fX8_in N [.int (x / J 204 1 + f * hf_tab 1 d), .int 0, .int (J 204 0 - 1)] J = some (some (Value.int 1), J)) (h2 : fX8_in N [.int (x - x / J 204 1 * J 204 1 + f * hf_tab 2 d), .int 0, .int (J 204 1 - 1)] J = some (some (Value.int 1), J)) : fX8_off N [.ref 204, .int x, .int (nI d), .int f] J = some (some (Value.int ((x / J 204 1 + f * hf_tab 1 d) * J 204 1 + (x - x / J 204 1 * J 204 1 + f * hf_tab 2 d))), J) := by
  simp only [fX8_off, EX8_off, r_iload, r_aload, r_istore, r_astore, r_iinc, r_const, r_dupi, r_dupr, r_dup2, r_goto, r_iadd, r_isub, r_imul, r_iand, r_ixor, r_iushr, r_idiv, r_irem, r_ifeq, r_icmpeq, r_ifne, r_icmpne, r_iflt, r_icmplt, r_ifge, r_icmpge, r_ifgt, r_icmpgt, r_ifle, r_icmple, r_tsw, r_getI, r_getR, r_putI, r_putZ, r_iald, r_iast, r_aald, r_gets, r_copy, r_iret, r_zret, r_vret, r_mmax, r_mmin, r_callV, r_callS, r_fn, hf_pop, List.getElem?_cons_zero, List.getElem?_cons_succ, List.set_cons_zero, List.set_cons_succ, List.replicate_succ, List.replicate_zero, List.cons_append, List.nil_append, List.append_nil, List.length_cons, List.length_nil, List.take_succ_cons, List.take_zero, List.drop_succ_cons, List.drop_zero, List.reverse_cons, List.reverse_nil, List.map_cons, List.map_nil, List.sum_cons, List.sum_nil, List.all_cons, List.all_nil, Option.toList_some, Option.toList_none, Value.category, Nat.reduceAdd, Nat.reduceSub, Nat.reduceLeDiff, Nat.reduceMul, Nat.reduceLT, Nat.reduceEqDiff, beq_self_eq_true, Bool.and_self, Bool.and_true, and_self, and_true, true_and, ite_true, ite_false, if_true, if_false, reduceIte, true_or, or_true, Nat.zero_add, Nat.le_refl, Nat.zero_le, not_false_eq_true, eq_self, true_implies, Int32.reduceLT, Int32.reduceLE, Int32.reduceGT, hf_rd6, hw6, iq_m6_m5, iq_m6_m4, iq_m6_m3, iq_m6_m2, iq_m6_m1, iq_m6_0, iq_m6_1, iq_m6_2, iq_m6_3, iq_m6_4, iq_m6_5, iq_m5_m6, iq_m5_m4, iq_m5_m3, iq_m5_m2, iq_m5_m1, iq_m5_0, iq_m5_1, iq_m5_2, iq_m5_3, iq_m5_4, iq_m5_5, iq_m4_m6, iq_m4_m5, iq_m4_m3, iq_m4_m2, iq_m4_m1, iq_m4_0, iq_m4_1, iq_m4_2, iq_m4_3, iq_m4_4, iq_m4_5, iq_m3_m6, iq_m3_m5, iq_m3_m4, iq_m3_m2, iq_m3_m1, iq_m3_0, iq_m3_1, iq_m3_2, iq_m3_3, iq_m3_4, iq_m3_5, iq_m2_m6, iq_m2_m5, iq_m2_m4, iq_m2_m3, iq_m2_m1, iq_m2_0, iq_m2_1, iq_m2_2, iq_m2_3, iq_m2_4, iq_m2_5, iq_m1_m6, iq_m1_m5, iq_m1_m4, iq_m1_m3, iq_m1_m2, iq_m1_0, iq_m1_1, iq_m1_2, iq_m1_3, iq_m1_4, iq_m1_5, iq_0_m6, iq_0_m5, iq_0_m4, iq_0_m3, iq_0_m2, iq_0_m1, iq_0_1, iq_0_2, iq_0_3, iq_0_4, iq_0_5, iq_1_m6, iq_1_m5, iq_1_m4, iq_1_m3, iq_1_m2, iq_1_m1, iq_1_0, iq_1_2, iq_1_3, iq_1_4, iq_1_5, iq_2_m6, iq_2_m5, iq_2_m4, iq_2_m3, iq_2_m2, iq_2_m1, iq_2_0, iq_2_1, iq_2_3, iq_2_4, iq_2_5, iq_3_m6, iq_3_m5, iq_3_m4, iq_3_m3, iq_3_m2, iq_3_m1, iq_3_0, iq_3_1, iq_3_2, iq_3_4, iq_3_5, iq_4_m6, iq_4_m5, iq_4_m4, iq_4_m3, iq_4_m2, iq_4_m1, iq_4_0, iq_4_1, iq_4_2, iq_4_3, iq_4_5, iq_5_m6, iq_5_m5, iq_5_m4, iq_5_m3, iq_5_m2, iq_5_m1, iq_5_0, iq_5_1, iq_5_2, iq_5_3, iq_5_4, lk_204, down_m N J d hd, right_m N J d hd, hy, h1, h2]
theorem e_in0 {N : Nat} {J : hf_M} {x a b : Int32} (h : x < a ∨ b < x) : fX8_in N [.int x, .int a, .int b] J = some (some (Value.int 0), J) := by
  rw [e_in]
  by_cases h1 : x < a
  · rw [if_pos h1]
  · rw [if_neg h1, if_pos (h.resolve_left h1)]
theorem e_in1 {N : Nat} {J : hf_M} {x a b : Int32} (h1 : ¬ x < a) (h2 : ¬ b < x) : fX8_in N [.int x, .int a, .int b] J = some (some (Value.int 1), J) := by
  rw [e_in, if_neg h1, if_neg h2]
theorem of_m {N r c n d far : Nat} {J : hf_M} (h4 : J 204 0 = nI r) (h5 : J 204 1 = nI c) (h1 : r ≤ 16) (c1 : 0 < c) (c2 : c ≤ 16) (hn : n < r * c) (hd : d < 8) (hf : far ≤ 4) : fX8_off N [.ref 204, .int (nI n), .int (nI d), .int (nI far)] J = some (some (Value.int (hp_ov (hp_of r c n d far) (-6))), J) := by
  have hb : r * c ≤ 16 * 16 := Nat.mul_le_mul h1 c2
  have b1 := hp_rw_b (d := d) c1 h1 hn hf
  have b2 := hp_cl_b (n := n) (d := d) c1 c2 hf
  have hy : (J 204 1 = 0) = False := by rw [h5]; exact eq_false (nI_ne0 c1 (by omega))
  have er : nI n / J 204 1 + nI far * hf_tab 1 d = zI (hp_rw c n d far) := by rw [h5]; exact hp_rwz (by omega) c1 (by omega) hd
  have ec : nI n - nI n / J 204 1 * J 204 1 + nI far * hf_tab 2 d = zI (hp_cl c n d far) := by rw [h5]; exact hp_clz (by omega) c1 (by omega) hd
  have z1 := zI_sub1 h1 b1.1 b1.2
  have z2 := zI_sub1 c2 b2.1 b2.2
  rw [← of_end (-6) h1 c1 c2 hn hf]
  by_cases k1 : zI (hp_rw c n d far) < 0
  · rw [if_pos k1]; exact of_mA hy hd (by rw [er]; exact e_in0 (Or.inl k1))
  rw [if_neg k1]
  by_cases k2 : nI r ≤ zI (hp_rw c n d far)
  · rw [if_pos k2]; exact of_mA hy hd (by rw [er, h4]; exact e_in0 (Or.inr (by rw [z1]; exact k2)))
  rw [if_neg k2]
  have f1 : fX8_in N [.int (nI n / J 204 1 + nI far * hf_tab 1 d), .int 0, .int (J 204 0 - 1)] J = some (some (Value.int 1), J) := by rw [er, h4]; exact e_in1 k1 (by rw [z1]; exact k2)
  by_cases k3 : zI (hp_cl c n d far) < 0
  · rw [if_pos k3]; exact of_mB hy hd f1 (by rw [ec]; exact e_in0 (Or.inl k3))
  rw [if_neg k3]
  by_cases k4 : zI (hp_cl c n d far) < nI c
  · rw [if_pos k4, of_mC hy hd f1 (by rw [ec, h5]; exact e_in1 k3 (by rw [z2, Int32.not_le]; exact k4)), er, ec, h5]
  · rw [if_neg k4]; exact of_mB hy hd f1 (by rw [ec, h5]; exact e_in0 (Or.inr (by rw [z2]; exact Int32.not_lt.mp k4)))
