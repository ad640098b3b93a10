/-! a step, first part: lights and crews -/
theorem land_c {r c : Nat} {I I' J J' : hf_M} (hI : ∀ d, 7 ≤ d → d ≤ 11 → I' d = I d) (hJ : ∀ d, 204 ≤ d → d ≤ 208 → J' d = J d) (h : hr_land r c I J) : hr_land r c I' J' := by
  unfold hr_land at h ⊢
  rw [hI 7 (by decide) (by decide), hI 8 (by decide) (by decide), hI 9 (by decide) (by decide), hI 10 (by decide) (by decide), hI 11 (by decide) (by decide), hJ 204 (by decide) (by decide), hJ 205 (by decide) (by decide), hJ 206 (by decide) (by decide), hJ 207 (by decide) (by decide), hJ 208 (by decide) (by decide)]
  exact h
theorem wk_1 {N r c S : Nat} {I J : hf_M} (hN : 4096 ≤ N) (hS : hsc S) (hl : hr_land r c I J) (hk : hr_sky I J) (hli : hr_lit r c I J) (hs : hr_sc r c I S J 215 0) : ∃ (w st q kc : Nat) (kk : Int32) (I1 I3 I4 J4 : hf_M), w < 8 ∧ st ≤ 4 ∧ q ≤ 9 ∧ (∀ d, d ≠ 18 → I1 d = I d) ∧ I1 18 3 = I S 9 ∧ I1 18 4 = I 6 8 ∧ I1 18 5 = nI w ∧ I1 18 6 = nI st ∧ I1 18 7 = nI q ∧ fX7_work N [.ref 6, .ref S] I = hp_w2 N [.ref 6, .ref S, .int (nI kc)] [] I3 ∧ BX4_loseCrews_2 N N [.ref S, .int (nI 0)] [] I3 = some (none, I4) ∧ fX8_step1 N [.ref 204] J = BX8_step1_252 N N [.ref 204, .int (I S 9), .int kk, .int (nI w), .int (nI st), .int (nI q), .int (nI 0), .long 0, .long 0] [] J4 ∧ hq r c S I1 J I4 J4 := by
  have hb := hsc_b hS
  have hrc := hl.1.2.2.2.2.1
  have h16 : J 215 1816 = I S 9 := by
    have := hs.2.1.1
    rw [Nat.zero_add] at this
    exact this.symm
  obtain ⟨w, st, q, kk, w8, st4, q9, e1, m0⟩ := sky_q (sd := I 6 8) hN hk h16
  obtain ⟨I1, hI1⟩ : ∃ I1, I1 = hf_w (hf_w (hf_w (hf_w (hf_w I 18 3 (I S 9)) 18 4 (I 6 8)) 18 5 (nI w)) 18 6 (nI st)) 18 7 (nI q) := ⟨_, rfl⟩
  rw [← hI1] at e1
  have f1 : ∀ d, d ≠ 18 → I1 d = I d := fun d hd => by rw [hI1, hw_d hd, hw_d hd, hw_d hd, hw_d hd, hw_d hd]
  have g3 : I1 18 3 = I S 9 := by rw [hI1]; simp (disch := omega) only [hw6, hn_ne, ite_true, ite_false, if_true, if_false, reduceIte, Nat.reduceEqDiff, Nat.reduceAdd, Nat.zero_add]
  have g4 : I1 18 4 = I 6 8 := by rw [hI1]; simp (disch := omega) only [hw6, hn_ne, ite_true, ite_false, if_true, if_false, reduceIte, Nat.reduceEqDiff, Nat.reduceAdd, Nat.zero_add]
  have g5 : I1 18 5 = nI w := by rw [hI1]; simp (disch := omega) only [hw6, hn_ne, ite_true, ite_false, if_true, if_false, reduceIte, Nat.reduceEqDiff, Nat.reduceAdd, Nat.zero_add]
  have g6 : I1 18 6 = nI st := by rw [hI1]; simp (disch := omega) only [hw6, hn_ne, ite_true, ite_false, if_true, if_false, reduceIte, Nat.reduceEqDiff, Nat.reduceAdd, Nat.zero_add]
  have g7 : I1 18 7 = nI q := by rw [hI1]; simp (disch := omega) only [hw6, hn_ne, ite_true, ite_false, if_true, if_false, reduceIte, Nat.reduceEqDiff, Nat.reduceAdd, Nat.zero_add]
  have hS9 : I1 S 9 = I S 9 := by rw [f1 S (by omega)]
  have q0 : hq r c S I1 J I1 J := ⟨fun _ _ => rfl, fun _ _ => rfl, rfl, hr_sc_c (fun d d1 d2 => f1 d (by omega)) (f1 8 (by decide)) rfl hs⟩
  have hl1 : hr_land r c I1 J := land_c (fun d d1 d2 => f1 d (by omega)) (fun _ _ _ => rfl) hl
  obtain ⟨kl, kl20, l1, l2, l3⟩ := hli
  obtain ⟨I2, J2, e2, m2, q2⟩ := li_q (r := r) (c := c) (S := S) (k := kl) (I0 := I1) (J0 := J) N hS hrc kl20 ⟨by rw [f1 15 (by decide)]; exact l1, l2, by rw [f1 16 (by decide), f1 17 (by decide)]; exact l3⟩ (.int kk) (.int (nI w)) (.int (nI st)) (.int (nI q)) (.long 0) (.long 0) kl 0 N N I1 J (by omega) (by omega) (by omega) q0
  obtain ⟨kc, kc8, c1, c2, c3⟩ := q0.2.2.2.2.2.2
  obtain ⟨I3, J3, e3, m3, q3⟩ := crs_q (N := N) (I0 := I1) (J0 := J) (by omega) hl1 hS hrc kc8 c1 (.int (I1 S 9)) (.int kk) (.int (nI w)) (.int (nI st)) (.int (nI q)) (.long 0) (.long 0) kc 0 N N I2 J2 (by omega) (by omega) (by omega) q2
  obtain ⟨I4, J4, e4, m4, q4⟩ := los_q (N := N) (I0 := I1) (J0 := J) hS hrc kc8 c1 (.int (I1 S 9)) (.int kk) (.int (nI w)) (.int (nI st)) (.int (nI q)) (.long 0) (.long 0) kc 0 N N I3 J3 (by omega) (by omega) (by omega) q3
  refine ⟨w, st, q, kc, kk, I1, I3, I4, J4, w8, st4, q9, f1, g3, g4, g5, g6, g7, (gw_1 hS e1 e2).trans e3, e4, ?_, q4⟩
  rw [m0, ← hS9]
  exact m2.trans (m3.trans m4)
/-- second part: the cells burn -/
theorem wk_2 {N r c S w st q kc : Nat} {kk s : Int32} {I J I1 I3 I4 J4 : hf_M} (hN : 4096 ≤ N) (hS : hsc S) (hl : hr_land r c I J) (w8 : w < 8) (st4 : st ≤ 4) (f1 : ∀ d, d ≠ 18 → I1 d = I d) (g3 : I1 18 3 = I S 9) (g4 : I1 18 4 = I 6 8) (g5 : I1 18 5 = nI w) (g6 : I1 18 6 = nI st) (h12 : I 6 8 = J 204 12) (hz : ∀ n, n < 256 → I 20 n = 0 ∧ I 21 n = 0) (e4 : BX4_loseCrews_2 N N [.ref S, .int (nI 0)] [] I3 = some (none, I4)) (q4 : hq r c S I1 J I4 J4) : ∃ (k : Nat) (a : Nat → Nat) (bv : Nat → Int32) (al : Nat → Nat) (I6 J7 : hf_M) (u v : Value), (1 ≤ k ∧ k ≤ 8 ∧ a 0 = 0 ∧ a k = r ∧ ∀ i, i < k → a i < a (i + 1)) ∧ hp_w2 N [.ref 6, .ref S, .int (nI kc)] [] I3 = hp_w3 N [.ref 6, .ref S, .int (nI k)] [] I6 ∧ BX8_step1_252 N N [.ref 204, .int s, .int kk, .int (nI w), .int (nI st), .int (nI q), .int (nI 0), .long 0, .long 0] [] J4 = BX8_step1_467 N N [.ref 204, .int s, .int kk, .int (nI w), .int (nI st), .int (nI q), .int (nI 0), u, v] [] J7 ∧ (∀ n, n < r * c → I6 19 n = bv n ∧ J7 218 n = bv n ∧ I6 20 n = J7 219 n) ∧ (∀ n, r * c ≤ n → I6 20 n = I4 20 n) ∧ I6 S 12 = J7 215 1821 ∧ I6 S 10 = J7 215 1819 ∧ I6 S 11 = hp_bt (I4 (S + 1)) bv (I4 S 11) (r * c) ∧ (∀ i, i < k → I6 (S + 9) i = nI (a i) ∧ I6 (S + 10) i = nI (a (i + 1) - 1) ∧ J7 215 (1792 + 3 * i) = nI (a i) ∧ J7 215 (1792 + 3 * i + 1) = nI (a (i + 1) - 1) ∧ I6 (S + 11) i = nI ((a (i + 1) - a i) * c + 4 * al i) ∧ J7 215 (1792 + 3 * i + 2) = nI ((a (i + 1) - a i) * c + 4 * al i) ∧ al i ≤ 256) ∧ I6 (S + 8) 3 = nI k ∧ J7 215 1818 = nI k ∧ (∀ j, j ≠ 10 → j ≠ 11 → j ≠ 12 → I6 S j = I4 S j) ∧ (∀ d, d ≠ 20 → d ≠ 19 → d ≠ S + 11 → d ≠ S → I6 d = I4 d) ∧ (∀ x, x < 1792 ∨ 1816 ≤ x → x ≠ 1819 → x ≠ 1821 → J7 215 x = J4 215 x) ∧ (∀ d, d ≠ 215 → d ≠ 218 → d ≠ 219 → J7 d = J4 d) := by
  have hb := hsc_b hS
  have hrc := hl.1.2.2.2.2.1
  have hc2 : 0 < c := by have := hl.1.2.2.1; omega
  obtain ⟨k, a, k1, k8, a0, ak, am, h3, h8, hst⟩ := q4.2.2.2.2.2.1
  simp only [Nat.zero_add] at h8 hst
  have f4 : ∀ d, d < S ∨ S + 36 ≤ d → d ≠ 18 → I4 d = I d := fun d d1 d2 => by rw [q4.1 d d1, f1 d d2]
  have f18 : I4 18 = I1 18 := q4.1 18 (by omega)
  have j4 : ∀ d, d ≠ 215 → J4 d = J d := q4.2.1
  have hgc4 : hgc r c I4 := hgc_c (f4 7 (by omega) (by decide)) (hgc_of hl)
  have hgm4 : hgm r c J4 := hgm_c (j4 204 (by decide)) (hgm_of hl)
  have hcel := q4.2.2.2.1
  have hnum := q4.2.2.2.2.1
  obtain ⟨n9, n10, n11, n12, n13, n14⟩ := hnum
  simp only [Nat.zero_add] at n9 n10 n11 n12 n13 n14
  obtain ⟨I5, e5, w1, w2, w3⟩ := bw_l (N := N) (S := S) (k := k) (c := c) (a := a) hS k8 am k 0 N I4 (by omega) (by omega) h3 (fun i hi => ⟨(hst i hi).1, (hst i hi).2.1⟩)
  obtain ⟨J5, m5, y1, y2, y3⟩ := zw_l (N := N) (k := k) k8 (.int s) (.int kk) (.int (nI w)) (.int (nI st)) (.int (nI q)) (.long 0) (.long 0) k 0 N J4 (by omega) (by omega) h8
  obtain ⟨gr, hgr⟩ : ∃ gr : Nat → Nat, ∀ n, n < r * c → gr n ≤ 5 ∧ I 8 n = nI (gr n) ∧ J 205 n = nI (gr n) := ⟨fun n => (I 8 n).toNatClampNeg, fun n hn => by
    obtain ⟨⟨x, x1, x2, x3, _⟩, _⟩ := hl.2.2.2 n hn
    simp only []
    rw [x2, nI_clamp (by omega)]
    exact ⟨x1, rfl, x3⟩⟩
  obtain ⟨bv, hbv⟩ : ∃ bv : Nat → Int32, ∀ n, bv n = if I4 (S + 1) n = 2 then (if I4 (S + 2) n < hf_tab 4 (gr n) then I4 (S + 2) n else hf_tab 4 (gr n)) else 0 := ⟨_, fun _ => rfl⟩
  have hh4 : ∀ m, m < r * c → I4 11 m = I 11 m := fun m _ => by rw [f4 11 (by omega) (by decide)]
  have hBCC : hBC r c w st S k a (I 11) bv (I4 (S + 1)) gr (I 6 8) (I S 9) I5 := by
    refine ⟨hS, ⟨hgc_c (w3 7 (by omega)) hgc4, w8, st4, ?_, ?_, fun m hm => ?_⟩, k1, k8, a0, ak, am, ?_, ?_, fun n hn => ⟨?_, ?_, (hgr n hn).1, ?_⟩, ?_, fun i hi => ?_⟩
    · rw [w3 18 (by omega), f18]; exact g5
    · rw [w3 18 (by omega), f18]; exact g6
    · rw [w3 11 (by omega)]; exact hh4 m hm
    · rw [w3 18 (by omega), f18]; exact g4
    · rw [w3 18 (by omega), f18]; exact g3
    · rw [w3 (S + 1) (by omega)]
    · rw [w3 8 (by omega), f4 8 (by omega) (by decide)]; exact (hgr n hn).2.1
    · rw [w3 (S + 2) (by omega)]; exact hbv n
    · rw [w3 (S + 8) (by omega)]; exact h3
    · rw [w3 (S + 9) (by omega), w3 (S + 10) (by omega)]; exact ⟨(hst i hi).1, (hst i hi).2.1⟩
  have ha0 : a 0 * c = 0 := by rw [a0, Nat.zero_mul]
  obtain ⟨I6, e6, b1, b2, b3, b4, b5, b6, b7, b8⟩ := bo_l (N := N) (b0 := I4 S 11) (T0 := (I5 20, I5 S 12, I5 S 10)) (by omega) hBCC k 0 N I5 (by omega) (by omega) (by
    rw [ha0]
    exact ⟨rfl, rfl, rfl, by show I5 S 11 = I4 S 11; rw [w3 S (by omega)], fun j => by rw [if_neg (by omega)], fun i hi => by rw [w1 i (by omega) hi]; rfl, fun _ _ _ _ => rfl, fun _ _ _ _ _ => rfl⟩)
  have hBMM : ∀ L : hf_M, (∀ d, d ≠ 215 → d ≠ 218 → d ≠ 219 → L d = J4 d) → (∀ x, (∀ i, i < k → x ≠ 1792 + 3 * i + 2) → L 215 x = J4 215 x) → hBM r c w st k a (I 11) bv (I4 (S + 1)) gr (I 6 8) (I S 9) L := by
    intro L hL hL2
    refine ⟨hgm_c (hL 204 (by decide) (by decide) (by decide)) hgm4, w8, st4, k1, k8, a0, ak, am, ⟨?_, fun j hj => ⟨?_, ?_⟩⟩, ?_, ?_, fun n hn => ?_⟩
    · rw [hL2 1818 (fun i hi => by omega)]; exact h8
    · rw [hL2 (1792 + 3 * j) (fun i hi => by omega)]; exact (hst j hj).2.2.1
    · rw [hL2 (1792 + 3 * j + 1) (fun i hi => by omega)]; exact (hst j hj).2.2.2.1
    · rw [hL 204 (by decide) (by decide) (by decide), j4 204 (by decide)]; exact h12.symm
    · rw [hL2 1816 (fun i hi => by omega), ← n9, q4.2.2.1, f1 S (by omega)]
    · obtain ⟨x1, x2, x3, x4, x5, x6, x7, x8⟩ := hcel n hn
      simp only [Nat.zero_add] at x1 x2
      obtain ⟨gg1, gg2, gg3⟩ := hgr n hn
      refine ⟨by rw [hL2 n (fun i hi => by omega)]; exact x1.symm, by rw [hL 205 (by decide) (by decide) (by decide), j4 205 (by decide)]; exact gg3, by rw [hL 206 (by decide) (by decide) (by decide), j4 206 (by decide)]; exact (hl.2.2.2 n hn).2.2.2.symm, gg1, fun z => ?_, by rw [hL2 (256 + n) (fun i hi => by omega), ← x2]; exact hbv n⟩
      obtain ⟨y, z1, z2, z3⟩ := x7 (Or.inr z)
      rw [f4 8 (by omega) (by decide), gg2] at z3
      have := (nI_eq (by omega) (by omega)).mp z3
      omega
  obtain ⟨J6, u, v, m6, i1, i2, i3, i4⟩ := pn_l (N := N) (by omega) (hBMM J5 (fun d d1 d2 d3 => y3 d d1) (fun x hx => y2 x (fun j _ hj => hx j hj))) (.int s) (.int kk) (.int (nI w)) (.int (nI st)) (.int (nI q)) (r * c) 0 N J5 (.long 0) (.long 0) (by omega) (by omega) ⟨fun j hj => by omega, fun i hi => y1 i (by omega) hi, fun _ _ => rfl, fun _ _ _ _ => rfl⟩
  have i3' : ∀ x, (∀ i, i < k → x ≠ 1792 + 3 * i + 2) → J6 215 x = J4 215 x := fun x hx => by rw [i3 x hx, y2 x (fun j _ hj => hx j hj)]
  have i4' : ∀ d, d ≠ 215 → d ≠ 218 → d ≠ 219 → J6 d = J4 d := fun d d1 d2 d3 => by rw [i4 d d1 d2 d3, y3 d d1]
  obtain ⟨J7, m7, t1, t2, t3, t4, t5⟩ := mb_l (N := N) (T0 := (J6 219, J6 215 1821, J6 215 1819)) (by omega) (hBMM J6 i4' i3') (fun n hn => (i1 n hn).2) (.int s) (.int kk) (.int (nI q)) u v (r * c) 0 N J6 (by omega) (by omega) ⟨rfl, rfl, rfl, fun _ _ _ => rfl, fun _ _ _ => rfl⟩
  have hT := T_agree (r := r) (c := c) (w := w) (s := st) (h := I 11) (b := bv) (gr := gr) (sd := I 6 8) (sp := I S 9) (X := hp_X a k c) (st := I4 (S + 1)) (T := (I5 20, I5 S 12, I5 S 10)) (T' := (J6 219, J6 215 1821, J6 215 1819)) (fun m hm => by
    show I5 20 m = J6 219 m
    rw [w3 20 (by omega), f4 20 (by omega) (by decide), (hz m (by omega)).1, (i1 m hm).1]) (by
    show (I5 S 12, I5 S 10) = (J6 215 1821, J6 215 1819)
    rw [w3 S (by omega), i3' 1821 (fun i hi => by omega), i3' 1819 (fun i hi => by omega), n12, n10]) (r * c)
  refine ⟨k, a, bv, hp_al (I4 (S + 1)) (fun n => hp_si a k (n / c)) (r * c), I6, J7, u, v, ⟨k1, k8, a0, ak, am⟩, (gw_2 hS e4 (by exact hgc4.2.2.2.2.2.1) e5).trans e6, m5.trans (m6.trans m7), fun n hn => ⟨?_, ?_, ?_⟩, fun n hn => ?_, ?_, ?_, b4, fun i hi => ⟨?_, ?_, ?_, ?_, b6 i hi, ?_, ?_⟩, ?_, ?_, fun j j1 j2 j3 => ?_, fun d d1 d2 d3 d4 => ?_, fun x hx x1 x2 => ?_, fun d d1 d2 d3 => ?_⟩
  · rw [b5 n, if_pos hn]
  · rw [t5 218 (by decide) (by decide)]; exact (i1 n hn).2
  · rw [b1, t1]; exact hT.1 n hn
  · rw [b1, T_off (r * c) n hn]
    show I5 20 n = I4 20 n
    rw [w3 20 (by omega)]
  · rw [b2, t2, hT.2]
  · rw [b3, t3, hT.2]
  · rw [b8 (S + 9) (by omega) (by omega) (by omega) (by omega), w3 (S + 9) (by omega)]; exact (hst i hi).1
  · rw [b8 (S + 10) (by omega) (by omega) (by omega) (by omega), w3 (S + 10) (by omega)]; exact (hst i hi).2.1
  · rw [t4 _ (by omega) (by omega), i3' _ (fun j hj => by omega)]; exact (hst i hi).2.2.1
  · rw [t4 _ (by omega) (by omega), i3' _ (fun j hj => by omega)]; exact (hst i hi).2.2.2.1
  · rw [t4 _ (by omega) (by omega), i2 i hi]
    show nI (hp_cn (fun n => hp_si a k (n / c)) (r * c) i + 4 * hp_al (I4 (S + 1)) (fun n => hp_si a k (n / c)) (r * c) i) = _
    rw [hp_cn_eq am a0 k1 hc2 ak hi (r * c) (Nat.le_refl _)]
    have x1 : a (i + 1) * c ≤ r * c := Nat.mul_le_mul_right _ (by rw [← ak]; exact a_mono am k (i + 1) (by omega) (Nat.le_refl _))
    have x2 : a i * c ≤ r * c := Nat.mul_le_mul_right _ (by rw [← ak]; exact a_mono am k i (by omega) (Nat.le_refl _))
    rw [Nat.min_eq_right x1, Nat.min_eq_right x2, Nat.sub_mul]
  · have := hp_al_le (I4 (S + 1)) (fun n => hp_si a k (n / c)) (r * c) i
    omega
  · rw [b8 (S + 8) (by omega) (by omega) (by omega) (by omega), w3 (S + 8) (by omega)]; exact h3
  · rw [t4 1818 (by decide) (by decide), i3' 1818 (fun i hi => by omega)]; exact h8
  · rw [b7 j j1 j2 j3, w3 S (by omega)]
  · rw [b8 d d1 d2 d3 d4, w3 d d3]
  · rw [t4 x x2 x1, i3' x (fun i hi => by omega)]
  · rw [t5 d d1 d3, i4' d d1 d2 d3]
