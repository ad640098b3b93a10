/-! a step, whole -/
theorem fin_sc {r c S : Nat} {I4 J4 K L : hf_M} (hS : hsc S) (hrc : r * c ≤ 256) (h4 : hr_crews r c I4 S J4 215 0) (hcel : hr_cel r c K S L 215 0) (hstr : hr_str r K S L 215 0) (n9 : K S 9 = L 215 1816 + 1) (n10 : K S 10 = L 215 1819) (n11 : K S 11 = L 215 1820) (n12 : K S 12 = L 215 1821) (n13 : K S 13 = L 215 1822) (n14 : K S 14 = L 215 1823) (h8 : K S 8 = I4 S 8) (hK : ∀ d, S + 12 ≤ d → d < S + 36 → K d = I4 d) (hL : ∀ x, (1536 ≤ x ∧ x < 1792) ∨ x = 1817 → L 215 x = J4 215 x) : hr_sc r c K S (hf_w L 215 1816 (L 215 1816 + 1)) 215 0 := by
  have hb := hsc_b hS
  have hw : ∀ x, x ≠ 1816 → hf_w L 215 1816 (L 215 1816 + 1) 215 x = L 215 x := fun x hx => hw_o (Or.inr hx)
  refine ⟨?_, ?_, ?_, ?_⟩
  · intro n hn
    rw [hw (0 + n) (by omega), hw (0 + (256 + n)) (by omega), hw (0 + (512 + n)) (by omega), hw (0 + (768 + n)) (by omega), hw (0 + (1024 + n)) (by omega), hw (0 + (1280 + n)) (by omega)]
    exact hcel n hn
  · unfold hr_num
    simp only [Nat.zero_add]
    rw [hw_s, hw 1819 (by decide), hw 1820 (by decide), hw 1821 (by decide), hw 1822 (by decide), hw 1823 (by decide)]
    exact ⟨n9, n10, n11, n12, n13, n14⟩
  · obtain ⟨sk, sa, s1, s2, s3, s4, s5, s6, s7, s8⟩ := hstr
    refine ⟨sk, sa, s1, s2, s3, s4, s5, s6, by rw [hw _ (by decide)]; exact s7, fun i hi => ?_⟩
    rw [hw (0 + (1792 + 3 * i)) (by omega), hw (0 + (1792 + 3 * i + 1)) (by omega), hw (0 + (1792 + 3 * i + 2)) (by omega)]
    exact s8 i hi
  · obtain ⟨k, k8, b5, b6, b7⟩ := h4
    refine ⟨k, k8, by rw [h8]; exact b5, by rw [hw _ (by decide), hL _ (Or.inr (by decide))]; exact b6, fun i hi => ?_⟩
    obtain ⟨x1, x2, ⟨a, x3, x4, x5, x6, x7, x8⟩, x9⟩ := b7 i hi
    have hj : ∀ x, 1536 ≤ x → x < 1792 → hf_w L 215 1816 (L 215 1816 + 1) 215 x = J4 215 x := fun x h1 h2 => by rw [hw x (by omega)]; exact hL x (Or.inl ⟨h1, h2⟩)
    unfold hr_crew
    rw [hK (S + 12 + 3 * i) (by omega) (by omega), hK (S + 12 + 3 * i + 1) (by omega) (by omega), hK (S + 12 + 3 * i + 2) (by omega) (by omega), hj (0 + (1536 + 8 * i)) (by omega) (by omega), hj (0 + (1536 + 8 * i + 1)) (by omega) (by omega), hj (0 + (1536 + 8 * i + 2)) (by omega) (by omega), hj (0 + (1536 + 8 * i + 3)) (by omega) (by omega), hj (0 + (1536 + 8 * i + 4)) (by omega) (by omega), hj (0 + (1536 + 8 * i + 5)) (by omega) (by omega), hj (0 + (1536 + 8 * i + 6)) (by omega) (by omega), hj (0 + (1536 + 8 * i + 7)) (by omega) (by omega)]
    refine ⟨x1, x2, ⟨a, x3, x4, x5, x6, fun j hj2 => ?_, x8⟩, x9⟩
    rw [hj (0 + (1600 + 24 * i + 2 * j)) (by omega) (by omega), hj (0 + (1600 + 24 * i + 2 * j + 1)) (by omega) (by omega)]
    exact x7 j hj2
/-- one STEP of a scene: class and reference -/
theorem work_q {N r c S : Nat} {I J : hf_M} (hN : 4096 ≤ N) (hS : hsc S) (hl : hr_land r c I J) (hk : hr_sky I J) (hli : hr_lit r c I J) (hs : hr_sc r c I S J 215 0) (ho : hr_one I J) : ∃ I' J', fX7_work N [.ref 6, .ref S] I = some (none, I') ∧ fX8_step1 N [.ref 204] J = some (none, J') ∧ hr_sc r c I' S J' 215 0 ∧ I' S 9 = I S 9 + 1 ∧ (∀ n, n < 256 → I' 20 n = 0 ∧ I' 21 n = 0) ∧ (∀ d, d ≠ 18 → d ≠ 19 → d ≠ 20 → d ≠ 21 → d < S ∨ S + 36 ≤ d → I' d = I d) ∧ (∀ d, d ≠ 215 → d ≠ 218 → d ≠ 219 → d ≠ 220 → J' d = J d) := by
  have hb := hsc_b hS
  have hrc := hl.1.2.2.2.2.1
  obtain ⟨w, st, q, kc, kk, I1, I3, I4, J4, w8, st4, q9, f1, g3, g4, g5, g6, g7, cA, e4, mA, q4⟩ := wk_1 hN hS hl hk hli hs
  obtain ⟨k, a, bv, al, I6, J7, u, v, ⟨k1, k8, a0, ak, am⟩, cB, mB, z1, z2, z3, z4, z5, z6, z7, z8, z9, z10, z11, z12⟩ := wk_2 (q := q) (kc := kc) (kk := kk) (s := I S 9) hN hS hl w8 st4 f1 g3 g4 g5 g6 ho.1 ho.2.2.2 e4 q4
  have hcel4 := q4.2.2.2.1
  obtain ⟨n9, n10, n11, n12, n13, n14⟩ := q4.2.2.2.2.1
  simp only [Nat.zero_add] at n9 n10 n11 n12 n13 n14
  have f4 : ∀ d, d < S ∨ S + 36 ≤ d → d ≠ 18 → I4 d = I d := fun d d1 d2 => by rw [q4.1 d d1, f1 d d2]
  have j4 : ∀ d, d ≠ 215 → J4 d = J d := q4.2.1
  have h4S : I4 S = I S := by rw [q4.2.2.1, f1 S (by omega)]
  have h6_18 : I6 18 = I1 18 := by rw [z10 18 (by decide) (by decide) (by omega) (by omega), q4.1 18 (by omega)]
  have hgc6 : hgc r c I6 := hgc_c (by rw [z10 7 (by decide) (by decide) (by omega) (by omega), f4 7 (by omega) (by decide)]) (hgc_of hl)
  have hgm7 : hgm r c J7 := hgm_c (by rw [z12 204 (by decide) (by decide) (by decide), j4 204 (by decide)]) (hgm_of hl)
  have hQ0 : hQ r c S (I4 (S + 1)) bv (I4 S 11) I6 J7 I6 J7 0 := by
    refine ⟨fun n hn => ?_, fun m _ hm => ⟨by rw [z10 (S + 1) (by omega) (by omega) (by omega) (by omega)], (z1 m hm).2.2⟩, fun m hm => by omega, fun _ _ => rfl, ?_, fun _ _ _ => rfl, fun _ _ => rfl, fun _ _ _ => rfl⟩
    · rw [z10 8 (by decide) (by decide) (by omega) (by omega), z10 (S + 1) (by omega) (by omega) (by omega) (by omega), z10 (S + 2) (by omega) (by omega) (by omega) (by omega), z10 (S + 3) (by omega) (by omega) (by omega) (by omega), z10 (S + 4) (by omega) (by omega) (by omega) (by omega), z10 (S + 5) (by omega) (by omega) (by omega) (by omega), z10 (S + 6) (by omega) (by omega) (by omega) (by omega), z11 (0 + n) (by omega) (by omega) (by omega), z11 (0 + (256 + n)) (by omega) (by omega) (by omega), z11 (0 + (512 + n)) (by omega) (by omega) (by omega), z11 (0 + (768 + n)) (by omega) (by omega) (by omega), z11 (0 + (1024 + n)) (by omega) (by omega) (by omega), z11 (0 + (1280 + n)) (by omega) (by omega) (by omega)]
      exact hcel4 n hn
    · show J7 215 1820 = I4 S 11
      rw [z11 1820 (by omega) (by decide) (by decide)]; exact n11.symm
  have h6S9 : I6 S 9 = I S 9 := by rw [z9 9 (by decide) (by decide) (by decide), h4S]
  have h7_16 : J7 215 1816 = I S 9 := by rw [z11 1816 (by omega) (by decide) (by decide), ← n9, h4S]
  obtain ⟨gr, hgr⟩ : ∃ gr : Nat → Nat, ∀ n, n < r * c → I6 8 n = nI (gr n) ∧ J7 205 n = nI (gr n) ∧ gr n ≤ 5 := ⟨fun n => (I 8 n).toNatClampNeg, fun n hn => by
    obtain ⟨⟨x, x1, x2, x3, _⟩, _⟩ := hl.2.2.2 n hn
    simp only []
    rw [z10 8 (by decide) (by decide) (by omega) (by omega), f4 8 (by omega) (by decide), z12 205 (by decide) (by decide) (by decide), j4 205 (by decide), x2, nI_clamp (by omega)]
    exact ⟨rfl, x3, x1⟩⟩
  obtain ⟨I7, J8, e7, m8, Q1, Q2, Q3, Q4, Q5, Q6, Q7, Q8⟩ := hQ_l (N := N) (q := q) (gr := gr) (sd := I 6 8) (sp := I S 9) (s := .int (I S 9)) (a := .int kk) (b := .int (nI w)) (e := .int (nI st)) (u := u) (v := v) hS hgc6 hgm7 (by rw [h6_18]; exact g7) (by rw [h6_18]; exact g4) (by rw [h6_18]; exact g3) h6S9 (by rw [z12 204 (by decide) (by decide) (by decide), j4 204 (by decide)]; exact ho.1.symm) h7_16 (fun m hm => ⟨(z1 m hm).1, (z1 m hm).2.1⟩) hgr (r * c) 0 N N I6 J7 (by omega) (by omega) (by omega) hQ0
  have h7_18 : I7 18 = I1 18 := by rw [Q6 18 (by decide) (by omega), h6_18]
  have hgc7 : hgc r c I7 := hgc_c (Q6 7 (by decide) (by omega)) hgc6
  have hgm8 : hgm r c J8 := hgm_c (Q7 204 (by decide)) hgm7
  have h7_21 : ∀ n, I7 21 n = I 21 n := fun n => by rw [Q6 21 (by decide) (by omega), z10 21 (by decide) (by decide) (by omega) (by omega), f4 21 (by omega) (by decide)]
  have ha0 : a 0 * c = 0 := by rw [a0, Nat.zero_mul]
  obtain ⟨I8, e8, S1, S2, S3, S4, S5⟩ := lo_l (N := N) (x := fun n => I7 (S + 5) n + I7 19 n) (p0 := I7 S 12) (by omega) hS hgc7 (by rw [h7_18]; exact g5) w8 (by rw [h7_18]; exact g6) k8 a0 ak am (fun _ _ => rfl) (by rw [Q6 (S + 8) (by omega) (by omega)]; exact z7) (fun i hi => by rw [Q6 (S + 9) (by omega) (by omega), Q6 (S + 10) (by omega) (by omega)]; exact ⟨(z6 i hi).1, (z6 i hi).2.1⟩) k 0 N I7 (by omega) (by omega) (by
    rw [ha0]
    refine ⟨fun j hj => ?_, fun _ _ => rfl, rfl, fun _ _ => rfl, fun _ _ _ => rfl⟩
    rw [if_neg (by omega), h7_21, (ho.2.2.2 j (by omega)).2]
    rfl)
  obtain ⟨I9, e9, L1, L2, L3⟩ := ld_l (N := N) (r := r) (c := c) (S := S) hS (r * c) 0 N I8 (by omega) (by omega) (hgc_c (S5 7 (by decide) (by omega)) hgc7)
  obtain ⟨J9, m9, M1, M2, M3, M4⟩ := sm_f (N := N) (s := st) (a := a) (x := fun n => I7 (S + 5) n + I7 19 n) (p0 := I7 S 12) (by omega) hgm8 w8 k1 k8 a0 ak am ⟨by rw [Q8 1818 (by decide) (by decide)]; exact z8, fun j hj => by rw [Q8 (1792 + 3 * j) (by omega) (by omega), Q8 (1792 + 3 * j + 1) (by omega) (by omega)]; exact ⟨(z6 j hj).2.2.1, (z6 j hj).2.2.2.1⟩⟩ (fun n hn => by
    have := (Q1 n hn).2.2.2.2.1
    rw [Nat.zero_add] at this
    rw [← this, Q7 218 (by decide), (z1 n hn).2.1, Q6 19 (by decide) (by omega), (z1 n hn).1]) (by rw [Q8 1821 (by decide) (by decide), Q6 S (by omega) (by omega)]; exact z3.symm)
  have i9 : ∀ d, d ≠ 21 → d ≠ S + 5 → d ≠ S → I9 d = I7 d := fun d d1 d2 d3 => by rw [L3 d d1 d2, S5 d d1 d3]
  have i9S : ∀ j, j ≠ 12 → I9 S j = I7 S j := fun j hj => by rw [L3 S (by omega) (by omega), S4 j hj]
  have i7S : ∀ j, I7 S j = I6 S j := fun j => by rw [Q6 S (by omega) (by omega)]
  have j9 : ∀ x, x ≠ 1821 → (x < 1024 ∨ 1280 ≤ x) → J9 215 x = J8 215 x := M3
  have cEq : fX7_work N [.ref 6, .ref S] I = hp_w4 N [.ref 6, .ref S, .int (nI k)] [] I8 := cA.trans (cB.trans ((gw_3 e7).trans e8))
  have mEq : fX8_step1 N [.ref 204] J = hp_m5 N [.ref 204, .int (I S 9), .int kk, .int (nI w), .int (nI st), .int (nI q), .int (nI (r * c)), u, v] [] J8 := mA.trans (mB.trans m8)
  have kS : ∀ d, d ≠ S → hf_w I9 S 9 (I9 S 9 + 1) d = I9 d := fun d hd => hw_d hd
  have celK : hr_cel r c (hf_w I9 S 9 (I9 S 9 + 1)) S J9 215 0 := by
    intro n hn
    have hq := Q1 n hn
    simp only [Nat.zero_add] at hq ⊢
    rw [kS 8 (by omega), kS (S + 1) (by omega), kS (S + 2) (by omega), kS (S + 3) (by omega), kS (S + 4) (by omega), kS (S + 5) (by omega), kS (S + 6) (by omega), i9 8 (by decide) (by omega) (by omega), i9 (S + 1) (by omega) (by omega) (by omega), i9 (S + 2) (by omega) (by omega) (by omega), i9 (S + 3) (by omega) (by omega) (by omega), i9 (S + 4) (by omega) (by omega) (by omega), i9 (S + 6) (by omega) (by omega) (by omega), j9 n (by omega) (by omega), j9 (256 + n) (by omega) (by omega), j9 (512 + n) (by omega) (by omega), j9 (768 + n) (by omega) (by omega), j9 (1280 + n) (by omega) (by omega), (L1 n (by omega) hn).1, S1 n hn, if_pos hn, M1 n hn]
    exact ⟨hq.1, hq.2.1, hq.2.2.1, hq.2.2.2.1, Int32.add_comm _ _, hq.2.2.2.2.2.1, hq.2.2.2.2.2.2⟩
  have strK : hr_str r (hf_w I9 S 9 (I9 S 9 + 1)) S J9 215 0 := by
    refine ⟨k, a, k1, k8, a0, ak, am, ?_, ?_, fun i hi => ?_⟩
    · rw [kS (S + 8) (by omega), i9 (S + 8) (by omega) (by omega) (by omega), Q6 (S + 8) (by omega) (by omega)]; exact z7
    · rw [Nat.zero_add, j9 1818 (by decide) (by omega), Q8 1818 (by decide) (by decide)]; exact z8
    · simp only [Nat.zero_add]
      obtain ⟨y1, y2, y3, y4, y5, y6, y7⟩ := z6 i hi
      rw [kS (S + 9) (by omega), kS (S + 10) (by omega), kS (S + 11) (by omega), i9 (S + 9) (by omega) (by omega) (by omega), i9 (S + 10) (by omega) (by omega) (by omega), i9 (S + 11) (by omega) (by omega) (by omega), Q6 (S + 9) (by omega) (by omega), Q6 (S + 10) (by omega) (by omega), Q6 (S + 11) (by omega) (by omega), j9 (1792 + 3 * i) (by omega) (by omega), j9 (1792 + 3 * i + 1) (by omega) (by omega), j9 (1792 + 3 * i + 2) (by omega) (by omega), Q8 (1792 + 3 * i) (by omega) (by omega), Q8 (1792 + 3 * i + 1) (by omega) (by omega), Q8 (1792 + 3 * i + 2) (by omega) (by omega)]
      exact ⟨y1, y2, y3, y4, y5.trans y6.symm⟩
  have hK9 : hf_w I9 S 9 (I9 S 9 + 1) S 9 = I S 9 + 1 := by rw [hw_s, i9S 9 (by decide), i7S, h6S9]
  have hJ16 : J9 215 1816 = I S 9 := by rw [j9 1816 (by decide) (by omega), Q8 1816 (by decide) (by decide)]; exact h7_16
  have hKj : ∀ j, j ≠ 9 → hf_w I9 S 9 (I9 S 9 + 1) S j = I9 S j := fun j hj => hw_o (Or.inr hj)
  have hJx : ∀ x, 1536 ≤ x → x < 1792 ∨ 1816 ≤ x → x ≠ 1819 → x ≠ 1820 → x ≠ 1821 → J9 215 x = J4 215 x := fun x x0 x1 x2 x3 x4 => by rw [j9 x x4 (by omega), Q8 x x0 x3, z11 x x1 x2 x4]
  have n10' : hf_w I9 S 9 (I9 S 9 + 1) S 10 = J9 215 1819 := by rw [hKj 10 (by decide), i9S 10 (by decide), i7S, z4, j9 1819 (by decide) (by omega), Q8 1819 (by decide) (by decide)]
  have n11' : hf_w I9 S 9 (I9 S 9 + 1) S 11 = J9 215 1820 := by rw [hKj 11 (by decide), i9S 11 (by decide), i7S, z5, j9 1820 (by decide) (by omega), Q5]
  have n12' : hf_w I9 S 9 (I9 S 9 + 1) S 12 = J9 215 1821 := by rw [hKj 12 (by decide), L3 S (by omega) (by omega), S3, M2]
  have n13' : hf_w I9 S 9 (I9 S 9 + 1) S 13 = J9 215 1822 := by rw [hKj 13 (by decide), i9S 13 (by decide), i7S, z9 13 (by decide) (by decide) (by decide), hJx 1822 (by decide) (by omega) (by decide) (by decide) (by decide)]; exact n13
  have n14' : hf_w I9 S 9 (I9 S 9 + 1) S 14 = J9 215 1823 := by rw [hKj 14 (by decide), i9S 14 (by decide), i7S, z9 14 (by decide) (by decide) (by decide), hJx 1823 (by decide) (by omega) (by decide) (by decide) (by decide)]; exact n14
  have h8' : hf_w I9 S 9 (I9 S 9 + 1) S 8 = I4 S 8 := by rw [hKj 8 (by decide), i9S 8 (by decide), i7S, z9 8 (by decide) (by decide) (by decide)]
  have hcr' : ∀ d, S + 12 ≤ d → d < S + 36 → hf_w I9 S 9 (I9 S 9 + 1) d = I4 d := fun d d1 d2 => by rw [kS d (by omega), i9 d (by omega) (by omega) (by omega), Q6 d (by omega) (by omega), z10 d (by omega) (by omega) (by omega) (by omega)]
  have hLx' : ∀ x, (1536 ≤ x ∧ x < 1792) ∨ x = 1817 → J9 215 x = J4 215 x := fun x hx => hJx x (by omega) (by omega) (by omega) (by omega) (by omega)
  have fr20 : ∀ n, n < 256 → I9 20 n = 0 ∧ I9 21 n = 0 := fun n hn => by
    refine ⟨?_, ?_⟩
    · rw [i9 20 (by decide) (by omega) (by omega)]
      by_cases l : n < r * c
      · exact Q3 n l
      · rw [Q4 n (by omega), z2 n (by omega), f4 20 (by omega) (by decide)]; exact (ho.2.2.2 n hn).1
    · by_cases l : n < r * c
      · exact (L1 n (by omega) l).2
      · rw [(L2 n (Or.inr (by omega))).2, S2 n (by omega), h7_21]; exact (ho.2.2.2 n hn).2
  have frI : ∀ d, d ≠ 18 → d ≠ 19 → d ≠ 20 → d ≠ 21 → d < S ∨ S + 36 ≤ d → I9 d = I d := fun d d1 d2 d3 d4 d5 => by rw [i9 d d4 (by omega) (by omega), Q6 d d3 (by omega), z10 d d3 d2 (by omega) (by omega), f4 d d5 d1]
  have frJ : ∀ d, d ≠ 215 → d ≠ 218 → d ≠ 219 → d ≠ 220 → J9 d = J d := fun d d1 d2 d3 d4 => by rw [M4 d d1 d4, Q7 d d1, z12 d d1 d2 d3, j4 d d1]
  have hbI : I9 6 9 = I 6 9 := by rw [frI 6 (by decide) (by decide) (by decide) (by decide) (by omega)]
  have hbJ : J9 204 16 = I 6 9 := by rw [frJ 204 (by decide) (by decide) (by decide) (by decide)]; exact ho.2.1.symm
  rcases ho.2.2.1 with h0 | h1
  · refine ⟨_, _, cEq.trans (gw_4 hS e9 (by rw [hbI]; exact h0)), mEq.trans (gm5_0 m9 (by rw [hbJ]; exact h0)), fin_sc hS hrc q4.2.2.2.2.2.2 celK strK (by rw [hK9, hJ16]) n10' n11' n12' n13' n14' h8' hcr' hLx', hK9, fun n hn => ?_, fun d d1 d2 d3 d4 d5 => ?_, fun d d1 d2 d3 d4 => ?_⟩
    · rw [kS 20 (by omega), kS 21 (by omega)]; exact fr20 n hn
    · rw [kS d (by omega)]; exact frI d d1 d2 d3 d4 d5
    · rw [hw_d d1]; exact frJ d d1 d2 d3 d4
  · have hw0 : ∃ w, w < 2 ^ 29 ∧ hf_w I9 S 9 (I9 S 9 + 1) (S + 11) 0 = nI w := by
      refine ⟨(a (0 + 1) - a 0) * c + 4 * al 0, ?_, ?_⟩
      · have y7 := (z6 0 (by omega)).2.2.2.2.2.2
        have y8 : a 1 ≤ 16 := by
          have := a_mono am k 1 (by omega) (Nat.le_refl _)
          have := hl.1.2.1
          omega
        have y9 : (a (0 + 1) - a 0) * c ≤ 16 * 16 := Nat.mul_le_mul (by show a 1 - a 0 ≤ 16; omega) hl.1.2.2.2.1
        omega
      · rw [kS (S + 11) (by omega), i9 (S + 11) (by omega) (by omega) (by omega), Q6 (S + 11) (by omega) (by omega)]
        exact (z6 0 (by omega)).2.2.2.2.1
    obtain ⟨K', L', b1, b2, b3, b4, b5, B1, B2, B3, B4⟩ := bal_q hN hl.1.2.1 hS strK hw0 n13' n14'
    have hK' : ∀ j, j ≠ 13 → j ≠ 14 → K' S j = hf_w I9 S 9 (I9 S 9 + 1) S j := B2
    have celB : hr_cel r c K' S L' 215 0 := by
      intro n hn
      rw [B1 8 (by omega) (by omega) (by omega) (by omega) (by omega), B1 (S + 1) (by omega) (by omega) (by omega) (by omega) (by omega), B1 (S + 2) (by omega) (by omega) (by omega) (by omega) (by omega), B1 (S + 3) (by omega) (by omega) (by omega) (by omega) (by omega), B1 (S + 4) (by omega) (by omega) (by omega) (by omega) (by omega), B1 (S + 5) (by omega) (by omega) (by omega) (by omega) (by omega), B1 (S + 6) (by omega) (by omega) (by omega) (by omega) (by omega), B4 (0 + n) (by omega) (by omega) (by omega) (by omega), B4 (0 + (256 + n)) (by omega) (by omega) (by omega) (by omega), B4 (0 + (512 + n)) (by omega) (by omega) (by omega) (by omega), B4 (0 + (768 + n)) (by omega) (by omega) (by omega) (by omega), B4 (0 + (1024 + n)) (by omega) (by omega) (by omega) (by omega), B4 (0 + (1280 + n)) (by omega) (by omega) (by omega) (by omega)]
      exact celK n hn
    refine ⟨_, _, cEq.trans (gw_5 hS e9 (by rw [hbI]; exact h1) b1), mEq.trans (gm5_1 m9 (by rw [hbJ]; exact h1) b2), fin_sc hS hrc q4.2.2.2.2.2.2 celB b3 ?_ ?_ ?_ ?_ b4 b5 ?_ (fun d d1 d2 => ?_) (fun x hx => ?_), ?_, fun n hn => ?_, fun d d1 d2 d3 d4 d5 => ?_, fun d d1 d2 d3 d4 => ?_⟩
    · rw [hK' 9 (by decide) (by decide), B4 1816 (by omega) (by decide) (by decide) (by decide), hK9, hJ16]
    · rw [hK' 10 (by decide) (by decide), B4 1819 (by omega) (by decide) (by decide) (by decide)]; exact n10'
    · rw [hK' 11 (by decide) (by decide), B4 1820 (by omega) (by decide) (by decide) (by decide)]; exact n11'
    · rw [hK' 12 (by decide) (by decide), B4 1821 (by omega) (by decide) (by decide) (by decide)]; exact n12'
    · rw [hK' 8 (by decide) (by decide)]; exact h8'
    · rw [B1 d (by omega) (by omega) (by omega) (by omega) (by omega)]; exact hcr' d d1 d2
    · rw [B4 x (by omega) (by omega) (by omega) (by omega)]; exact hLx' x hx
    · rw [hK' 9 (by decide) (by decide)]; exact hK9
    · rw [B1 20 (by omega) (by omega) (by omega) (by omega) (by omega), B1 21 (by omega) (by omega) (by omega) (by omega) (by omega), kS 20 (by omega), kS 21 (by omega)]; exact fr20 n hn
    · rw [B1 d (by omega) (by omega) (by omega) (by omega) (by omega), kS d (by omega)]; exact frI d d1 d2 d3 d4 d5
    · rw [hw_d d1, B3 d d1]; exact frJ d d1 d2 d3 d4
