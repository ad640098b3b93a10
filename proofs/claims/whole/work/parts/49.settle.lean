/-! settle against turns -/
def hQ (r c S : Nat) (st bv : Nat → Int32) (b0 : Int32) (Kb Lb K L : hf_M) (n : Nat) : Prop := hr_cel r c K S L 215 0 ∧ (∀ m, n ≤ m → m < r * c → K (S + 1) m = st m ∧ K 20 m = L 219 m) ∧ (∀ m, m < n → K 20 m = 0) ∧ (∀ m, r * c ≤ m → K 20 m = Kb 20 m) ∧ L 215 1820 = hp_bt st bv b0 n ∧ (∀ d, d ≠ 20 → d ≤ S ∨ S + 6 < d → K d = Kb d) ∧ (∀ d, d ≠ 215 → L d = Lb d) ∧ (∀ x, 1536 ≤ x → x ≠ 1820 → L 215 x = Lb 215 x)
theorem hQ_n {r c S n : Nat} {st bv : Nat → Int32} {b0 : Int32} {Kb Lb K L K' L' : hf_M} (hS : hsc S) (hrc : r * c ≤ 256) (hn : n < r * c) (h : hQ r c S st bv b0 Kb Lb K L n) (h1 : ∀ d, d ≠ 20 → d ≤ S ∨ S + 6 < d → K' d = K d) (h2 : ∀ d j, j ≠ n → K' d j = K d j) (h3 : K' 20 n = 0) (h4 : ∀ d, d ≠ 215 → L' d = L d) (h5 : ∀ x, (x ≠ n ∧ x ≠ 256 + n ∧ x ≠ 512 + n ∧ x ≠ 768 + n ∧ x ≠ 1024 + n ∧ x ≠ 1280 + n ∧ x ≠ 1820) → L' 215 x = L 215 x) (h6 : L' 215 1820 = hp_bt st bv b0 (n + 1))
  (hc : K' (S + 1) n = L' 215 n ∧ K' (S + 2) n = L' 215 (256 + n) ∧ K' (S + 3) n = L' 215 (512 + n) ∧ K' (S + 4) n = L' 215 (768 + n) ∧ K' (S + 5) n = L' 215 (1024 + n) ∧ K' (S + 6) n = L' 215 (1280 + n) ∧ (K' (S + 1) n = 1 ∨ K' (S + 1) n = 2 → K (S + 1) n = 1 ∨ K (S + 1) n = 2) ∧ (K' (S + 1) n = 1 → K' (S + 6) n = -6)) : hQ r c S st bv b0 Kb Lb K' L' (n + 1) := by
  have hb := hsc_b hS
  obtain ⟨q1, q2, q3, q4, q5, q6, q7, q8⟩ := h
  refine ⟨?_, fun m m1 m2 => ?_, fun m hm => ?_, fun m hm => ?_, h6, fun d d1 d2 => ?_, fun d hd => ?_, fun x x1 x2 => ?_⟩
  · intro m hm
    rw [h1 8 (by decide) (by omega)]
    by_cases e : m = n
    · subst e
      simp only [Nat.zero_add]
      obtain ⟨c1, c2, c3, c4, c5, c6, c7, c8⟩ := hc
      exact ⟨c1, c2, c3, c4, c5, c6, fun x => (q1 m hm).2.2.2.2.2.2.1 (c7 x), c8⟩
    · rw [h2 _ m e, h2 _ m e, h2 _ m e, h2 _ m e, h2 _ m e, h2 _ m e, h5 (0 + m) (by omega), h5 (0 + (256 + m)) (by omega), h5 (0 + (512 + m)) (by omega), h5 (0 + (768 + m)) (by omega), h5 (0 + (1024 + m)) (by omega), h5 (0 + (1280 + m)) (by omega)]
      exact q1 m hm
  · rw [h2 _ m (by omega), h2 _ m (by omega), h4 219 (by decide)]; exact q2 m (by omega) m2
  · by_cases e : m = n
    · subst e; exact h3
    · rw [h2 _ m e]; exact q3 m (by omega)
  · rw [h2 _ m (by omega)]; exact q4 m hm
  · rw [h1 d d1 d2]; exact q6 d d1 d2
  · rw [h4 d hd]; exact q7 d hd
  · rw [h5 x (by omega)]; exact q8 x x1 x2
theorem da_m (da g : Int32) (q : Nat) : (if (if 0 < da - g / 4 then da - g / 4 else 0) + 3 * nI q ≤ 100 then (if 0 < da - g / 4 then da - g / 4 else 0) + 3 * nI q else 100) = hp_da da g q := (da_1 _).symm
theorem hQ_s {N r c S q n f f' : Nat} {st bv : Nat → Int32} {gr : Nat → Nat} {b0 sd sp : Int32} {Kb Lb K L : hf_M} {s a b e u v : Value} (hS : hsc S) (hgc0 : hgc r c Kb) (hgm0 : hgm r c Lb) (h7 : Kb 18 7 = nI q) (h4 : Kb 18 4 = sd) (h3 : Kb 18 3 = sp) (h9 : Kb S 9 = sp) (h12 : Lb 204 12 = sd) (h16 : Lb 215 1816 = sp) (hbv : ∀ m, m < r * c → Kb 19 m = bv m ∧ Lb 218 m = bv m) (hgr : ∀ m, m < r * c → Kb 8 m = nI (gr m) ∧ Lb 205 m = nI (gr m) ∧ gr m ≤ 5) (hn : n < r * c) (h : hQ r c S st bv b0 Kb Lb K L n) : ∃ K' L', BX1_settle_2 N (f + 1) [.ref 18, .ref S, .ref 7, .int (nI n)] [] K = BX1_settle_2 N f [.ref 18, .ref S, .ref 7, .int (nI (n + 1))] [] K' ∧ BX8_step1_467 N (f' + 1) [.ref 204, s, a, b, e, .int (nI q), .int (nI n), u, v] [] L = BX8_step1_467 N f' [.ref 204, s, a, b, e, .int (nI q), .int (nI (n + 1)), u, v] [] L' ∧ hQ r c S st bv b0 Kb Lb K' L' (n + 1) := by
  have hb := hsc_b hS
  have hrc := hgc0.2.2.2.1
  obtain ⟨q1, q2, q3, q4, q5, q6, q7, q8⟩ := id h
  have hgK : hgc r c K := hgc_c (q6 7 (by decide) (by omega)) hgc0
  have hgL : hgm r c L := hgm_c (q7 204 (by decide)) hgm0
  have hcl := q1 n hn
  simp only [Nat.zero_add] at hcl
  obtain ⟨c1, c2, c3, c4, c5, c6, c7, c8⟩ := hcl
  obtain ⟨st1, gv⟩ := q2 n (Nat.le_refl _) hn
  obtain ⟨k8, l205, g5⟩ := hgr n hn
  have K8 : K 8 n = nI (gr n) := by rw [q6 8 (by decide) (by omega)]; exact k8
  have L205 : L 205 n = nI (gr n) := by rw [q7 205 (by decide)]; exact l205
  have K18 : K 18 = Kb 18 := q6 18 (by decide) (by omega)
  have K19 : K 19 n = bv n := by rw [q6 19 (by decide) (by omega)]; exact (hbv n hn).1
  have L218 : L 218 n = bv n := by rw [q7 218 (by decide)]; exact (hbv n hn).2
  have KS9 : K S 9 = sp := by rw [q6 S (by omega) (by omega)]; exact h9
  have L1816 : L 215 1816 = sp := by rw [q8 1816 (by decide) (by decide)]; exact h16
  have hH : K 20 n + K (S + 4) n / 2 = L 215 (768 + n) / 2 + L 219 n := by rw [gv, c4, Int32.add_comm]
  have gn14 : K (S + 1) n = 1 ∨ K (S + 1) n = 2 → 1 ≤ gr n ∧ gr n ≤ 4 := fun z => by
    obtain ⟨k, k1, k2, k3⟩ := c7 z
    rw [K8] at k3
    have := (nI_eq (by omega) (by omega)).mp k3
    omega
  have btn1 : ¬ st n = 2 → hp_bt st bv b0 (n + 1) = hp_bt st bv b0 n := fun z => by
    show (if st n = 2 then _ else _) = _
    rw [if_neg z]
  have btn2 : st n = 2 → hp_bt st bv b0 (n + 1) = hp_bt st bv b0 n + bv n := fun z => by
    show (if st n = 2 then _ else _) = _
    rw [if_pos z]
  by_cases s1 : K (S + 1) n = 1
  · have ls1 : L 215 n = 1 := by rw [← c1]; exact s1
    obtain ⟨g1, g4⟩ := gn14 (Or.inl s1)
    have ar : L 215 (1280 + n) = -6 := by rw [← c6]; exact c8 s1
    have hs2 : ¬ st n = 2 := by rw [← st1, s1]; decide
    obtain ⟨u0, ex⟩ := tu_x (N := N) (q := nI q) (L := L) (by omega) ls1
    rw [tu_z, da_m] at ex
    have k4 : hf_w K (S + 4) n (K 20 n + K (S + 4) n / 2) (S + 3) n = K (S + 3) n := hw_o (Or.inl (by omega))
    have k20 : hf_w K (S + 4) n (K 20 n + K (S + 4) n / 2) 20 n = K 20 n := hw_o (Or.inl (by omega))
    have hD : hp_da (K (S + 3) n) (K 20 n) q = hp_da (L 215 (512 + n)) (L 219 n) q := by rw [c3, gv]
    by_cases hc : K 20 n + K (S + 4) n / 2 < hf_tab 5 (gr n) + hp_da (K (S + 3) n) (K 20 n) q
    · have e1 := dc_0 (N := N) (S := S) (n := n) (gn := gr n) (q := q) (K := hf_w K (S + 4) n (K 20 n + K (S + 4) n / 2)) hS (by omega) (by rw [hw_d (by omega)]; exact K8) g5 (by rw [hw_d (by omega), K18]; exact h7) (eq_true (by rw [hw_s, k4, k20]; exact hc))
      have e2 := tu_a (N := N) (q := nI q) (D := hp_da (L 215 (512 + n)) (L 219 n) q) (L := hf_w L 215 (768 + n) (L 215 (768 + n) / 2 + L 219 n)) (u := .int ((if 0 < L 215 (512 + n) - L 219 n / 4 then L 215 (512 + n) - L 219 n / 4 else 0) + 3 * nI q)) (n := n) (gn := gr n) (by omega) (by rw [hw_d (by decide)]; exact L205) g1 g4 (eq_true (by rw [hw_s, ← hH, ← hD]; exact hc))
      rw [k4, k20] at e1
      refine ⟨_, _, se_1 hS hgK hn s1 e1, ts_0 hgL hn (ex.trans e2), hQ_n hS hrc hn h (fun d d1 d2 => ?_) (fun d j hj => ?_) ?_ (fun d hd => ?_) (fun x hx => ?_) ?_ ?_⟩
      · rw [hw_d d1, hw_d (by omega), hw_d (by omega)]
      · rw [hw_o (Or.inr hj), hw_o (Or.inr hj), hw_o (Or.inr hj)]
      · rw [hw_s]
      · rw [hw_d hd, hw_d hd]
      · rw [hw_o (Or.inr (by omega)), hw_o (Or.inr (by omega))]
      · rw [hw_o (Or.inr (by omega)), hw_o (Or.inr (by omega)), btn1 hs2]; exact q5
      · simp (disch := omega) only [hw6, hn_ne, ite_true, ite_false, if_true, if_false, reduceIte, Nat.reduceEqDiff, Nat.reduceAdd, Nat.zero_add]
        exact ⟨c1, c2, hD, hH, c5, c6, fun z => z, c8⟩
    · have e1 := dc_1 (N := N) (S := S) (n := n) (gn := gr n) (q := q) (K := hf_w K (S + 4) n (K 20 n + K (S + 4) n / 2)) hS (by omega) (by rw [hw_d (by omega)]; exact K8) g5 (by rw [hw_d (by omega), K18]; exact h7) (by rw [hw_o (Or.inl (by omega))]; exact s1) (eq_false (by rw [hw_s, k4, k20]; exact hc))
      have e2 := tu_b (N := N) (q := nI q) (D := hp_da (L 215 (512 + n)) (L 219 n) q) (L := hf_w L 215 (768 + n) (L 215 (768 + n) / 2 + L 219 n)) (u := .int ((if 0 < L 215 (512 + n) - L 219 n / 4 then L 215 (512 + n) - L 219 n / 4 else 0) + 3 * nI q)) (n := n) (gn := gr n) (by omega) (by rw [hw_d (by decide)]; exact L205) g1 g4 (by rw [hw_o (Or.inr (by omega))]; exact ls1) (by rw [hw_o (Or.inr (by omega))]; exact ar) (eq_false (by rw [hw_s, ← hH, ← hD]; exact hc))
      rw [k4, k20] at e1
      refine ⟨_, _, se_1 hS hgK hn s1 e1, ts_0 hgL hn (ex.trans e2), hQ_n hS hrc hn h (fun d d1 d2 => ?_) (fun d j hj => ?_) ?_ (fun d hd => ?_) (fun x hx => ?_) ?_ ?_⟩
      · rw [hw_d d1, hw_d (by omega), hw_d (by omega), hw_d (by omega), hw_d (by omega)]
      · rw [hw_o (Or.inr hj), hw_o (Or.inr hj), hw_o (Or.inr hj), hw_o (Or.inr hj), hw_o (Or.inr hj)]
      · rw [hw_s]
      · rw [hw_d hd, hw_d hd, hw_d hd, hw_d hd]
      · rw [hw_o (Or.inr (by omega)), hw_o (Or.inr (by omega)), hw_o (Or.inr (by omega)), hw_o (Or.inr (by omega))]
      · rw [hw_o (Or.inr (by omega)), hw_o (Or.inr (by omega)), hw_o (Or.inr (by omega)), hw_o (Or.inr (by omega)), btn1 hs2]; exact q5
      · simp (disch := omega) only [hw6, hn_ne, ite_true, ite_false, if_true, if_false, reduceIte, Nat.reduceEqDiff, Nat.reduceAdd, Nat.zero_add]
        rw [KS9, L1816]
        exact ⟨trivial, c2, hD, hH, c5, rfl, fun _ => Or.inl s1, fun z => absurd z (by decide)⟩
  · by_cases s2 : K (S + 1) n = 2
    · have ls2 : L 215 n = 2 := by rw [← c1]; exact s2
      have hs2 : st n = 2 := by rw [← st1]; exact s2
      have KF : hf_w K (S + 4) n (K 20 n + K (S + 4) n / 2) (S + 2) n - hf_w K (S + 4) n (K 20 n + K (S + 4) n / 2) 19 n = K (S + 2) n - bv n := by rw [hw_o (Or.inl (by omega)), hw_o (Or.inl (by omega)), K19]
      have LF : L 215 (256 + n) - L 218 n = K (S + 2) n - bv n := by rw [← c2, L218]
      have K2 : hf_w K (S + 4) n (K 20 n + K (S + 4) n / 2) (S + 2) n = K (S + 2) n := hw_o (Or.inl (by omega))
      have K9 : hf_w K (S + 4) n (K 20 n + K (S + 4) n / 2) 19 n = bv n := by rw [hw_o (Or.inl (by omega))]; exact K19
      have K7 : hf_w K (S + 4) n (K 20 n + K (S + 4) n / 2) 18 7 = nI q := by rw [hw_d (by omega), K18]; exact h7
      have hbt : L 215 1820 + L 218 n = hp_bt st bv b0 (n + 1) := by rw [btn2 hs2, q5, L218]
      by_cases hz : K (S + 2) n - bv n = 0
      · have e1 := bd_0 (N := N) (S := S) (n := n) (K := hf_w K (S + 4) n (K 20 n + K (S + 4) n / 2)) hS (by omega) (by rw [KF]; exact hz)
        have e2 := tu_2 (N := N) (q := nI q) (L := L) (n := n) (by omega) ls2 (by rw [LF]; exact hz)
        rw [KF] at e1
        rw [LF, hbt] at e2
        refine ⟨_, _, se_2 hS hgK hn s2 e1, ts_0 hgL hn e2, hQ_n hS hrc hn h (fun d d1 d2 => ?_) (fun d j hj => ?_) ?_ (fun d hd => ?_) (fun x hx => ?_) ?_ ?_⟩
        · rw [hw_d d1, hw_d (by omega), hw_d (by omega), hw_d (by omega)]
        · rw [hw_o (Or.inr hj), hw_o (Or.inr hj), hw_o (Or.inr hj), hw_o (Or.inr hj)]
        · rw [hw_s]
        · rw [hw_d hd, hw_d hd, hw_d hd, hw_d hd]
        · rw [hw_o (Or.inr (by omega)), hw_o (Or.inr (by omega)), hw_o (Or.inr (by omega)), hw_o (Or.inr (by omega))]
        · rw [hw_o (Or.inr (by omega)), hw_s]
        · simp (disch := omega) only [hw6, hn_ne, ite_true, ite_false, if_true, if_false, reduceIte, Nat.reduceEqDiff, Nat.reduceAdd, Nat.zero_add]
          exact ⟨trivial, trivial, c3, hH, c5, c6, fun z => z.elim (fun z => absurd z (by decide)) (fun z => absurd z (by decide)), fun z => absurd z (by decide)⟩
      · have step : ∀ (K2 L2 : hf_M), K2 = hf_w (hf_w K (S + 4) n (K 20 n + K (S + 4) n / 2)) (S + 2) n (K (S + 2) n - bv n) → L2 = hf_w (hf_w (hf_w L 215 (768 + n) (L 215 (768 + n) / 2 + L 219 n)) 215 (256 + n) (K (S + 2) n - bv n)) 215 1820 (hp_bt st bv b0 (n + 1)) → hQ r c S st bv b0 Kb Lb (hf_w K2 20 n 0) L2 (n + 1) := by
          intro K2 L2 hK hL
          subst hK
          subst hL
          refine hQ_n hS hrc hn h (fun d d1 d2 => ?_) (fun d j hj => ?_) ?_ (fun d hd => ?_) (fun x hx => ?_) ?_ ?_
          · rw [hw_d d1, hw_d (by omega), hw_d (by omega)]
          · rw [hw_o (Or.inr hj), hw_o (Or.inr hj), hw_o (Or.inr hj)]
          · rw [hw_s]
          · rw [hw_d hd, hw_d hd, hw_d hd]
          · rw [hw_o (Or.inr (by omega)), hw_o (Or.inr (by omega)), hw_o (Or.inr (by omega))]
          · rw [hw_s]
          · simp (disch := omega) only [hw6, hn_ne, ite_true, ite_false, if_true, if_false, reduceIte, Nat.reduceEqDiff, Nat.reduceAdd, Nat.zero_add]
            exact ⟨c1, trivial, c3, hH, c5, c6, fun z => z, c8⟩
        by_cases hq : nI q ≤ bv n
        · have e1 := bd_1 (N := N) (S := S) (n := n) (K := hf_w K (S + 4) n (K 20 n + K (S + 4) n / 2)) hS (by omega) (eq_false (by rw [KF]; exact hz)) (eq_true (by rw [K7, K9]; exact hq))
          have e2 := tu_3 (N := N) (q := nI q) (L := L) (n := n) (by omega) ls2 (eq_false (by rw [LF]; exact hz)) (eq_true (by rw [L218]; exact hq))
          rw [KF] at e1
          rw [LF, hbt] at e2
          exact ⟨_, _, se_2 hS hgK hn s2 e1, ts_0 hgL hn e2, step _ _ rfl rfl⟩
        · have el : fX1_lot N [.ref 18, .int (nI n), .int 2] (hf_w (hf_w K (S + 4) n (K 20 n + K (S + 4) n / 2)) (S + 2) n (hf_w K (S + 4) n (K 20 n + K (S + 4) n / 2) (S + 2) n - hf_w K (S + 4) n (K 20 n + K (S + 4) n / 2) 19 n)) = some (some (Value.int (hp_lot sd sp (nI n) 2)), hf_w (hf_w K (S + 4) n (K 20 n + K (S + 4) n / 2)) (S + 2) n (hf_w K (S + 4) n (K 20 n + K (S + 4) n / 2) (S + 2) n - hf_w K (S + 4) n (K 20 n + K (S + 4) n / 2) 19 n)) := by
            rw [lot_c, hw_d (d := 18) (c := S + 2) (by omega), hw_d (d := 18) (c := S + 4) (by omega), K18, h4, h3]
          have em : fX8_lot N [.ref 204, .int (L 215 1816), .int (nI n), .int 2] (hf_w (hf_w (hf_w L 215 (768 + n) (L 215 (768 + n) / 2 + L 219 n)) 215 (256 + n) (L 215 (256 + n) - L 218 n)) 215 1820 (L 215 1820 + L 218 n)) = some (some (Value.int (hp_lot sd sp (nI n) 2)), hf_w (hf_w (hf_w L 215 (768 + n) (L 215 (768 + n) / 2 + L 219 n)) 215 (256 + n) (L 215 (256 + n) - L 218 n)) 215 1820 (L 215 1820 + L 218 n)) := by
            rw [lot_m, hw_d (d := 204) (c := 215) (by decide), hw_d (d := 204) (c := 215) (by decide), hw_d (d := 204) (c := 215) (by decide), q7 204 (by decide), h12, L1816]
          by_cases hl : nI q ≤ hp_lot sd sp (nI n) 2 - hp_lot sd sp (nI n) 2 / 10 * 10
          · have e1 := bd_2 (N := N) (S := S) (n := n) (K := hf_w K (S + 4) n (K 20 n + K (S + 4) n / 2)) hS (by omega) (eq_false (by rw [KF]; exact hz)) (eq_false (by rw [K7, K9]; exact hq)) el (eq_true (by rw [K7]; exact hl))
            have e2 := tu_4 (N := N) (q := nI q) (L := L) (n := n) (by omega) ls2 (eq_false (by rw [LF]; exact hz)) (eq_false (by rw [L218]; exact hq)) em (eq_true hl)
            rw [KF] at e1
            rw [LF, hbt] at e2
            exact ⟨_, _, se_2 hS hgK hn s2 e1, ts_0 hgL hn e2, step _ _ rfl rfl⟩
          · have e1 := bd_3 (N := N) (S := S) (n := n) (K := hf_w K (S + 4) n (K 20 n + K (S + 4) n / 2)) hS (by omega) (eq_false (by rw [KF]; exact hz)) (eq_false (by rw [K7, K9]; exact hq)) el (eq_false (by rw [K7]; exact hl))
            have e2 := tu_5 (N := N) (q := nI q) (L := L) (n := n) (by omega) ls2 (eq_false (by rw [LF]; exact hz)) (eq_false (by rw [L218]; exact hq)) em (eq_false hl)
            rw [KF] at e1
            rw [LF, hbt] at e2
            refine ⟨_, _, se_2 hS hgK hn s2 e1, ts_0 hgL hn e2, hQ_n hS hrc hn h (fun d d1 d2 => ?_) (fun d j hj => ?_) ?_ (fun d hd => ?_) (fun x hx => ?_) ?_ ?_⟩
            · rw [hw_d d1, hw_d (by omega), hw_d (by omega), hw_d (by omega)]
            · rw [hw_o (Or.inr hj), hw_o (Or.inr hj), hw_o (Or.inr hj), hw_o (Or.inr hj)]
            · rw [hw_s]
            · rw [hw_d hd, hw_d hd, hw_d hd, hw_d hd]
            · rw [hw_o (Or.inr (by omega)), hw_o (Or.inr (by omega)), hw_o (Or.inr (by omega)), hw_o (Or.inr (by omega))]
            · rw [hw_o (Or.inr (by omega)), hw_s]
            · simp (disch := omega) only [hw6, hn_ne, ite_true, ite_false, if_true, if_false, reduceIte, Nat.reduceEqDiff, Nat.reduceAdd, Nat.zero_add]
              exact ⟨trivial, trivial, c3, hH, c5, c6, fun z => z.elim (fun z => absurd z (by decide)) (fun z => absurd z (by decide)), fun z => absurd z (by decide)⟩
    · refine ⟨_, _, se_0 hS hgK hn (eq_false s1) (eq_false s2), ts_0 hgL hn (tu_0 (by omega) (eq_false (by rw [← c1]; exact s1)) (eq_false (by rw [← c1]; exact s2))), hQ_n hS hrc hn h (fun d d1 d2 => ?_) (fun d j hj => ?_) ?_ (fun d hd => ?_) (fun x hx => ?_) ?_ ?_⟩
      · rw [hw_d d1, hw_d (by omega)]
      · rw [hw_o (Or.inr hj), hw_o (Or.inr hj)]
      · rw [hw_s]
      · rw [hw_d hd]
      · rw [hw_o (Or.inr (by omega))]
      · rw [hw_o (Or.inr (by omega)), btn1 (by rw [← st1]; exact s2)]; exact q5
      · simp (disch := omega) only [hw6, hn_ne, ite_true, ite_false, if_true, if_false, reduceIte, Nat.reduceEqDiff, Nat.reduceAdd, Nat.zero_add]
        exact ⟨c1, c2, c3, hH, c5, c6, fun z => z, c8⟩
def hp_m5 (N : Nat) : hf_K hf_M := (c_aload 0 (c_iload 3 (c_iload 4 (c_callV 8 2 (fX8_smokes N) (c_aload 0 (c_getI 8 16 (c_ifeq (BX8_step1_508 N) (c_aload 0 (c_callV 8 0 (fX8_balance N) (BX8_step1_508 N))))))))))
theorem ts_e {N f r c : Nat} {L : hf_M} {s a b e g u v : Value} (hg : hgm r c L) : BX8_step1_467 N (f + 1) [.ref 204, s, a, b, e, g, .int (nI (r * c)), u, v] [] L = hp_m5 N [.ref 204, s, a, b, e, g, .int (nI (r * c)), u, v] [] L := by
  show (if L 204 2 ≤ nI (r * c) then _ else _) = _
  rw [hg.2.2.2.2.2.2, if_pos (nI_le (Nat.le_refl _) (by have := hg.2.2.2.1; omega))]; rfl
theorem hQ_l {N r c S q : Nat} {st bv : Nat → Int32} {gr : Nat → Nat} {b0 sd sp : Int32} {Kb Lb : hf_M} {s a b e u v : Value} (hS : hsc S) (hgc0 : hgc r c Kb) (hgm0 : hgm r c Lb) (h7 : Kb 18 7 = nI q) (h4 : Kb 18 4 = sd) (h3 : Kb 18 3 = sp) (h9 : Kb S 9 = sp) (h12 : Lb 204 12 = sd) (h16 : Lb 215 1816 = sp) (hbv : ∀ m, m < r * c → Kb 19 m = bv m ∧ Lb 218 m = bv m) (hgr : ∀ m, m < r * c → Kb 8 m = nI (gr m) ∧ Lb 205 m = nI (gr m) ∧ gr m ≤ 5) : ∀ (d n f f' : Nat) (K L : hf_M), n + d = r * c → d < f → d < f' → hQ r c S st bv b0 Kb Lb K L n → ∃ K' L', BX1_settle_2 N f [.ref 18, .ref S, .ref 7, .int (nI n)] [] K = some (none, K') ∧ BX8_step1_467 N f' [.ref 204, s, a, b, e, .int (nI q), .int (nI n), u, v] [] L = hp_m5 N [.ref 204, s, a, b, e, .int (nI q), .int (nI (r * c)), u, v] [] L' ∧ hQ r c S st bv b0 Kb Lb K' L' (r * c) := by
  have hb := hsc_b hS
  intro d
  induction d with
  | zero =>
    intro n f f' K L hn hf hf' h
    obtain ⟨f, rfl⟩ : ∃ k, f = k + 1 := ⟨f - 1, by omega⟩
    obtain ⟨f', rfl⟩ : ∃ k, f' = k + 1 := ⟨f' - 1, by omega⟩
    have : n = r * c := by omega
    subst this
    exact ⟨K, L, se_e (hgc_c (h.2.2.2.2.2.1 7 (by decide) (by omega)) hgc0), ts_e (hgm_c (h.2.2.2.2.2.2.1 204 (by decide)) hgm0), h⟩
  | succ d ih =>
    intro n f f' K L hn hf hf' h
    obtain ⟨f, rfl⟩ : ∃ k, f = k + 1 := ⟨f - 1, by omega⟩
    obtain ⟨f', rfl⟩ : ∃ k, f' = k + 1 := ⟨f' - 1, by omega⟩
    obtain ⟨K', L', e1, e2, e3⟩ := hQ_s (N := N) (f := f) (f' := f') (s := s) (a := a) (b := b) (e := e) (u := u) (v := v) hS hgc0 hgm0 h7 h4 h3 h9 h12 h16 hbv hgr (n := n) (by omega) h
    rw [e1, e2]
    exact ih (n + 1) f f' K' L' (by omega) (by omega) (by omega) e3
