/-! cell, whole -/
theorem cj_q {N : Nat} {x g f d h : Int32} {J : hf_M} (ei : fX8_isCell N [.ref 204, .int x] J = some (some (Value.int 1), J)) (eg : fX8_in N [.int g, .int 0, .int 5] J = some (some (Value.int 1), J)) : ∃ u m, ((m = 0 ∧ (g = 0 ∨ g = 5)) ∨ (m = 200 ∧ ¬ g = 0 ∧ ¬ g = 5)) ∧ fX8_cell N [.ref 204, .int x, .int g, .int f, .int d, .int h] J = BX8_cell_49 N [.ref 204, .int x, .int g, .int f, .int d, .int h, u] [.int m, .int 0, .int f] J := by
  by_cases g0 : g = 0
  · subst g0
    exact ⟨_, 0, Or.inl ⟨rfl, Or.inl rfl⟩, (cj_a ei).trans (cj_2 eg)⟩
  by_cases g5 : g = 5
  · subst g5
    exact ⟨_, 0, Or.inl ⟨rfl, Or.inr rfl⟩, (cj_b ei).trans (cj_2 eg)⟩
  exact ⟨_, 200, Or.inr ⟨rfl, g0, g5⟩, (cj_c ei (eq_false g0) (eq_false g5)).trans (cj_3 eg)⟩
theorem cj_p {N : Nat} {x g f d h : Int32} {J : hf_M} (ei : fX8_isCell N [.ref 204, .int x] J = some (some (Value.int 1), J)) (eg : fX8_in N [.int g, .int 0, .int 5] J = some (some (Value.int 0), J)) : fX8_cell N [.ref 204, .int x, .int g, .int f, .int d, .int h] J = some (some (.int (-2)), J) := by
  by_cases g0 : g = 0
  · subst g0
    exact (cj_a ei).trans (cj_1 eg)
  by_cases g5 : g = 5
  · subst g5
    exact (cj_b ei).trans (cj_1 eg)
  exact (cj_c ei (eq_false g0) (eq_false g5)).trans (cj_1 eg)
/-- what the two write -/
theorem ce_r {r c q n : Nat} {g f d h : Int32} {I J I2 J2 : hf_M} (hq : q < 512) (hR : hr_all r c q I J) (hn : n < r * c) (hs : I 22 9 ≤ 0) (hg : ∃ k, k ≤ 5 ∧ g = nI k ∧ (0 < f → 1 ≤ k ∧ k ≤ 4)) (F : ∀ e, e < 7 ∨ (11 < e ∧ e < 23) ∨ 28 < e → I2 e = I e) (F7 : ∀ j, j ≠ 7 → I2 7 j = I 7 j) (F77 : I2 7 7 = I 7 7 + nI 1) (Fo : ∀ e y, e ≠ 7 → y ≠ n → I2 e y = I e y) (Fn : I2 8 n = g ∧ I2 9 n = f ∧ I2 10 n = d ∧ I2 11 n = h ∧ I2 23 n = hp_s0 f ∧ I2 24 n = f ∧ I2 25 n = d ∧ I2 26 n = nI 0 ∧ I2 27 n = nI 0 ∧ I2 28 n = -6) (G : ∀ e, e < 204 ∨ (208 < e ∧ e ≠ 215) → J2 e = J e) (G4 : ∀ j, j ≠ 20 → J2 204 j = J 204 j) (G42 : J2 204 20 = J 204 20 + nI 1) (Gl : ∀ e y, e ≠ 204 → e ≠ 215 → y ≠ n → J2 e y = J e y) (Gs : ∀ y, y ≠ n → y ≠ 256 + n → y ≠ 512 + n → J2 215 y = J 215 y) (Gn : J2 205 n = g ∧ J2 206 n = h ∧ J2 207 n = f ∧ J2 208 n = d ∧ J2 215 n = hp_s0 f ∧ J2 215 (256 + n) = f ∧ J2 215 (512 + n) = d) : hr_all r c (q + 1) I2 J2 := by
  obtain ⟨⟨hb, ⟨i4, i5, i6⟩, ⟨j0, j1, j2⟩, hc⟩, r2, r3, ⟨b1, b2, ⟨sk, sa, s1, s2, s3, s4, s5, s6, s7, s8⟩, k, k8, b5, b6, b7⟩, ⟨age, ch, a1, a2, a3, a4, a5, ⟨s0, f1, f2, f3⟩, a6⟩, r6⟩ := hR
  obtain ⟨u1, u2, u3, u4, u5, u6, u7, u8, u9, u10⟩ := Fn
  obtain ⟨w1, w2, w3, w4, w5, w6, w7⟩ := Gn
  have s00 : s0 = 0 := by
    rcases Nat.eq_zero_or_pos s0 with z | z
    · exact z
    · rw [f1] at hs
      exact absurd hs (nI_ge (a := 0) z (by omega))
  have jh : ∀ y, 768 ≤ y → J2 215 y = J 215 y := fun y hy => Gs y (by omega) (by omega) (by omega)
  have f3' := f3 s00
  obtain ⟨ks, ks1, ks2, ks3, ks4⟩ := r2
  obtain ⟨kl, kl1, kl2, kl3, kl4⟩ := r3
  refine ⟨⟨hb, ⟨?_, ?_, ?_⟩, ⟨?_, ?_, ?_⟩, fun y hy => ?_⟩, ⟨ks, ks1, ?_, ?_, fun i hi => ?_⟩, ⟨kl, kl1, ?_, ?_, fun i hi => ?_⟩, ⟨fun y hy => ?_, ?_, ⟨sk, sa, s1, s2, s3, s4, s5, ?_, ?_, fun i hi => ?_⟩, k, k8, ?_, ?_, fun i hi => ?_⟩, ⟨age + 1, ch + 1, ?_, ?_, by omega, by omega, by omega, ⟨0, ?_, by omega, fun _ y hy => ?_⟩, fun p hp => ?_⟩, ?_⟩
  · rw [F7 4 (by decide)]; exact i4
  · rw [F7 5 (by decide)]; exact i5
  · rw [F7 6 (by decide)]; exact i6
  · rw [G4 0 (by decide)]; exact j0
  · rw [G4 1 (by decide)]; exact j1
  · rw [G4 2 (by decide)]; exact j2
  · by_cases ey : y = n
    · subst ey
      obtain ⟨k, k5, kg, kf⟩ := hg
      rw [u1, u2, u3, u4, w1, w2, w3, w4]
      exact ⟨⟨k, k5, kg, kg, kf⟩, rfl, rfl, rfl⟩
    · rw [Fo 8 y (by decide) ey, Fo 9 y (by decide) ey, Fo 10 y (by decide) ey, Fo 11 y (by decide) ey, Gl 205 y (by decide) (by decide) ey, Gl 206 y (by decide) (by decide) ey, Gl 207 y (by decide) (by decide) ey, Gl 208 y (by decide) (by decide) ey]
      exact hc y hy
  · rw [F 12 (by decide)]; exact ks2
  · rw [G4 7 (by decide)]; exact ks3
  · rw [F 13 (by decide), F 14 (by decide), G 209 (by decide), G 210 (by decide), G 211 (by decide), G 212 (by decide)]
    exact ks4 i hi
  · rw [F 15 (by decide)]; exact kl2
  · rw [G4 13 (by decide)]; exact kl3
  · rw [F 16 (by decide), F 17 (by decide), G 213 (by decide), G 214 (by decide)]
    exact kl4 i hi
  · have t := b1 y hy
    by_cases ey : y = n
    · subst ey
      obtain ⟨z1, z2, z3⟩ := f3' y hy
      obtain ⟨t1, t2, t3, t4, t5, t6, t7, t8⟩ := t
      have v1 : I2 (22 + 1) y = hp_s0 f := u5
      have v2 : I2 (22 + 2) y = f := u6
      have v3 : I2 (22 + 3) y = d := u7
      have v4 : I2 (22 + 4) y = nI 0 := u8
      have v5 : I2 (22 + 5) y = nI 0 := u9
      have v6 : I2 (22 + 6) y = -6 := u10
      rw [v1, v2, v3, v4, v5, v6, u1, Nat.zero_add, Nat.zero_add, Nat.zero_add, Nat.zero_add, Nat.zero_add, Nat.zero_add, w5, w6, w7, jh (768 + y) (by omega), jh (1024 + y) (by omega), jh (1280 + y) (by omega)]
      rw [Nat.zero_add] at t4 t5 t6
      refine ⟨rfl, rfl, rfl, ?_, ?_, ?_, fun hs => ?_, fun _ => rfl⟩
      · rw [← t4]; exact z1.symm
      · rw [← t5]; exact z2.symm
      · rw [← t6]; exact z3.symm
      · obtain ⟨k, k5, kg, kf⟩ := hg
        unfold hp_s0 at hs
        by_cases h0 : f ≤ nI 0
        · rw [if_pos h0] at hs
          rcases hs with z | z
          · exact absurd z (by decide)
          · exact absurd z (by decide)
        · obtain ⟨k1, k4⟩ := kf (Int32.not_le.mp h0)
          exact ⟨k, k1, k4, kg⟩
    · rw [Fo (22 + 1) y (by decide) ey, Fo (22 + 2) y (by decide) ey, Fo (22 + 3) y (by decide) ey, Fo (22 + 4) y (by decide) ey, Fo (22 + 5) y (by decide) ey, Fo (22 + 6) y (by decide) ey, Fo 8 y (by decide) ey, Gs (0 + y) (by omega) (by omega) (by omega), Gs (0 + (256 + y)) (by omega) (by omega) (by omega), Gs (0 + (512 + y)) (by omega) (by omega) (by omega), jh (0 + (768 + y)) (by omega), jh (0 + (1024 + y)) (by omega), jh (0 + (1280 + y)) (by omega)]
      exact t
  · unfold hr_num at b2 ⊢
    rw [F 22 (by decide), jh (0 + 1816) (by decide), jh (0 + 1819) (by decide), jh (0 + 1820) (by decide), jh (0 + 1821) (by decide), jh (0 + 1822) (by decide), jh (0 + 1823) (by decide)]
    exact b2
  · rw [F (22 + 8) (by decide)]; exact s6
  · rw [jh _ (by decide)]; exact s7
  · rw [F (22 + 9) (by decide), F (22 + 10) (by decide), F (22 + 11) (by decide), jh (0 + (1792 + 3 * i)) (by omega), jh (0 + (1792 + 3 * i + 1)) (by omega), jh (0 + (1792 + 3 * i + 2)) (by omega)]
    exact s8 i hi
  · rw [F 22 (by decide)]; exact b5
  · rw [jh _ (by decide)]; exact b6
  · obtain ⟨x1, x2, ⟨a, x3, x4, x5, x6, x7, x8⟩, x9⟩ := b7 i hi
    unfold hr_crew
    rw [F (22 + 12 + 3 * i) (by omega), F (22 + 12 + 3 * i + 1) (by omega), F (22 + 12 + 3 * i + 2) (by omega), jh (0 + (1536 + 8 * i)) (by omega), jh (0 + (1536 + 8 * i + 1)) (by omega), jh (0 + (1536 + 8 * i + 2)) (by omega), jh (0 + (1536 + 8 * i + 3)) (by omega), jh (0 + (1536 + 8 * i + 4)) (by omega), jh (0 + (1536 + 8 * i + 5)) (by omega), jh (0 + (1536 + 8 * i + 6)) (by omega), jh (0 + (1536 + 8 * i + 7)) (by omega)]
    refine ⟨x1, x2, ⟨a, x3, x4, x5, x6, fun j hj2 => ?_, x8⟩, x9⟩
    rw [jh (0 + (1600 + 24 * i + 2 * j)) (by omega), jh (0 + (1600 + 24 * i + 2 * j + 1)) (by omega)]
    exact x7 j hj2
  · rw [F77, a1, nI_add]
  · rw [G42, a2, nI_add]
  · rw [F 22 (by decide), f1, s00]
  · by_cases ey : y = n
    · subst ey
      exact ⟨u8, u9, u10⟩
    · rw [Fo (22 + 4) y (by decide) ey, Fo (22 + 5) y (by decide) ey, Fo (22 + 6) y (by decide) ey]
      exact f3' y hy
  · rw [F 95 (by decide), G 217 (by decide)]
    rcases a6 p hp with z | ⟨a, b, b1, b2, b3, b4, b5, b6, b7⟩
    · exact Or.inl z
    · exact Or.inr ⟨a, b, b1, b2, by omega, b4, by omega, ⟨fun z => by omega, fun z => by omega⟩, fun z => by omega⟩
  · unfold hr_one at r6 ⊢
    rw [F 6 (by decide), F 20 (by decide), F 21 (by decide), G4 12 (by decide), G4 16 (by decide)]
    exact r6
theorem q_cell (q N : Nat) (x g f d h : Int32) : hr_call q (fX7_cell N [.ref 6, .int x, .int g, .int f, .int d, .int h]) (fX8_cell N [.ref 204, .int x, .int g, .int f, .int d, .int h]) := by
  intro r c I J hq hR
  have hb := hR.1.1
  have h6 := hR.1.2.1.2.2
  have j2 := hR.1.2.2.1.2.2
  rcases pk_ix x (n := r * c) (by omega) with hx | hx | ⟨n, hn, rfl⟩
  · exact hr_no hR (-1) (ce_c0 (hasN h6 (Or.inl hx))) (cj_0 (isN j2 (by omega) (by omega) (Or.inl hx)))
  · exact hr_no hR (-1) (ce_c0 (hasN h6 (Or.inr hx))) (cj_0 (isN j2 (by omega) (by omega) (Or.inr hx)))
  have eh : fX2_has N [.ref 7, .int (nI n)] I = some (some (.int 1), I) := hasY h6 hn (by omega)
  have ei : fX8_isCell N [.ref 204, .int (nI n)] J = some (some (.int 1), J) := isY j2 hn (by omega)
  by_cases g1 : g < 0
  · exact hr_no hR (-2) (ce_c1 eh (ew0 (Or.inl g1))) (cj_p ei (e_in0 (Or.inl g1)))
  by_cases g2 : 5 < g
  · exact hr_no hR (-2) (ce_c1 eh (ew0 (Or.inr g2))) (cj_p ei (e_in0 (Or.inr g2)))
  have wg := ew1 (N := N) (I := I) g1 g2
  obtain ⟨u, m, hm, em⟩ := cj_q (N := N) (f := f) (d := d) (h := h) ei (e_in1 g1 g2)
  by_cases f1 : f < 0
  · exact hr_no hR (-2) (ce_c2 eh wg (ew0 (Or.inl f1))) (em.trans (cj_4 (e_in0 (Or.inl f1))))
  by_cases f2 : 200 < f
  · have fm : m < f := by
      rcases hm with ⟨rfl, _⟩ | ⟨rfl, _⟩
      · exact Int32.lt_trans (by decide) f2
      · exact f2
    exact hr_no hR (-2) (ce_c2 eh wg (ew0 (Or.inr f2))) (em.trans (cj_4 (e_in0 (Or.inr fm))))
  have wf := ew1 (N := N) (I := I) f1 f2
  by_cases d1 : d < 0 ∨ 100 < d
  · by_cases fm : m < f
    · exact hr_no hR (-2) (ce_c3 eh wg wf (ew0 d1)) (em.trans (cj_4 (e_in0 (Or.inr fm))))
    · exact hr_no hR (-2) (ce_c3 eh wg wf (ew0 d1)) (em.trans (cj_5 (e_in1 f1 fm) (e_in0 d1)))
  have d2 : ¬ d < 0 := fun z => d1 (Or.inl z)
  have d3 : ¬ 100 < d := fun z => d1 (Or.inr z)
  have wd := ew1 (N := N) (I := I) d2 d3
  by_cases h1 : h < 0 ∨ 50 < h
  · by_cases fm : m < f
    · exact hr_no hR (-2) (ce_c4 eh wg wf wd (ew0 h1)) (em.trans (cj_4 (e_in0 (Or.inr fm))))
    · exact hr_no hR (-2) (ce_c4 eh wg wf wd (ew0 h1)) (em.trans (cj_6 (e_in1 f1 fm) (e_in1 d2 d3) (e_in0 h1)))
  have h2 : ¬ h < 0 := fun z => h1 (Or.inl z)
  have h3 : ¬ 50 < h := fun z => h1 (Or.inr z)
  have wh := ew1 (N := N) (I := I) h2 h3
  by_cases fm : m < f
  · have em2 := em.trans (cj_4 (e_in0 (Or.inr fm)))
    rcases hm with ⟨rfl, rfl | rfl⟩ | ⟨rfl, _⟩
    · have f0 : ¬ f = 0 := fun z => by rw [z] at fm; exact absurd fm (by decide)
      exact hr_no hR (-2) (ce_c5 eh wg wf wd wh (eq_false f0)) em2
    · have f0 : ¬ f = 0 := fun z => by rw [z] at fm; exact absurd fm (by decide)
      exact hr_no hR (-2) (ce_c6 eh wg wf wd wh (eq_false f0)) em2
    · exact absurd fm f2
  have hgf : 0 < f → ¬ g = 0 ∧ ¬ g = 5 := fun z => by
    rcases hm with ⟨rfl, _⟩ | ⟨rfl, y1, y2⟩
    · exact absurd z fm
    · exact ⟨y1, y2⟩
  have eB : fX7_cell N [.ref 6, .int (nI n), .int g, .int f, .int d, .int h] I = BX7_cell_71 N [.ref 6, .int (nI n), .int g, .int f, .int d, .int h] [] I := by
    by_cases f0 : f = 0
    · subst f0
      exact ce_c7 eh wg wf wd wh
    · have fp : 0 < f := by
        rcases Int32.lt_or_eq_of_le (Int32.not_lt.mp f1) with z | z
        · exact z
        · exact absurd z.symm f0
      exact ce_c8 eh wg wf wd wh (eq_false f0) (eq_false (hgf fp).1) (eq_false (hgf fp).2)
  have hv : J 215 1816 = I 22 9 := by
    have := hR.2.2.2.1.2.1.1
    rw [Nat.zero_add] at this
    exact this.symm
  by_cases hs : I 22 9 ≤ 0
  rotate_left
  · exact hr_no hR (-3) (eB.trans (ce_c9 (eq_false hs))) (em.trans (cj_7 (e_in1 f1 fm) (e_in1 d2 d3) (e_in1 h2 h3) (eq_false (by rw [hv]; exact hs))))
  have em3 := em.trans (cj_8 (by omega) (e_in1 f1 fm) (e_in1 d2 d3) (e_in1 h2 h3) (eq_true (by rw [hv]; exact hs)))
  have ec3 := eB.trans (ce_c10 (eq_true hs) (te_c (by omega)) (bc_c (by omega)))
  obtain ⟨I1, hI1⟩ : ∃ I1, I1 = hf_w (hf_w (hf_w (hf_w (hf_w I 8 n g) 9 n f) 10 n d) 11 n h) 7 7 (I 7 7 + nI 1) := ⟨_, rfl⟩
  rw [← hI1] at ec3
  have i9 : I1 9 n = f := by
    rw [hI1]
    simp (disch := omega) only [hw6, hn_ne, ite_true, ite_false, if_true, if_false, ↓reduceIte, Nat.reduceEqDiff, Nat.reduceAdd, Nat.zero_add]
  have i10 : I1 10 n = d := by
    rw [hI1]
    simp (disch := omega) only [hw6, hn_ne, ite_true, ite_false, if_true, if_false, ↓reduceIte, Nat.reduceEqDiff, Nat.reduceAdd, Nat.zero_add]
  rw [i9, i10] at ec3
  obtain ⟨I2, hI2⟩ : ∃ I2, I2 = hf_w (hf_w (hf_w (hf_w (hf_w (hf_w I1 23 n (hp_s0 f)) 24 n f) 25 n d) 26 n (nI 0)) 27 n (nI 0)) 28 n (-6) := ⟨_, rfl⟩
  rw [← hI2] at ec3
  obtain ⟨J2, hJ2⟩ : ∃ J2, J2 = hp_cj J n g f d h (hp_s0 f) := ⟨_, rfl⟩
  rw [← hJ2] at em3
  unfold hp_cj at hJ2
  have F1 : ∀ e, e < 23 ∨ 28 < e → I2 e = I1 e := fun e he => by
    rw [hI2]
    repeat rw [hw_d (by omega)]
  have F2 : ∀ e, e < 7 ∨ 11 < e → I1 e = I e := fun e he => by
    rw [hI1]
    repeat rw [hw_d (by omega)]
  have hg : ∃ k, k ≤ 5 ∧ g = nI k ∧ (0 < f → 1 ≤ k ∧ k ≤ 4) := by
    obtain ⟨k, k5, rfl⟩ := hr_rng (n := 5) (by decide) g1 g2
    refine ⟨k, k5, rfl, fun z => ?_⟩
    obtain ⟨z1, z2⟩ := hgf z
    refine ⟨?_, ?_⟩
    · rcases Nat.eq_zero_or_pos k with y | y
      · subst y; exact absurd rfl z1
      · exact y
    · rcases Nat.lt_or_ge k 5 with y | y
      · omega
      · have : k = 5 := by omega
        subst this; exact absurd rfl z2
  have G : ∀ e, e < 204 ∨ (208 < e ∧ e ≠ 215) → J2 e = J e := fun e he => by
    rw [hJ2]
    repeat rw [hw_d (by omega)]
  have F : ∀ e, e < 7 ∨ (11 < e ∧ e < 23) ∨ 28 < e → I2 e = I e := fun e he => by rw [F1 e (by omega), F2 e (by omega)]
  refine ⟨1, r, c, I2, J2, ec3, em3, ce_r (g := g) (f := f) (d := d) (h := h) hq hR hn hs hg F (fun j hj => ?_) ?_ (fun e y he hy => ?_) ⟨?_, ?_, ?_, ?_, ?_, ?_, ?_, ?_, ?_, ?_⟩ G (fun j hj => ?_) ?_ (fun e y e1 e2 hy => ?_) (fun y y1 y2 y3 => ?_) ⟨?_, ?_, ?_, ?_, ?_, ?_, ?_⟩, fun e he => F e (by omega), fun e he => G e (by omega)⟩
  · rw [F1 7 (by decide), hI1, hw_o (Or.inr hj)]
    repeat rw [hw_d (by decide)]
  · rw [F1 7 (by decide), hI1, hw_s]
  · rw [hI2, hw_o (Or.inr hy), hw_o (Or.inr hy), hw_o (Or.inr hy), hw_o (Or.inr hy), hw_o (Or.inr hy), hw_o (Or.inr hy), hI1, hw_d he, hw_o (Or.inr hy), hw_o (Or.inr hy), hw_o (Or.inr hy), hw_o (Or.inr hy)]
  · rw [F1 8 (by decide), hI1]
    simp (disch := omega) only [hw6, hn_ne, ite_true, ite_false, if_true, if_false, ↓reduceIte, Nat.reduceEqDiff, Nat.reduceAdd, Nat.zero_add]
  · rw [F1 9 (by decide)]; exact i9
  · rw [F1 10 (by decide)]; exact i10
  · rw [F1 11 (by decide), hI1]
    simp (disch := omega) only [hw6, hn_ne, ite_true, ite_false, if_true, if_false, ↓reduceIte, Nat.reduceEqDiff, Nat.reduceAdd, Nat.zero_add]
  · rw [hI2]
    simp (disch := omega) only [hw6, hn_ne, ite_true, ite_false, if_true, if_false, ↓reduceIte, Nat.reduceEqDiff, Nat.reduceAdd, Nat.zero_add]
  · rw [hI2]
    simp (disch := omega) only [hw6, hn_ne, ite_true, ite_false, if_true, if_false, ↓reduceIte, Nat.reduceEqDiff, Nat.reduceAdd, Nat.zero_add]
  · rw [hI2]
    simp (disch := omega) only [hw6, hn_ne, ite_true, ite_false, if_true, if_false, ↓reduceIte, Nat.reduceEqDiff, Nat.reduceAdd, Nat.zero_add]
  · rw [hI2]
    simp (disch := omega) only [hw6, hn_ne, ite_true, ite_false, if_true, if_false, ↓reduceIte, Nat.reduceEqDiff, Nat.reduceAdd, Nat.zero_add]
  · rw [hI2]
    simp (disch := omega) only [hw6, hn_ne, ite_true, ite_false, if_true, if_false, ↓reduceIte, Nat.reduceEqDiff, Nat.reduceAdd, Nat.zero_add]
  · rw [hI2]
    simp (disch := omega) only [hw6, hn_ne, ite_true, ite_false, if_true, if_false, ↓reduceIte, Nat.reduceEqDiff, Nat.reduceAdd, Nat.zero_add]
  · rw [hJ2, hw_o (Or.inr hj)]
    repeat rw [hw_d (by decide)]
  · rw [hJ2, hw_s]
  · rw [hJ2, hw_d e1, hw_d e2, hw_d e2, hw_d e2, hw_o (Or.inr hy), hw_o (Or.inr hy), hw_o (Or.inr hy), hw_o (Or.inr hy)]
  · rw [hJ2, hw_d (by decide), hw_o (Or.inr y3), hw_o (Or.inr y2), hw_o (Or.inr y1)]
    repeat rw [hw_d (by decide)]
  · rw [hJ2]
    simp (disch := omega) only [hw6, hn_ne, ite_true, ite_false, if_true, if_false, ↓reduceIte, Nat.reduceEqDiff, Nat.reduceAdd, Nat.zero_add]
  · rw [hJ2]
    simp (disch := omega) only [hw6, hn_ne, ite_true, ite_false, if_true, if_false, ↓reduceIte, Nat.reduceEqDiff, Nat.reduceAdd, Nat.zero_add]
  · rw [hJ2]
    simp (disch := omega) only [hw6, hn_ne, ite_true, ite_false, if_true, if_false, ↓reduceIte, Nat.reduceEqDiff, Nat.reduceAdd, Nat.zero_add]
  · rw [hJ2]
    simp (disch := omega) only [hw6, hn_ne, ite_true, ite_false, if_true, if_false, ↓reduceIte, Nat.reduceEqDiff, Nat.reduceAdd, Nat.zero_add]
  · rw [hJ2]
    simp (disch := omega) only [hw6, hn_ne, ite_true, ite_false, if_true, if_false, ↓reduceIte, Nat.reduceEqDiff, Nat.reduceAdd, Nat.zero_add]
  · rw [hJ2]
    simp (disch := omega) only [hw6, hn_ne, ite_true, ite_false, if_true, if_false, ↓reduceIte, Nat.reduceEqDiff, Nat.reduceAdd, Nat.zero_add]
  · rw [hJ2]
    simp (disch := omega) only [hw6, hn_ne, ite_true, ite_false, if_true, if_false, ↓reduceIte, Nat.reduceEqDiff, Nat.reduceAdd, Nat.zero_add]
