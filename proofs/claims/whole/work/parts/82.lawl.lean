/-! the law's loop -/
set_option maxRecDepth 100000 in
theorem lb_0 {N L f i : Nat} {xs : Nat → Int32} {I : hf_M} (hL : L ≤ 3072) (hi : i + 6 ≤ L) : BL_18 N L xs (f + 1) [.ref 0, .ref 6, .ref 204, .int (nI i)] [] I = c_tsw [BL_c0 N L xs (BL_18 N L xs f), BL_c1 N L xs (BL_18 N L xs f), BL_c2 N L xs (BL_18 N L xs f), BL_c3 N L xs (BL_18 N L xs f), BL_c4 N L xs (BL_18 N L xs f), BL_c5 N L xs (BL_18 N L xs f), BL_c6 N L xs (BL_18 N L xs f), BL_c7 N L xs (BL_18 N L xs f), BL_c8 N L xs (BL_18 N L xs f), BL_c9 N L xs (BL_18 N L xs f), BL_c10 N L xs (BL_18 N L xs f), BL_c11 N L xs (BL_18 N L xs f), BL_c12 N L xs (BL_18 N L xs f), BL_c13 N L xs (BL_18 N L xs f), BL_c14 N L xs (BL_18 N L xs f), BL_c15 N L xs (BL_18 N L xs f), BL_c16 N L xs (BL_18 N L xs f), BL_c17 N L xs (BL_18 N L xs f), BL_c18 N L xs (BL_18 N L xs f), BL_c19 N L xs (BL_18 N L xs f), BL_c20 N L xs (BL_18 N L xs f), BL_c21 N L xs (BL_18 N L xs f), BL_c22 N L xs (BL_18 N L xs f)] (BL_cd N L xs (BL_18 N L xs f)) [.ref 0, .ref 6, .ref 204, .int (nI i)] [.int (xs i &&& 31)] I := by
  have eL : Int32.ofNat L - 6 = nI (L - 6) := by
    obtain ⟨M, rfl⟩ : ∃ M, L = M + 6 := ⟨L - 6, by omega⟩
    have h : nI (M + 6) = nI M + 6 := (nI_add M 6).symm
    show nI (M + 6) - 6 = _
    rw [h, Nat.add_sub_cancel, Int32.add_sub_cancel]
  have h1 : (nI (L - 6) < nI i) = False := hx_nlt (by omega) (by omega)
  simp (disch := omega) only [BL_18, r_iload, r_aload, r_slen, r_const, r_isub, r_icmpgt, r_sld, r_iand, List.getElem?_cons_zero, List.getElem?_cons_succ, eL, h1, hf_inI, nI_clamp, and_self, ite_true, ite_false, if_true, if_false, ↓reduceIte]
set_option maxRecDepth 100000 in
theorem lb_1 {N L f i : Nat} {xs : Nat → Int32} {I : hf_M} (h : Int32.ofNat L - 6 < nI i) : BL_18 N L xs (f + 1) [.ref 0, .ref 6, .ref 204, .int (nI i)] [] I = some (some (.int 1), I) := by
  have h1 := eq_true h
  simp (disch := omega) only [BL_18, r_iload, r_aload, r_slen, r_const, r_isub, r_icmpgt, r_lret, List.getElem?_cons_zero, List.getElem?_cons_succ, h1, and_self, ite_true, ite_false, if_true, if_false, ↓reduceIte]
theorem lb_2 {L i : Nat} (hL : L ≤ 3072) (hi : ¬ i + 6 ≤ L) (hi2 : i < 2 ^ 31) : Int32.ofNat L - 6 < nI i := by
  rcases Nat.lt_or_ge L 6 with z | z
  · exact Int32.lt_of_lt_of_le ((by decide : ∀ L, L < 6 → Int32.ofNat L - 6 < 0) L z) (Int32.not_lt.mp (nI_pos hi2))
  · have eL : Int32.ofNat L - 6 = nI (L - 6) := by
      obtain ⟨M, rfl⟩ : ∃ M, L = M + 6 := ⟨L - 6, by omega⟩
      have h : nI (M + 6) = nI M + 6 := (nI_add M 6).symm
      show nI (M + 6) - 6 = _
      rw [h, Nat.add_sub_cancel, Int32.add_sub_cancel]
    rw [eL]
    exact nI_lt (by omega) hi2
theorem lb_3 {ks : List (hf_K hf_M)} {kd k : hf_K hf_M} {t : Nat} {pl : List Value} {I : hf_M} (ht : t < 32) (hk : ks[t]? = some k) : c_tsw ks kd pl [.int (nI t)] I = k pl [] I := by
  rw [r_tsw, if_neg (nI_pos (by omega)), nI_clamp (by omega), hk]
theorem lb_4 {ks : List (hf_K hf_M)} {kd : hf_K hf_M} {t : Nat} {pl : List Value} {I : hf_M} (ht : t < 32) (hk : ks[t]? = none) : c_tsw ks kd pl [.int (nI t)] I = kd pl [] I := by
  rw [r_tsw, if_neg (nI_pos (by omega)), nI_clamp (by omega), hk]
/-- one call of the script -/
theorem lb_5 {N L f i q r c : Nat} {xs : Nat → Int32} {I : hf_M} (hN : 4096 ≤ N) (hL : L ≤ 3072) (hi : i + 6 ≤ L) (hq : q < 512) (hR : hr_all r c q I I) : ∃ r' c' I', BL_18 N L xs (f + 1) [.ref 0, .ref 6, .ref 204, .int (nI i)] [] I = BL_18 N L xs f [.ref 0, .ref 6, .ref 204, .int (nI (i + 6))] [] I' ∧ hr_all r' c' (q + 1) I' I' := by
  obtain ⟨t, ht, et⟩ := pk_andE (xs i) (m := 31) 5 (by decide)
  rw [lb_0 hL hi, et]
  match t, ht with
  | 0, _ =>
    obtain ⟨v, r', c', I1, I2, e1, e2, e3⟩ := hr_use (q_grid q N hN (xs (i + 1)) (xs (i + 2))) hq hR
    exact ⟨r', c', I2, (lb_3 (by decide) rfl).trans (lc_0 hL hi e1 e2), e3⟩
  | 1, _ =>
    obtain ⟨v, r', c', I1, I2, e1, e2, e3⟩ := hr_use (q_cell q N (xs (i + 1)) (xs (i + 2)) (xs (i + 3)) (xs (i + 4)) (xs (i + 5))) hq hR
    exact ⟨r', c', I2, (lb_3 (by decide) rfl).trans (lc_1 hL hi e1 e2), e3⟩
  | 2, _ =>
    obtain ⟨v, r', c', I1, I2, e1, e2, e3⟩ := hr_use (q_weather q N (xs (i + 1)) (xs (i + 2)) (xs (i + 3)) (xs (i + 4))) hq hR
    exact ⟨r', c', I2, (lb_3 (by decide) rfl).trans (lc_2 hL hi e1 e2), e3⟩
  | 3, _ =>
    obtain ⟨v, r', c', I1, I2, e1, e2, e3⟩ := hr_use (q_seed q N (xs (i + 1))) hq hR
    exact ⟨r', c', I2, (lb_3 (by decide) rfl).trans (lc_3 hL hi e1 e2), e3⟩
  | 4, _ =>
    obtain ⟨v, r', c', I1, I2, e1, e2, e3⟩ := hr_use (q_light q N (xs (i + 1)) (xs (i + 2))) hq hR
    exact ⟨r', c', I2, (lb_3 (by decide) rfl).trans (lc_4 hL hi e1 e2), e3⟩
  | 5, _ =>
    obtain ⟨v, r', c', I1, I2, e1, e2, e3⟩ := hr_use (q_clear q N hN) hq hR
    exact ⟨r', c', I2, (lb_3 (by decide) rfl).trans (lc_5 hL hi e1 e2), e3⟩
  | 6, _ =>
    obtain ⟨v, r', c', I1, I2, e1, e2, e3⟩ := hr_use (q_step q N hN (xs (i + 1))) hq hR
    exact ⟨r', c', I2, (lb_3 (by decide) rfl).trans (lc_6 hL hi e1 e2), e3⟩
  | 7, _ =>
    obtain ⟨v, r', c', I1, I2, e1, e2, e3⟩ := hr_use (q_about q N (xs (i + 1)) (xs (i + 2))) hq hR
    exact ⟨r', c', I2, (lb_3 (by decide) rfl).trans (lc_7 hL hi e1 e2), e3⟩
  | 8, _ =>
    obtain ⟨v, r', c', I1, I2, e1, e2, e3⟩ := hr_use (q_many q N hN (xs (i + 1))) hq hR
    exact ⟨r', c', I2, (lb_3 (by decide) rfl).trans (lc_8 hL hi e1 e2), e3⟩
  | 9, _ =>
    obtain ⟨v, r', c', I1, I2, e1, e2, e3⟩ := hr_use (q_told q N hN (xs (i + 1))) hq hR
    exact ⟨r', c', I2, (lb_3 (by decide) rfl).trans (lc_9 hL hi e1 e2), e3⟩
  | 10, _ =>
    obtain ⟨v, r', c', I1, I2, e1, e2, e3⟩ := hr_use (q_sky q N hN (xs (i + 1)) (xs (i + 2))) hq hR
    exact ⟨r', c', I2, (lb_3 (by decide) rfl).trans (lc_10 hL hi e1 e2), e3⟩
  | 11, _ =>
    obtain ⟨v, r', c', I1, I2, e1, e2, e3⟩ := hr_use (q_front q N hN (xs (i + 1))) hq hR
    exact ⟨r', c', I2, (lb_3 (by decide) rfl).trans (lc_11 hL hi e1 e2), e3⟩
  | 12, _ =>
    obtain ⟨v, r', c', I1, I2, e1, e2, e3⟩ := hr_use (q_crew q N hN (xs (i + 1))) hq hR
    exact ⟨r', c', I2, (lb_3 (by decide) rfl).trans (lc_12 hL hi e1 e2), e3⟩
  | 13, _ =>
    obtain ⟨v, r', c', I1, I2, e1, e2, e3⟩ := hr_use (q_plan q N (xs (i + 1)) (xs (i + 2)) (xs (i + 3))) hq hR
    exact ⟨r', c', I2, (lb_3 (by decide) rfl).trans (lc_13 hL hi e1 e2), e3⟩
  | 14, _ =>
    obtain ⟨v, r', c', I1, I2, e1, e2, e3⟩ := hr_use (q_halt q N (xs (i + 1))) hq hR
    exact ⟨r', c', I2, (lb_3 (by decide) rfl).trans (lc_14 hL hi e1 e2), e3⟩
  | 15, _ =>
    obtain ⟨v, r', c', I1, I2, e1, e2, e3⟩ := hr_use (q_ofCrew q N (xs (i + 1)) (xs (i + 2))) hq hR
    exact ⟨r', c', I2, (lb_3 (by decide) rfl).trans (lc_15 hL hi e1 e2), e3⟩
  | 16, _ =>
    obtain ⟨v, r', c', I1, I2, e1, e2, e3⟩ := hr_use (q_strips q N hN (xs (i + 1))) hq hR
    exact ⟨r', c', I2, (lb_3 (by decide) rfl).trans (lc_16 hL hi e1 e2), e3⟩
  | 17, _ =>
    by_cases h : xs (i + 1) = 0
    · obtain ⟨v, r', c', I1, I2, e1, e2, e3⟩ := hr_use (q_balanced q N 0 (Or.inl rfl)) hq hR
      exact ⟨r', c', I2, (lb_3 (by decide) rfl).trans (lc_17a hL hi h e1 e2), e3⟩
    · obtain ⟨v, r', c', I1, I2, e1, e2, e3⟩ := hr_use (q_balanced q N 1 (Or.inr rfl)) hq hR
      exact ⟨r', c', I2, (lb_3 (by decide) rfl).trans (lc_17b hL hi (eq_false h) e1 e2), e3⟩
  | 18, _ =>
    obtain ⟨v, r', c', I1, I2, e1, e2, e3⟩ := hr_use (q_strip q N (xs (i + 1)) (xs (i + 2))) hq hR
    exact ⟨r', c', I2, (lb_3 (by decide) rfl).trans (lc_18 hL hi e1 e2), e3⟩
  | 19, _ =>
    obtain ⟨v, r', c', I1, I2, e1, e2, e3⟩ := hr_use (q_keep q N hN (xs (i + 1))) hq hR
    exact ⟨r', c', I2, (lb_3 (by decide) rfl).trans (lc_19 hL hi e1 e2), e3⟩
  | 20, _ =>
    obtain ⟨v, r', c', I1, I2, e1, e2, e3⟩ := hr_use (q_back q N hN (xs (i + 1))) hq hR
    exact ⟨r', c', I2, (lb_3 (by decide) rfl).trans (lc_20 hL hi e1 e2), e3⟩
  | 21, _ =>
    obtain ⟨v, r', c', I1, I2, e1, e2, e3⟩ := hr_use (q_differs q N hN (xs (i + 1))) hq hR
    exact ⟨r', c', I2, (lb_3 (by decide) rfl).trans (lc_21 hL hi e1 e2), e3⟩
  | 22, _ =>
    obtain ⟨v, r', c', I1, I2, e1, e2, e3⟩ := hr_use (q_ahead q N hN (xs (i + 1)) (xs (i + 2))) hq hR
    exact ⟨r', c', I2, (lb_3 (by decide) rfl).trans (lc_22 hL hi e1 e2), e3⟩
  | t + 23, ht => exact ⟨r, c, I, (lb_4 ht rfl).trans lc_d, hr_all_q hR⟩
theorem lb_l {N L : Nat} {xs : Nat → Int32} (hN : 4096 ≤ N) (hL : L ≤ 3072) : ∀ (d q f r c : Nat) (I : hf_M), q + d = 513 → d < f → hr_all r c q I I → ∃ I', BL_18 N L xs f [.ref 0, .ref 6, .ref 204, .int (nI (6 * q))] [] I = some (some (.int 1), I') := by
  intro d
  induction d with
  | zero =>
    intro q f r c I hq hf hR
    obtain ⟨f, rfl⟩ : ∃ k, f = k + 1 := ⟨f - 1, by omega⟩
    exact ⟨I, lb_1 (lb_2 hL (by omega) (by omega))⟩
  | succ d ih =>
    intro q f r c I hq hf hR
    obtain ⟨f, rfl⟩ : ∃ k, f = k + 1 := ⟨f - 1, by omega⟩
    by_cases hi : 6 * q + 6 ≤ L
    · obtain ⟨r', c', I1, e1, e2⟩ := lb_5 (f := f) (xs := xs) hN hL hi (by omega) hR
      obtain ⟨I', e3⟩ := ih (q + 1) f r' c' I1 (by omega) (by omega) e2
      exact ⟨I', e1.trans e3⟩
    · exact ⟨I, lb_1 (lb_2 hL hi (by omega))⟩
