/-! THE RELATION between the class's cells (in I) and the reference's (in J) -/
def hr_land (r c : Nat) (I J : hf_M) : Prop :=
  (2 ≤ r ∧ r ≤ 16 ∧ 2 ≤ c ∧ c ≤ 16 ∧ r * c ≤ 256 ∧ 4 ≤ r * c) ∧ (I 7 4 = nI r ∧ I 7 5 = nI c ∧ I 7 6 = nI (r * c)) ∧ (J 204 0 = nI r ∧ J 204 1 = nI c ∧ J 204 2 = nI (r * c)) ∧
  ∀ n, n < r * c → (∃ k, k ≤ 5 ∧ I 8 n = nI k ∧ J 205 n = nI k ∧ (0 < I 9 n → 1 ≤ k ∧ k ≤ 4)) ∧ I 9 n = J 207 n ∧ I 10 n = J 208 n ∧ I 11 n = J 206 n
def hr_sky (I J : hf_M) : Prop := ∃ k, k ≤ 16 ∧ I 12 2 = nI k ∧ J 204 7 = nI k ∧ ∀ i, i < k → I 13 i = J 209 i ∧ (∃ w, w ≤ 7 ∧ I 14 (i * 3) = nI w ∧ J 210 i = nI w) ∧ (∃ w, w ≤ 4 ∧ I 14 (i * 3 + 1) = nI w ∧ J 211 i = nI w) ∧ ∃ w, w ≤ 9 ∧ I 14 (i * 3 + 2) = nI w ∧ J 212 i = nI w
def hr_lit (r c : Nat) (I J : hf_M) : Prop := ∃ k, k ≤ 20 ∧ I 15 2 = nI k ∧ J 204 13 = nI k ∧ ∀ i, i < k → (∃ n, n < r * c ∧ I 16 i = nI n ∧ J 213 i = nI n) ∧ I 17 i = J 214 i
/-- a crew with code k, number i -/
def hr_crew (r c : Nat) (I : hf_M) (k : Nat) (J : hf_M) (A o i : Nat) : Prop :=
  (∃ n, n < r * c ∧ I k 4 = nI n ∧ J A (o + (1536 + 8 * i)) = nI n) ∧ I k 5 = J A (o + (1536 + 8 * i + 1)) ∧
  (∃ a, a ≤ 12 ∧ I k 2 = nI a ∧ J A (o + (1536 + 8 * i + 2)) = nI a ∧ (I k 9 = 1 → a = 0) ∧
    (∀ j, j < a → ∃ t x, t ≤ 5 ∧ I (k + 1) j = nI t ∧ J A (o + (1600 + 24 * i + 2 * j)) = nI t ∧ I (k + 2) j = x ∧ J A (o + (1600 + 24 * i + 2 * j + 1)) = x ∧ (t = 1 → ∃ n, n < r * c ∧ x = nI n) ∧ (t = 0 → ∃ n, 1 ≤ n ∧ n ≤ 100 ∧ x = nI n)) ∧
    (I k 9 = 0 → (a = 0 → I k 3 = 0 ∧ J A (o + (1536 + 8 * i + 7)) = 0) ∧ (0 < a → (I (k + 1) 0 = 1 → J A (o + (1536 + 8 * i + 7)) = 0) ∧ (¬ I (k + 1) 0 = 1 → ∃ sp, I k 3 = nI sp ∧ J A (o + (1536 + 8 * i + 7)) = nI sp ∧ (I (k + 1) 0 = 0 → nI sp < I (k + 2) 0 ∧ sp < 100) ∧ (I (k + 1) 0 = 2 → sp < 2) ∧ (¬ I (k + 1) 0 = 0 → ¬ I (k + 1) 0 = 2 → sp = 0))))) ∧
  I k 9 = J A (o + (1536 + 8 * i + 3)) ∧ (I k 9 = 0 ∨ I k 9 = 1) ∧ I k 6 = J A (o + (1536 + 8 * i + 4)) ∧ I k 7 = J A (o + (1536 + 8 * i + 5)) ∧ I k 8 = J A (o + (1536 + 8 * i + 6))
def hr_crews (r c : Nat) (I : hf_M) (S : Nat) (J : hf_M) (A o : Nat) : Prop := ∃ k, k ≤ 8 ∧ I S 8 = nI k ∧ J A (o + 1817) = nI k ∧ ∀ i, i < k → hr_crew r c I (S + 12 + 3 * i) J A o i
def hr_str (r : Nat) (I : hf_M) (S : Nat) (J : hf_M) (A o : Nat) : Prop := ∃ (k : Nat) (a : Nat → Nat), 1 ≤ k ∧ k ≤ 8 ∧ a 0 = 0 ∧ a k = r ∧ (∀ i, i < k → a i < a (i + 1)) ∧ I (S + 8) 3 = nI k ∧ J A (o + 1818) = nI k ∧
  ∀ i, i < k → I (S + 9) i = nI (a i) ∧ I (S + 10) i = nI (a (i + 1) - 1) ∧ J A (o + (1792 + 3 * i)) = nI (a i) ∧ J A (o + (1792 + 3 * i + 1)) = nI (a (i + 1) - 1) ∧ I (S + 11) i = J A (o + (1792 + 3 * i + 2))
/-- the cells of a scene -/
def hr_cel (r c : Nat) (I : hf_M) (S : Nat) (J : hf_M) (A o : Nat) : Prop := ∀ n, n < r * c → I (S + 1) n = J A (o + n) ∧ I (S + 2) n = J A (o + (256 + n)) ∧ I (S + 3) n = J A (o + (512 + n)) ∧ I (S + 4) n = J A (o + (768 + n)) ∧ I (S + 5) n = J A (o + (1024 + n)) ∧ I (S + 6) n = J A (o + (1280 + n)) ∧
  (I (S + 1) n = 1 ∨ I (S + 1) n = 2 → ∃ k, 1 ≤ k ∧ k ≤ 4 ∧ I 8 n = nI k) ∧ (I (S + 1) n = 1 → I (S + 6) n = -6)
def hr_num (I : hf_M) (S : Nat) (J : hf_M) (A o : Nat) : Prop := I S 9 = J A (o + 1816) ∧ I S 10 = J A (o + 1819) ∧ I S 11 = J A (o + 1820) ∧ I S 12 = J A (o + 1821) ∧ I S 13 = J A (o + 1822) ∧ I S 14 = J A (o + 1823)
def hr_sc (r c : Nat) (I : hf_M) (S : Nat) (J : hf_M) (A o : Nat) : Prop := hr_cel r c I S J A o ∧ hr_num I S J A o ∧ hr_str r I S J A o ∧ hr_crews r c I S J A o
/-- how many steps a scene has had at most; one that has had none is as it began -/
def hr_fr (r c q : Nat) (I : hf_M) (S : Nat) : Prop := ∃ s, I S 9 = nI s ∧ s ≤ 500 * q ∧ (s = 0 → ∀ n, n < r * c → I (S + 4) n = 0 ∧ I (S + 5) n = 0 ∧ I (S + 6) n = -6)
theorem hr_fr_q {r c q q' : Nat} {I : hf_M} {S : Nat} (hq : q ≤ q') (h : hr_fr r c q I S) : hr_fr r c q' I S := by
  obtain ⟨s, h1, h2, h3⟩ := h
  exact ⟨s, h1, by omega, h3⟩
theorem hr_fr_c {r c q : Nat} {I I' : hf_M} {S : Nat} (hI : ∀ d, S ≤ d → d ≤ S + 6 → I' d = I d) (h : hr_fr r c q I S) : hr_fr r c q I' S := by
  unfold hr_fr at h ⊢
  rw [hI S (by omega) (by omega), hI (S + 4) (by omega) (by omega), hI (S + 5) (by omega) (by omega), hI (S + 6) (by omega) (by omega)]
  exact h
/-- what is kept: ages of the land -/
def hr_kept (r c q : Nat) (I J : hf_M) : Prop := ∃ age ch, I 7 7 = nI age ∧ J 204 20 = nI ch ∧ age ≤ 256 * q ∧ 1 ≤ ch ∧ ch ≤ 1 + q ∧ hr_fr r c q I 22 ∧
  ∀ p, p < 3 → (I 95 p = -6 ∧ J 217 p = 0) ∨ ∃ a b, I 95 p = nI a ∧ J 217 p = nI b ∧ a ≤ age ∧ 1 ≤ b ∧ b ≤ ch ∧ (a = age ↔ b = ch) ∧ (a = age → hr_sc r c I (96 + 36 * p) J 216 (1824 * p) ∧ hr_fr r c q I (96 + 36 * p))
def hr_one (I J : hf_M) : Prop := I 6 8 = J 204 12 ∧ I 6 9 = J 204 16 ∧ (I 6 9 = 0 ∨ I 6 9 = 1) ∧ ∀ n, n < 256 → I 20 n = 0 ∧ I 21 n = 0
/-- q: how many calls there were -/
def hr_all (r c q : Nat) (I J : hf_M) : Prop := hr_land r c I J ∧ hr_sky I J ∧ hr_lit r c I J ∧ hr_sc r c I 22 J 215 0 ∧ hr_kept r c q I J ∧ hr_one I J
/-- one call: both answer alike, the relation stays, each writes its own cells -/
def hr_call (q : Nat) (fc fm : hf_M → hf_R hf_M) : Prop := ∀ (r c : Nat) (I J : hf_M), q < 512 → hr_all r c q I J → ∃ (v : Int32) (r' c' : Nat) (I' J' : hf_M), fc I = some (some (.int v), I') ∧ fm J = some (some (.int v), J') ∧ hr_all r' c' (q + 1) I' J' ∧ (∀ d, 204 ≤ d → I' d = I d) ∧ (∀ d, d < 204 → J' d = J d)
/-- the relation looks at the class's cells in I, at the reference's in J alone -/
theorem hr_crew_congr {r c k A o i : Nat} {I I' J J' : hf_M} (hI : ∀ d, d < 204 → I' d = I d) (hJ : ∀ d, 204 ≤ d → J' d = J d) (hk : k + 2 < 204) (hA : 204 ≤ A) (h : hr_crew r c I k J A o i) : hr_crew r c I' k J' A o i := by
  unfold hr_crew at h ⊢
  rw [hI k (by omega), hI (k + 1) (by omega), hI (k + 2) (by omega), hJ A hA]
  exact h
theorem hr_sc_congr {r c S A o : Nat} {I I' J J' : hf_M} (hI : ∀ d, d < 204 → I' d = I d) (hJ : ∀ d, 204 ≤ d → J' d = J d) (hS : S + 36 ≤ 204) (hA : 204 ≤ A) (h : hr_sc r c I S J A o) : hr_sc r c I' S J' A o := by
  obtain ⟨h1, h2, h3, k, h4, h5, h6, h7⟩ := h
  refine ⟨?_, ?_, ?_, k, h4, ?_, ?_, fun i hi => hr_crew_congr hI hJ (by omega) hA (h7 i hi)⟩
  · unfold hr_cel at h1 ⊢
    rw [hI (S + 1) (by omega), hI (S + 2) (by omega), hI (S + 3) (by omega), hI (S + 4) (by omega), hI (S + 5) (by omega), hI (S + 6) (by omega), hI 8 (by omega), hJ A hA]
    exact h1
  · unfold hr_num at h2 ⊢
    rw [hI S (by omega), hJ A hA]
    exact h2
  · unfold hr_str at h3 ⊢
    rw [hI (S + 8) (by omega), hI (S + 9) (by omega), hI (S + 10) (by omega), hI (S + 11) (by omega), hJ A hA]
    exact h3
  · rw [hI S (by omega)]; exact h5
  · rw [hJ A hA]; exact h6
theorem hr_all_congr {r c q : Nat} {I I' J J' : hf_M} (hI : ∀ d, d < 204 → I' d = I d) (hJ : ∀ d, 204 ≤ d → J' d = J d) (h : hr_all r c q I J) : hr_all r c q I' J' := by
  obtain ⟨h1, h2, h3, h4, h5, h6⟩ := h
  refine ⟨?_, ?_, ?_, hr_sc_congr hI hJ (by decide) (by decide) h4, ?_, ?_⟩
  · unfold hr_land at h1 ⊢
    rw [hI 7 (by decide), hI 8 (by decide), hI 9 (by decide), hI 10 (by decide), hI 11 (by decide), hJ 204 (by decide), hJ 205 (by decide), hJ 206 (by decide), hJ 207 (by decide), hJ 208 (by decide)]
    exact h1
  · unfold hr_sky at h2 ⊢
    rw [hI 12 (by decide), hI 13 (by decide), hI 14 (by decide), hJ 204 (by decide), hJ 209 (by decide), hJ 210 (by decide), hJ 211 (by decide), hJ 212 (by decide)]
    exact h2
  · unfold hr_lit at h3 ⊢
    rw [hI 15 (by decide), hI 16 (by decide), hI 17 (by decide), hJ 204 (by decide), hJ 213 (by decide), hJ 214 (by decide)]
    exact h3
  · obtain ⟨age, ch, a1, a2, a3, a4, a5, af, a6⟩ := h5
    refine ⟨age, ch, by rw [hI 7 (by decide)]; exact a1, by rw [hJ 204 (by decide)]; exact a2, a3, a4, a5, hr_fr_c (fun d _ _ => hI d (by omega)) af, fun p hp => ?_⟩
    rw [hI 95 (by decide), hJ 217 (by decide)]
    rcases a6 p hp with h | ⟨a, b, b1, b2, b3, b4, b5, b6, b7⟩
    · exact Or.inl h
    · exact Or.inr ⟨a, b, b1, b2, b3, b4, b5, b6, fun e => ⟨hr_sc_congr hI hJ (by omega) (by decide) (b7 e).1, hr_fr_c (fun d _ _ => hI d (by omega)) (b7 e).2⟩⟩
  · unfold hr_one at h6 ⊢
    rw [hI 6 (by decide), hI 20 (by decide), hI 21 (by decide), hJ 204 (by decide)]
    exact h6
/-- a call on one memory -/
theorem hr_use {q : Nat} {fc fm : hf_M → hf_R hf_M} (h : hr_call q fc fm) {r c : Nat} {I : hf_M} (hq : q < 512) (hR : hr_all r c q I I) : ∃ (v : Int32) (r' c' : Nat) (I1 I2 : hf_M), fc I = some (some (.int v), I1) ∧ fm I1 = some (some (.int v), I2) ∧ hr_all r' c' (q + 1) I2 I2 := by
  obtain ⟨v, r1, c1, I1, J1, e1, e2, e3, e4, e5⟩ := h r c I I hq hR
  have hR2 : hr_all r c q I I1 := hr_all_congr (fun _ _ => rfl) (fun d hd => e4 d hd) hR
  obtain ⟨v2, r2, c2, I2, J2, g1, g2, g3, g4, g5⟩ := h r c I I1 hq hR2
  rw [e1] at g1
  cases g1
  exact ⟨v, r2, c2, I1, J2, e1, g2, hr_all_congr (fun d hd => g5 d hd) (fun _ _ => rfl) g3⟩
/-- q may be counted up where nothing changes -/
theorem hr_all_q {r c q : Nat} {I J : hf_M} (h : hr_all r c q I J) : hr_all r c (q + 1) I J := by
  obtain ⟨h1, h2, h3, h4, ⟨age, ch, a1, a2, a3, a4, a5, af, a6⟩, h6⟩ := h
  refine ⟨h1, h2, h3, h4, ⟨age, ch, a1, a2, by omega, a4, by omega, hr_fr_q (Nat.le_succ q) af, fun p hp => ?_⟩, h6⟩
  rcases a6 p hp with h | ⟨a, b, b1, b2, b3, b4, b5, b6, b7⟩
  · exact Or.inl h
  · exact Or.inr ⟨a, b, b1, b2, b3, b4, b5, b6, fun e => ⟨(b7 e).1, hr_fr_q (Nat.le_succ q) (b7 e).2⟩⟩
