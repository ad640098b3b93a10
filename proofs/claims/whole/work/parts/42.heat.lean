/-! heat and embers: what both sides reckon -/
def hp_lot (sd st n k : Int32) : Int32 := hf_ush (((sd * 69069 + st * 40503 + n * 2654435 + k * 9973 ^^^ hf_ush (sd * 69069 + st * 40503 + n * 2654435 + k * 9973) 15) * 739982445 ^^^ hf_ush ((sd * 69069 + st * 40503 + n * 2654435 + k * 9973 ^^^ hf_ush (sd * 69069 + st * 40503 + n * 2654435 + k * 9973) 15) * 739982445) 15) * 739982445) 16
theorem ush_n (x : Int32) : ∃ z, z < 65536 ∧ hf_ush x 16 = nI z := by
  have e : x = nI x.toBitVec.toNat := by
    apply Int32.toBitVec_inj.mp
    simp [nI]
  have hl := x.toBitVec.isLt
  generalize x.toBitVec.toNat = y at e hl
  subst e
  exact ⟨y / 2 ^ 16, Nat.div_lt_of_lt_mul (by omega), pk_ushrN (by omega) 16 16 (by decide)⟩
def hp_z (sd st : Int32) (n k : Nat) : Nat := (hp_lot sd st (nI n) (nI k)).toNatClampNeg
theorem hp_z_lot (sd st : Int32) (n k : Nat) : hp_lot sd st (nI n) (nI k) = nI (hp_z sd st n k) ∧ hp_z sd st n k < 65536 := by
  obtain ⟨z, h1, h2⟩ := ush_n (((sd * 69069 + st * 40503 + nI n * 2654435 + nI k * 9973 ^^^ hf_ush (sd * 69069 + st * 40503 + nI n * 2654435 + nI k * 9973) 15) * 739982445 ^^^ hf_ush ((sd * 69069 + st * 40503 + nI n * 2654435 + nI k * 9973 ^^^ hf_ush (sd * 69069 + st * 40503 + nI n * 2654435 + nI k * 9973) 15) * 739982445) 15) * 739982445)
  have h3 : hp_lot sd st (nI n) (nI k) = nI z := h2
  unfold hp_z
  rw [h3, nI_clamp (by omega)]
  exact ⟨rfl, h1⟩
def hp_c6 (z : Int32) : Int32 := if -6 < (if z < 6 then z else 6) then (if z < 6 then z else 6) else -6
theorem c6_m (z : Int32) : (if z ≤ 6 then (if -6 ≤ z then z else -6) else 6) = hp_c6 z := by
  unfold hp_c6
  have e6 : (6 : Int32).toInt = 6 := by decide
  have em : (-6 : Int32).toInt = -6 := by decide
  by_cases h1 : z < 6
  · have h1' := Int32.lt_iff_toInt_lt.mp h1
    rw [if_pos h1, if_pos (Int32.le_iff_toInt_le.mpr (by omega))]
    by_cases h2 : -6 < z
    · have h2' := Int32.lt_iff_toInt_lt.mp h2
      rw [if_pos h2, if_pos (Int32.le_iff_toInt_le.mpr (by omega))]
    · rw [if_neg h2]
      by_cases h3 : -6 ≤ z
      · rw [if_pos h3]
        exact Int32.le_antisymm (Int32.not_lt.mp h2) h3
      · rw [if_neg h3]
  · rw [if_neg h1, if_pos (c := (-6 : Int32) < 6) (by decide)]
    by_cases h2 : z ≤ 6
    · have : z = 6 := Int32.le_antisymm h2 (Int32.not_lt.mp h1)
      subst this
      decide
    · rw [if_neg h2]
theorem msk : ∀ d, d < 8 → ∀ w, w < 8 → nI d - nI w &&& 7 = nI ((d + 8 - w) % 8) := by decide
/-- the heat that cell n gives to cell m in direction d -/
def hp_ht (w s : Nat) (h : Nat → Int32) (b : Int32) (n d m : Nat) : Int32 := b * (8 + nI s * hf_tab 3 ((d + 8 - w) % 8) + hp_c6 (h m - h n)) / 8
def hp_g1 (r c w s : Nat) (h : Nat → Int32) (b : Int32) (n : Nat) (X : Nat → Int32) (d : Nat) (A : (Nat → Int32) × Int32) : (Nat → Int32) × Int32 := match hp_of r c n d 1 with
  | none => A
  | some m => if hp_ht w s h b n d m ≤ 0 then A else (upd A.1 m (A.1 m + hp_ht w s h b n d m), A.2 + X m)
def hp_gl (r c w s : Nat) (h : Nat → Int32) (b : Int32) (n : Nat) (X : Nat → Int32) : Nat → Nat → (Nat → Int32) × Int32 → (Nat → Int32) × Int32
  | 0, _, A => A
  | k + 1, d, A => hp_gl r c w s h b n X k (d + 1) (hp_g1 r c w s h b n X d A)
theorem gl_shift {r c w s : Nat} {h : Nat → Int32} {b : Int32} {n : Nat} {X : Nat → Int32} : ∀ (k d : Nat) (g : Nat → Int32) (p q : Int32), hp_gl r c w s h b n X k d (g, p + q) = ((hp_gl r c w s h b n X k d (g, q)).1, p + (hp_gl r c w s h b n X k d (g, q)).2) := by
  intro k
  induction k with
  | zero => intro d g p q; rfl
  | succ k ih =>
    intro d g p q
    show hp_gl r c w s h b n X k (d + 1) (hp_g1 r c w s h b n X d (g, p + q)) = ((hp_gl r c w s h b n X k (d + 1) (hp_g1 r c w s h b n X d (g, q))).1, p + (hp_gl r c w s h b n X k (d + 1) (hp_g1 r c w s h b n X d (g, q))).2)
    unfold hp_g1
    cases hp_of r c n d 1 with
    | none => exact ih _ _ _ _
    | some m =>
      simp only []
      split
      · exact ih _ _ _ _
      · rw [Int32.add_assoc]; exact ih _ _ _ _
/-- where the ember of a cell falls -/
def hp_tg (r c w s gn z0 z1 n : Nat) : Option Nat := if gn = 3 ∧ 2 ≤ s ∧ z0 % 100 < 6 * s then hp_of r c n w (2 + z1 % 3) else none
abbrev hT := (Nat → Int32) × Int32 × Int32
def hp_ce (T : hT) (b : (Nat → Int32) × Int32) (X : Nat → Int32) (t : Option Nat) : hT := match t with
  | none => (b.1, T.2.1 + (b.2 + 0), T.2.2)
  | some m => (upd b.1 m (b.1 m + 40), T.2.1 + (b.2 + X m), T.2.2 + 1)
/-- one cell that is alight -/
def hp_cb (r c w s : Nat) (h b : Nat → Int32) (gr : Nat → Nat) (sd sp : Int32) (X : Nat → Nat → Int32) (n : Nat) (T : hT) : hT := hp_ce T (hp_gl r c w s h (b n) n (X n) 8 0 (T.1, 0)) (X n) (hp_tg r c w s (gr n) (hp_z sd sp n 0) (hp_z sd sp n 1) n)
def hp_T (r c w s : Nat) (h b : Nat → Int32) (gr : Nat → Nat) (sd sp : Int32) (X : Nat → Nat → Int32) (st : Nat → Int32) : Nat → hT → hT
  | 0, T => T
  | n + 1, T => if st n = 2 then hp_cb r c w s h b gr sd sp X n (hp_T r c w s h b gr sd sp X st n T) else hp_T r c w s h b gr sd sp X st n T
/-- two heats that agree on the grid stay so; off the grid nothing changes -/
theorem gl_agree {r c w s : Nat} {h : Nat → Int32} {b : Int32} {n : Nat} {X : Nat → Int32} : ∀ (k d : Nat) (A B : (Nat → Int32) × Int32), (∀ m, m < r * c → A.1 m = B.1 m) → A.2 = B.2 → (∀ m, m < r * c → (hp_gl r c w s h b n X k d A).1 m = (hp_gl r c w s h b n X k d B).1 m) ∧ (hp_gl r c w s h b n X k d A).2 = (hp_gl r c w s h b n X k d B).2 := by
  intro k
  induction k with
  | zero => intro d A B h1 h2; exact ⟨h1, h2⟩
  | succ k ih =>
    intro d A B h1 h2
    refine ih (d + 1) (hp_g1 r c w s h b n X d A) (hp_g1 r c w s h b n X d B) ?_ ?_
    · unfold hp_g1
      cases e : hp_of r c n d 1 with
      | none => exact h1
      | some m =>
        simp only []
        split
        · exact h1
        · intro y hy
          simp only [hu_r]
          rw [h1 m (hp_of_lt e), h1 y hy]
    · unfold hp_g1
      cases hp_of r c n d 1 with
      | none => exact h2
      | some m =>
        simp only []
        split
        · exact h2
        · simp only []; rw [h2]
theorem gl_off {r c w s : Nat} {h : Nat → Int32} {b : Int32} {n : Nat} {X : Nat → Int32} : ∀ (k d : Nat) (A : (Nat → Int32) × Int32) (y : Nat), r * c ≤ y → (hp_gl r c w s h b n X k d A).1 y = A.1 y := by
  intro k
  induction k with
  | zero => intro d A y _; rfl
  | succ k ih =>
    intro d A y hy
    show (hp_gl r c w s h b n X k (d + 1) (hp_g1 r c w s h b n X d A)).1 y = _
    rw [ih (d + 1) _ y hy]
    unfold hp_g1
    cases e : hp_of r c n d 1 with
    | none => rfl
    | some m =>
      simp only []
      split
      · rfl
      · have := hp_of_lt e
        simp only [hu_r]
        rw [if_neg (by omega)]
theorem tg_lt {r c w s gn z0 z1 n m : Nat} (h : hp_tg r c w s gn z0 z1 n = some m) : m < r * c := by
  unfold hp_tg at h
  split at h
  · exact hp_of_lt h
  · cases h
theorem T_agree {r c w s : Nat} {h b : Nat → Int32} {gr : Nat → Nat} {sd sp : Int32} {X : Nat → Nat → Int32} {st : Nat → Int32} {T T' : hT} (h1 : ∀ m, m < r * c → T.1 m = T'.1 m) (h2 : T.2 = T'.2) : ∀ n, (∀ m, m < r * c → (hp_T r c w s h b gr sd sp X st n T).1 m = (hp_T r c w s h b gr sd sp X st n T').1 m) ∧ (hp_T r c w s h b gr sd sp X st n T).2 = (hp_T r c w s h b gr sd sp X st n T').2 := by
  intro n
  induction n with
  | zero => exact ⟨h1, h2⟩
  | succ n ih =>
    obtain ⟨i1, i2⟩ := ih
    unfold hp_T
    split
    · unfold hp_cb
      obtain ⟨g1, g2⟩ := gl_agree (r := r) (c := c) (w := w) (s := s) (h := h) (b := b n) (n := n) (X := X n) 8 0 ((hp_T r c w s h b gr sd sp X st n T).1, 0) ((hp_T r c w s h b gr sd sp X st n T').1, 0) i1 rfl
      unfold hp_ce
      cases e : hp_tg r c w s (gr n) (hp_z sd sp n 0) (hp_z sd sp n 1) n with
      | none =>
        simp only []
        exact ⟨g1, by rw [i2, g2]⟩
      | some m =>
        simp only []
        refine ⟨fun y hy => ?_, by rw [i2, g2]⟩
        simp only [hu_r]
        rw [g1 m (tg_lt e), g1 y hy]
    · exact ⟨i1, i2⟩
theorem T_off {r c w s : Nat} {h b : Nat → Int32} {gr : Nat → Nat} {sd sp : Int32} {X : Nat → Nat → Int32} {st : Nat → Int32} {T : hT} : ∀ (n y : Nat), r * c ≤ y → (hp_T r c w s h b gr sd sp X st n T).1 y = T.1 y := by
  intro n
  induction n with
  | zero => intro y _; rfl
  | succ n ih =>
    intro y hy
    unfold hp_T
    split
    · unfold hp_cb hp_ce
      cases e : hp_tg r c w s (gr n) (hp_z sd sp n 0) (hp_z sd sp n 1) n with
      | none => simp only []; rw [gl_off 8 0 _ y hy]; exact ih y hy
      | some m =>
        have := tg_lt e
        simp only [hu_r]
        rw [if_neg (by omega), gl_off 8 0 _ y hy]; exact ih y hy
    · exact ih y hy
/-- the strip of a row -/
def hp_si (a : Nat → Nat) : Nat → Nat → Nat
  | 0, _ => 0
  | k + 1, x => if a k ≤ x then k else hp_si a k x
theorem si_ex {a : Nat → Nat} : ∀ (k x : Nat), 1 ≤ k → a 0 ≤ x → x < a k → hp_si a k x < k ∧ a (hp_si a k x) ≤ x ∧ x < a (hp_si a k x + 1) := by
  intro k
  induction k with
  | zero => intro x h; omega
  | succ k ih =>
    intro x h1 h2 h3
    unfold hp_si
    split
    · rename_i h; exact ⟨by omega, h, h3⟩
    · rename_i h
      by_cases hk : k = 0
      · subst hk; exact absurd h2 h
      · have := ih x (by omega) h2 (by omega)
        exact ⟨by omega, this.2⟩
theorem a_mono {a : Nat → Nat} {k : Nat} (h : ∀ i, i < k → a i < a (i + 1)) : ∀ (j i : Nat), i ≤ j → j ≤ k → a i ≤ a j := by
  intro j
  induction j with
  | zero => intro i h1 _; have : i = 0 := by omega
            subst this; exact Nat.le_refl _
  | succ j ih =>
    intro i h1 h2
    by_cases e : i = j + 1
    · subst e; exact Nat.le_refl _
    · have := ih i (by omega) (by omega)
      have := h j (by omega)
      omega
theorem si_eq {a : Nat → Nat} {k i x : Nat} (h : ∀ i, i < k → a i < a (i + 1)) (h0 : a 0 = 0) (hi : i < k) (h1 : a i ≤ x) (h2 : x < a (i + 1)) : hp_si a k x = i := by
  have hk : x < a k := by
    have := a_mono h k (i + 1) (by omega) (Nat.le_refl _)
    omega
  obtain ⟨s1, s2, s3⟩ := si_ex k x (by omega) (by omega) hk
  rcases Nat.lt_trichotomy (hp_si a k x) i with z | z | z
  · have := a_mono h i (hp_si a k x + 1) (by omega) (by omega); omega
  · exact z
  · have := a_mono h (hp_si a k x) (i + 1) (by omega) (by omega); omega
/-- 1 for a cell outside the strip from lo up to hi -/
def hp_xs (lo hi m : Nat) : Int32 := if m < lo then 1 else if m < hi then 0 else 1
def hp_X (a : Nat → Nat) (k c n m : Nat) : Int32 := hp_xs (a (hp_si a k (n / c)) * c) (a (hp_si a k (n / c) + 1) * c) m
theorem div_lo {c x m : Nat} (hc : 0 < c) : m < x * c ↔ m / c < x := by rw [Nat.div_lt_iff_lt_mul hc]
theorem hp_X_eq {a : Nat → Nat} {k c n m : Nat} (h : ∀ i, i < k → a i < a (i + 1)) (h0 : a 0 = 0) (hk : 1 ≤ k) (hc : 0 < c) (hn : n / c < a k) (hm : m / c < a k) : hp_X a k c n m = if hp_si a k (n / c) = hp_si a k (m / c) then 0 else 1 := by
  unfold hp_X hp_xs
  obtain ⟨s1, s2, s3⟩ := si_ex k (n / c) hk (by rw [h0]; exact Nat.zero_le _) hn
  obtain ⟨t1, t2, t3⟩ := si_ex k (m / c) hk (by rw [h0]; exact Nat.zero_le _) hm
  by_cases e : hp_si a k (n / c) = hp_si a k (m / c)
  · rw [if_pos e, if_neg (by rw [div_lo hc, e]; omega), if_pos (by rw [div_lo hc, e]; exact t3)]
  · rw [if_neg e]
    by_cases l : m < a (hp_si a k (n / c)) * c
    · rw [if_pos l]
    · rw [if_neg l]
      by_cases l2 : m < a (hp_si a k (n / c) + 1) * c
      · exact absurd (si_eq h h0 s1 (by rw [div_lo hc] at l; omega) (by rw [div_lo hc] at l2; exact l2)).symm e
      · rw [if_neg l2]
