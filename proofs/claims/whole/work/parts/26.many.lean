/-! loops that count and add: many, told -/
def hp_cnt (g : Nat → Int32) (s : Int32) : Nat → Nat → Int32 → Int32
  | 0, _, n => n
  | d + 1, i, n => hp_cnt g s d (i + 1) (if g i = s then n + 1 else n)
theorem hp_cnt_congr {g g' : Nat → Int32} {s : Int32} : ∀ (d i : Nat) (n : Int32), (∀ j, i ≤ j → j < i + d → g j = g' j) → hp_cnt g s d i n = hp_cnt g' s d i n := by
  intro d
  induction d with
  | zero => intro i n _; rfl
  | succ d ih =>
    intro i n h
    show hp_cnt g s d (i + 1) _ = hp_cnt g' s d (i + 1) _
    rw [h i (Nat.le_refl _) (by omega)]
    exact ih (i + 1) _ (fun j h1 h2 => h j (by omega) (by omega))
theorem many_c1 (N f : Nat) (I : hf_M) (s n x : Int32) : BX7_many_16 N (f + 1) [.ref 6, .int s, .int n, .int x] [] I = if I 7 6 ≤ x then some (some (.int n), I) else if hf_in x 256 then (if I 23 x.toNatClampNeg = s then BX7_many_16 N f [.ref 6, .int s, .int (n + 1), .int (x + 1)] [] I else BX7_many_16 N f [.ref 6, .int s, .int n, .int (x + 1)] [] I) else none := rfl
theorem many_m1 (N f : Nat) (J : hf_M) (s n x : Int32) : BX8_many_16 N (f + 1) [.ref 204, .int s, .int n, .int x] [] J = if J 204 2 ≤ x then some (some (.int n), J) else if hf_in (0 + x) 1824 then (if J 215 (0 + x).toNatClampNeg = s then BX8_many_16 N f [.ref 204, .int s, .int (n + 1), .int (x + 1)] [] J else BX8_many_16 N f [.ref 204, .int s, .int (n + 0), .int (x + 1)] [] J) else none := rfl
theorem many_c (N : Nat) {I : hf_M} {s : Int32} {m : Nat} (hm : I 7 6 = nI m) (h256 : m ≤ 256) : ∀ (d i f : Nat) (n : Int32), i + d = m → d < f → BX7_many_16 N f [.ref 6, .int s, .int n, .int (nI i)] [] I = some (some (.int (hp_cnt (I 23) s d i n)), I) := by
  intro d
  induction d with
  | zero =>
    intro i f n hi hf
    obtain ⟨f, rfl⟩ : ∃ k, f = k + 1 := ⟨f - 1, by omega⟩
    rw [many_c1, hm, if_pos (nI_le (by omega) (by omega))]; rfl
  | succ d ih =>
    intro i f n hi hf
    obtain ⟨f, rfl⟩ : ∃ k, f = k + 1 := ⟨f - 1, by omega⟩
    rw [many_c1, hm, if_neg (nI_ge (by omega) (by omega)), if_pos (of_eq_true (hf_inI (by omega) (by omega))), nI_clamp (by omega), nI_1]
    show _ = some (some (Value.int (hp_cnt (I 23) s d (i + 1) (if I 23 i = s then n + 1 else n))), I)
    split
    · exact ih (i + 1) f _ (by omega) (by omega)
    · exact ih (i + 1) f _ (by omega) (by omega)
theorem many_m (N : Nat) {J : hf_M} {s : Int32} {m : Nat} (hm : J 204 2 = nI m) (h256 : m ≤ 256) : ∀ (d i f : Nat) (n : Int32), i + d = m → d < f → BX8_many_16 N f [.ref 204, .int s, .int n, .int (nI i)] [] J = some (some (.int (hp_cnt (J 215) s d i n)), J) := by
  intro d
  induction d with
  | zero =>
    intro i f n hi hf
    obtain ⟨f, rfl⟩ : ∃ k, f = k + 1 := ⟨f - 1, by omega⟩
    rw [many_m1, hm, if_pos (nI_le (by omega) (by omega))]; rfl
  | succ d ih =>
    intro i f n hi hf
    obtain ⟨f, rfl⟩ : ∃ k, f = k + 1 := ⟨f - 1, by omega⟩
    rw [many_m1, hm, if_neg (nI_ge (by omega) (by omega)), Int32.zero_add, if_pos (of_eq_true (hf_inI (by omega) (by omega))), nI_clamp (by omega), nI_1, Int32.add_zero]
    show _ = some (some (Value.int (hp_cnt (J 215) s d (i + 1) (if J 215 i = s then n + 1 else n))), J)
    split
    · exact ih (i + 1) f _ (by omega) (by omega)
    · exact ih (i + 1) f _ (by omega) (by omega)
theorem many_ce (N : Nat) (I : hf_M) (s : Int32) : fX7_many N [.ref 6, .int s] I = if s < 0 then some (some (.int (-2)), I) else if 5 < s then some (some (.int (-2)), I) else BX7_many_16 N N [.ref 6, .int s, .int 0, .int 0] [] I := by
  show (match fX7_isWithin N [.int s, .int 0, .int 5] I with
    | some (v, J) => _
    | none => _) = _
  rw [e_within]
  dsimp only
  split
  · rfl
  · split <;> rfl
theorem many_me (N : Nat) (J : hf_M) (s : Int32) : fX8_many N [.ref 204, .int s] J = if s < 0 then some (some (.int (-2)), J) else if 5 < s then some (some (.int (-2)), J) else BX8_many_16 N N [.ref 204, .int s, .int 0, .int 0] [] J := by
  show (match fX8_in N [.int s, .int 0, .int 5] J with
    | some (v, J) => _
    | none => _) = _
  rw [e_in]
  dsimp only
  split
  · rfl
  · split <;> rfl
theorem q_many (q N : Nat) (hN : 4096 ≤ N) (s : Int32) : hr_call q (fX7_many N [.ref 6, .int s]) (fX8_many N [.ref 204, .int s]) := by
  apply hr_read
  intro r c I J hR
  have hb := hR.1.1
  rw [many_ce, many_me]
  by_cases h1 : s < 0
  · exact ⟨-2, if_pos h1, if_pos h1⟩
  rw [if_neg h1, if_neg h1]
  by_cases h2 : 5 < s
  · exact ⟨-2, if_pos h2, if_pos h2⟩
  rw [if_neg h2, if_neg h2]
  refine ⟨_, many_c N hR.1.i (by omega) (r * c) 0 N 0 (by omega) (by omega), ?_⟩
  rw [show (Value.int 0) = Value.int (nI 0) from rfl]
  have e := many_m N (s := s) hR.1.j (by omega) (r * c) 0 N (nI 0) (by omega) (by omega)
  rw [e]
  have e2 : hp_cnt (J 215) s (r * c) 0 (nI 0) = hp_cnt (I 23) s (r * c) 0 0 := hp_cnt_congr (r * c) 0 _ (fun j _ hj => by
    have := (hR.2.2.2.1.1 j (by omega)).1
    rw [Nat.zero_add] at this
    exact this.symm)
  rw [e2]
/-- sums -/
def hp_sum (g : Nat → Int32) : Nat → Nat → Int32 → Int32
  | 0, _, n => n
  | d + 1, i, n => hp_sum g d (i + 1) (n + g i)
theorem hp_sum_congr {g g' : Nat → Int32} : ∀ (d i : Nat) (n : Int32), (∀ j, i ≤ j → j < i + d → g j = g' j) → hp_sum g d i n = hp_sum g' d i n := by
  intro d
  induction d with
  | zero => intro i n _; rfl
  | succ d ih =>
    intro i n h
    show hp_sum g d (i + 1) _ = hp_sum g' d (i + 1) _
    rw [h i (Nat.le_refl _) (by omega)]
    exact ih (i + 1) _ (fun j h1 h2 => h j (by omega) (by omega))
theorem sum_c1 (N f c : Nat) (I : hf_M) (m n x : Int32) : BX7_sum_4 N (f + 1) [.ref c, .int m, .int n, .int x] [] I = if m ≤ x then some (some (.int n), I) else if hf_in x (hf_al c) then BX7_sum_4 N f [.ref c, .int m, .int (n + hf_rd I c x.toNatClampNeg), .int (x + 1)] [] I else none := rfl
theorem sum_m1 (N f : Nat) (J : hf_M) (o n x : Int32) : BX8_sum_4 N (f + 1) [.ref 204, .int o, .int n, .int x] [] J = if J 204 2 ≤ x then some (some (.int n), J) else if hf_in (o + x) 1824 then BX8_sum_4 N f [.ref 204, .int o, .int (n + J 215 (o + x).toNatClampNeg), .int (x + 1)] [] J else none := rfl
theorem sum_c (N c : Nat) {I : hf_M} {m : Nat} (hc : 6 ≤ c) (hal : m ≤ hf_al c) (hm : m < 2 ^ 31) : ∀ (d i f : Nat) (n : Int32), i + d = m → d < f → BX7_sum_4 N f [.ref c, .int (nI m), .int n, .int (nI i)] [] I = some (some (.int (hp_sum (I c) d i n)), I) := by
  intro d
  induction d with
  | zero =>
    intro i f n hi hf
    obtain ⟨f, rfl⟩ : ∃ k, f = k + 1 := ⟨f - 1, by omega⟩
    rw [sum_c1, if_pos (nI_le (by omega) (by omega))]; rfl
  | succ d ih =>
    intro i f n hi hf
    obtain ⟨f, rfl⟩ : ∃ k, f = k + 1 := ⟨f - 1, by omega⟩
    rw [sum_c1, if_neg (nI_ge (by omega) (by omega)), if_pos (of_eq_true (hf_inI (by omega) (by omega))), nI_clamp (by omega), nI_1, hf_rd6 hc]
    exact ih (i + 1) f _ (by omega) (by omega)
theorem sum_m (N : Nat) {J : hf_M} {m o : Nat} (hm : J 204 2 = nI m) (h256 : m ≤ 256) (ho : o + 256 ≤ 1824) : ∀ (d i f : Nat) (n : Int32), i + d = m → d < f → BX8_sum_4 N f [.ref 204, .int (nI o), .int n, .int (nI i)] [] J = some (some (.int (hp_sum (fun j => J 215 (o + j)) d i n)), J) := by
  intro d
  induction d with
  | zero =>
    intro i f n hi hf
    obtain ⟨f, rfl⟩ : ∃ k, f = k + 1 := ⟨f - 1, by omega⟩
    rw [sum_m1, hm, if_pos (nI_le (by omega) (by omega))]; rfl
  | succ d ih =>
    intro i f n hi hf
    obtain ⟨f, rfl⟩ : ∃ k, f = k + 1 := ⟨f - 1, by omega⟩
    rw [sum_m1, hm, if_neg (nI_ge (by omega) (by omega)), nI_add, if_pos (of_eq_true (hf_inI (by omega) (by omega))), nI_clamp (by omega), nI_1]
    exact ih (i + 1) f _ (by omega) (by omega)
theorem sum_cf (N c : Nat) {I : hf_M} {m : Nat} (hN : 4096 ≤ N) (hc : 6 ≤ c) (hal : m ≤ hf_al c) (hm : m ≤ 256) : fX7_sum N [.ref c, .int (nI m)] I = some (some (.int (hp_sum (I c) m 0 0)), I) := by
  show BX7_sum_4 N N [.ref c, .int (nI m), .int 0, .int (nI 0)] [] I = _
  exact sum_c N c hc hal (by omega) m 0 N 0 (by omega) (by omega)
theorem sum_mf (N : Nat) {J : hf_M} {m o : Nat} (hN : 4096 ≤ N) (hm : J 204 2 = nI m) (h256 : m ≤ 256) (ho : o + 256 ≤ 1824) : fX8_sum N [.ref 204, .int (nI o)] J = some (some (.int (hp_sum (fun j => J 215 (o + j)) m 0 0)), J) := by
  show BX8_sum_4 N N [.ref 204, .int (nI o), .int 0, .int (nI 0)] [] J = _
  exact sum_m N hm h256 ho m 0 N 0 (by omega) (by omega)
