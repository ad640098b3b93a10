/-! the class's constructor, by evaluation -/
def hi_0 : hg_M := (0 + 1, hg_u0 (fun _ _ => false) (0 + 6), hg_i0 (fun _ _ => 0) (0 + 6))
def hi_1 : hg_M := match gX7_init 4096 [.ref 6] hi_0 with
  | some (_, Y) => Y
  | none => hi_0
def hi_l : List (Nat × Nat × Int32) := [(7, 4, 2), (7, 5, 2), (7, 6, 4), (7, 7, 0), (8, 0, 0), (8, 1, 0), (8, 2, 0), (8, 3, 0), (9, 0, 0), (9, 1, 0), (9, 2, 0), (9, 3, 0), (10, 0, 0), (10, 1, 0), (10, 2, 0), (10, 3, 0), (11, 0, 0), (11, 1, 0), (11, 2, 0), (11, 3, 0), (12, 2, 0), (15, 2, 0), (23, 0, 0), (23, 1, 0), (23, 2, 0), (23, 3, 0), (24, 0, 0), (24, 1, 0), (24, 2, 0), (24, 3, 0), (25, 0, 0), (25, 1, 0), (25, 2, 0), (25, 3, 0), (26, 0, 0), (26, 1, 0), (26, 2, 0), (26, 3, 0), (27, 0, 0), (27, 1, 0), (27, 2, 0), (27, 3, 0), (28, 0, -6), (28, 1, -6), (28, 2, -6), (28, 3, -6), (22, 8, 0), (22, 9, 0), (22, 10, 0), (22, 11, 0), (22, 12, 0), (22, 13, 0), (22, 14, 0), (30, 3, 1), (31, 0, 0), (32, 0, 1), (33, 0, 0), (95, 0, -6), (95, 1, -6), (95, 2, -6), (6, 8, 0), (6, 9, 0)]
def hi_k (x : hf_R hg_M) : Bool := match x with
  | some (none, Y) => (Y.1 == 198) && (((List.range 204).all fun c => (List.range (hf_rs c).length).all fun j => !((hf_rs c).getD j none).isSome || Y.2.1 c j) && (hi_l.all fun q => Y.2.2 q.1 q.2.1 == q.2.2))
  | _ => false
def hi_z (b : Nat) (x : hf_R hg_M) : Bool := match x with
  | some (none, Y) => (List.range 64).all fun n => (Y.2.2 20 (b + n) == 0) && (Y.2.2 21 (b + n) == 0)
  | _ => false
set_option maxRecDepth 100000 in
theorem hi_k1 : hi_k (gX7_init 4096 [.ref 6] hi_0) = true := by decide +kernel
set_option maxRecDepth 100000 in
theorem hi_z0 : hi_z 0 (gX7_init 4096 [.ref 6] hi_0) = true := by decide +kernel
set_option maxRecDepth 100000 in
theorem hi_z1 : hi_z 64 (gX7_init 4096 [.ref 6] hi_0) = true := by decide +kernel
set_option maxRecDepth 100000 in
theorem hi_z2 : hi_z 128 (gX7_init 4096 [.ref 6] hi_0) = true := by decide +kernel
set_option maxRecDepth 100000 in
theorem hi_z3 : hi_z 192 (gX7_init 4096 [.ref 6] hi_0) = true := by decide +kernel
theorem hi_e : gX7_init 4096 [.ref 6] hi_0 = some (none, hi_1) ∧ hi_1.1 = 198 ∧ (∀ c, c < 204 → ∀ j, j < (hf_rs c).length → (!((hf_rs c).getD j none).isSome || hi_1.2.1 c j) = true) ∧ (∀ q, q ∈ hi_l → hi_1.2.2 q.1 q.2.1 = q.2.2) ∧ (∀ n, n < 256 → hi_1.2.2 20 n = 0 ∧ hi_1.2.2 21 n = 0) := by
  have h := hi_k1
  have z0 := hi_z0
  have z1 := hi_z1
  have z2 := hi_z2
  have z3 := hi_z3
  unfold hi_1
  generalize gX7_init 4096 [.ref 6] hi_0 = x at h z0 z1 z2 z3 ⊢
  match x, h, z0, z1, z2, z3 with
  | some (none, Y), h, z0, z1, z2, z3 =>
    simp only [hi_k, Bool.and_eq_true, beq_iff_eq, List.all_eq_true, List.mem_range] at h
    simp only [hi_z, Bool.and_eq_true, beq_iff_eq, List.all_eq_true, List.mem_range] at z0 z1 z2 z3
    obtain ⟨h1, h2, h3⟩ := h
    refine ⟨rfl, h1, fun c hc j hj => h2 c hc j hj, h3, fun n hn => ?_⟩
    rcases Nat.lt_or_ge n 64 with y0 | y0
    · have := z0 (n - 0) (by omega)
      rw [show 0 + (n - 0) = n by omega] at this
      exact this
    rcases Nat.lt_or_ge n 128 with y1 | y1
    · have := z1 (n - 64) (by omega)
      rw [show 64 + (n - 64) = n by omega] at this
      exact this
    rcases Nat.lt_or_ge n 192 with y2 | y2
    · have := z2 (n - 128) (by omega)
      rw [show 128 + (n - 128) = n by omega] at this
      exact this
    have := z3 (n - 192) (by omega)
    rw [show 192 + (n - 192) = n by omega] at this
    exact this
