def hf_lay : List (Nat × Nat × List (Option Nat)) := [
  (99, 0, []), (99, 0, []), (99, 0, []), (99, 0, []), (99, 0, []), (99, 0, []), (10, 10, [some 7, some 12, some 15, some 18, some 22, some 58, some 94, some 95, none, none]), (5, 8, [some 8, some 9, some 10, some 11, none, none, none, none]), (0, 256, []), (0, 256, []), (0, 256, []), (0, 256, []),
  (9, 3, [some 13, some 14, none]), (0, 16, []), (0, 48, []), (6, 3, [some 16, some 17, none]), (0, 20, []), (0, 20, []), (4, 8, [some 19, some 20, some 21, none, none, none, none, none]), (0, 256, []), (0, 256, []), (0, 256, []), (7, 15, [some 23, some 24, some 25, some 26, some 27, some 28, some 29, some 30, none, none, none, none, none, none, none]), (0, 256, []),
  (0, 256, []), (0, 256, []), (0, 256, []), (0, 256, []), (0, 256, []), (2, 8, [some 34, some 37, some 40, some 43, some 46, some 49, some 52, some 55]), (8, 4, [some 31, some 32, some 33, none]), (0, 8, []), (0, 8, []), (0, 8, []), (3, 10, [some 35, some 36, none, none, none, none, none, none, none, none]), (0, 12, []),
  (0, 12, []), (3, 10, [some 38, some 39, none, none, none, none, none, none, none, none]), (0, 12, []), (0, 12, []), (3, 10, [some 41, some 42, none, none, none, none, none, none, none, none]), (0, 12, []), (0, 12, []), (3, 10, [some 44, some 45, none, none, none, none, none, none, none, none]), (0, 12, []), (0, 12, []), (3, 10, [some 47, some 48, none, none, none, none, none, none, none, none]), (0, 12, []),
  (0, 12, []), (3, 10, [some 50, some 51, none, none, none, none, none, none, none, none]), (0, 12, []), (0, 12, []), (3, 10, [some 53, some 54, none, none, none, none, none, none, none, none]), (0, 12, []), (0, 12, []), (3, 10, [some 56, some 57, none, none, none, none, none, none, none, none]), (0, 12, []), (0, 12, []), (7, 15, [some 59, some 60, some 61, some 62, some 63, some 64, some 65, some 66, none, none, none, none, none, none, none]), (0, 256, []),
  (0, 256, []), (0, 256, []), (0, 256, []), (0, 256, []), (0, 256, []), (2, 8, [some 70, some 73, some 76, some 79, some 82, some 85, some 88, some 91]), (8, 4, [some 67, some 68, some 69, none]), (0, 8, []), (0, 8, []), (0, 8, []), (3, 10, [some 71, some 72, none, none, none, none, none, none, none, none]), (0, 12, []),
  (0, 12, []), (3, 10, [some 74, some 75, none, none, none, none, none, none, none, none]), (0, 12, []), (0, 12, []), (3, 10, [some 77, some 78, none, none, none, none, none, none, none, none]), (0, 12, []), (0, 12, []), (3, 10, [some 80, some 81, none, none, none, none, none, none, none, none]), (0, 12, []), (0, 12, []), (3, 10, [some 83, some 84, none, none, none, none, none, none, none, none]), (0, 12, []),
  (0, 12, []), (3, 10, [some 86, some 87, none, none, none, none, none, none, none, none]), (0, 12, []), (0, 12, []), (3, 10, [some 89, some 90, none, none, none, none, none, none, none, none]), (0, 12, []), (0, 12, []), (3, 10, [some 92, some 93, none, none, none, none, none, none, none, none]), (0, 12, []), (0, 12, []), (1, 3, [some 96, some 132, some 168]), (0, 3, []),
  (7, 15, [some 97, some 98, some 99, some 100, some 101, some 102, some 103, some 104, none, none, none, none, none, none, none]), (0, 256, []), (0, 256, []), (0, 256, []), (0, 256, []), (0, 256, []), (0, 256, []), (2, 8, [some 108, some 111, some 114, some 117, some 120, some 123, some 126, some 129]), (8, 4, [some 105, some 106, some 107, none]), (0, 8, []), (0, 8, []), (0, 8, []),
  (3, 10, [some 109, some 110, none, none, none, none, none, none, none, none]), (0, 12, []), (0, 12, []), (3, 10, [some 112, some 113, none, none, none, none, none, none, none, none]), (0, 12, []), (0, 12, []), (3, 10, [some 115, some 116, none, none, none, none, none, none, none, none]), (0, 12, []), (0, 12, []), (3, 10, [some 118, some 119, none, none, none, none, none, none, none, none]), (0, 12, []), (0, 12, []),
  (3, 10, [some 121, some 122, none, none, none, none, none, none, none, none]), (0, 12, []), (0, 12, []), (3, 10, [some 124, some 125, none, none, none, none, none, none, none, none]), (0, 12, []), (0, 12, []), (3, 10, [some 127, some 128, none, none, none, none, none, none, none, none]), (0, 12, []), (0, 12, []), (3, 10, [some 130, some 131, none, none, none, none, none, none, none, none]), (0, 12, []), (0, 12, []),
  (7, 15, [some 133, some 134, some 135, some 136, some 137, some 138, some 139, some 140, none, none, none, none, none, none, none]), (0, 256, []), (0, 256, []), (0, 256, []), (0, 256, []), (0, 256, []), (0, 256, []), (2, 8, [some 144, some 147, some 150, some 153, some 156, some 159, some 162, some 165]), (8, 4, [some 141, some 142, some 143, none]), (0, 8, []), (0, 8, []), (0, 8, []),
  (3, 10, [some 145, some 146, none, none, none, none, none, none, none, none]), (0, 12, []), (0, 12, []), (3, 10, [some 148, some 149, none, none, none, none, none, none, none, none]), (0, 12, []), (0, 12, []), (3, 10, [some 151, some 152, none, none, none, none, none, none, none, none]), (0, 12, []), (0, 12, []), (3, 10, [some 154, some 155, none, none, none, none, none, none, none, none]), (0, 12, []), (0, 12, []),
  (3, 10, [some 157, some 158, none, none, none, none, none, none, none, none]), (0, 12, []), (0, 12, []), (3, 10, [some 160, some 161, none, none, none, none, none, none, none, none]), (0, 12, []), (0, 12, []), (3, 10, [some 163, some 164, none, none, none, none, none, none, none, none]), (0, 12, []), (0, 12, []), (3, 10, [some 166, some 167, none, none, none, none, none, none, none, none]), (0, 12, []), (0, 12, []),
  (7, 15, [some 169, some 170, some 171, some 172, some 173, some 174, some 175, some 176, none, none, none, none, none, none, none]), (0, 256, []), (0, 256, []), (0, 256, []), (0, 256, []), (0, 256, []), (0, 256, []), (2, 8, [some 180, some 183, some 186, some 189, some 192, some 195, some 198, some 201]), (8, 4, [some 177, some 178, some 179, none]), (0, 8, []), (0, 8, []), (0, 8, []),
  (3, 10, [some 181, some 182, none, none, none, none, none, none, none, none]), (0, 12, []), (0, 12, []), (3, 10, [some 184, some 185, none, none, none, none, none, none, none, none]), (0, 12, []), (0, 12, []), (3, 10, [some 187, some 188, none, none, none, none, none, none, none, none]), (0, 12, []), (0, 12, []), (3, 10, [some 190, some 191, none, none, none, none, none, none, none, none]), (0, 12, []), (0, 12, []),
  (3, 10, [some 193, some 194, none, none, none, none, none, none, none, none]), (0, 12, []), (0, 12, []), (3, 10, [some 196, some 197, none, none, none, none, none, none, none, none]), (0, 12, []), (0, 12, []), (3, 10, [some 199, some 200, none, none, none, none, none, none, none, none]), (0, 12, []), (0, 12, []), (3, 10, [some 202, some 203, none, none, none, none, none, none, none, none]), (0, 12, []), (0, 12, []),
  (11, 24, [none, none, none, some 205, some 206, some 207, some 208, none, some 209, some 210, some 211, some 212, none, none, some 213, some 214, none, some 215, some 216, some 217, none, some 218, some 219, some 220]), (0, 256, []), (0, 256, []), (0, 256, []), (0, 256, []), (0, 16, []), (0, 16, []), (0, 16, []), (0, 16, []), (0, 20, []), (0, 20, []), (0, 1824, []),
  (0, 7296, []), (0, 3, []), (0, 256, []), (0, 256, []), (0, 256, [])]
def hf_kd (c : Nat) : Nat := (hf_lay.getD c (99, 0, [])).1
def hf_ln (c : Nat) : Nat := (hf_lay.getD c (99, 0, [])).2.1
def hf_rs (c : Nat) : List (Option Nat) := (hf_lay.getD c (99, 0, [])).2.2
def hf_rf (c k : Nat) : Option Nat := (hf_rs c).getD k none
def hf_tabs : List (List Int32) := [[], [-1, -1, 0, 1, 1, 1, 0, -1], [0, 1, 1, 1, 0, -1, -1, -1], [2, 1, 0, -1, -2, -1, 0, 1], [0, 12, 8, 6, 2, 0], [0, 20, 30, 50, 40, 0]]
def hf_tab (c j : Nat) : Int32 := (hf_tabs.getD c []).getD j 0
def hf_al (c : Nat) : Nat := if c < 6 then (hf_tabs.getD c []).length else if hf_kd c = 0 then hf_ln c else 0
def hf_rd (I : hf_M) (c : Nat) : Nat → Int32 := if c < 6 then hf_tab c else I c
def hf_w (I : hf_M) (c j : Nat) (v : Int32) : hf_M := fun c' => if c' = c then upd (I c) j v else I c'
abbrev hf_in (i : Int32) (n : Nat) : Prop := ¬ i < 0 ∧ i.toNatClampNeg < n
def hf_sn (c : Nat) : String := if c = 1 then "DOWN" else if c = 2 then "RIGHT" else if c = 3 then "PULL" else if c = 4 then "RATE" else "CATCH"
def hf_fl (g : hf_G) (I : hf_M) (c : Nat) : List Value := (hf_rs c).mapIdx fun j r => match r with
  | some x => .ref (hf_ad g x)
  | none => .int (I c j)
def hf_rr (g : hf_G) (c : Nat) : Nat → Option Nat := fun j => (hf_rf c j).map (hf_ad g)
def hf_cell (g : hf_G) (I : hf_M) (c : Nat) : va_E :=
  if hf_kd c = 0 then .inl (g.2.2.2 0, hf_ln c, .inl (I c))
  else if hf_kd c = 1 then .inl (g.2.2.2 1, hf_ln c, .inr (.inr (.inr (.inr (hf_rr g c)))))
  else if hf_kd c = 2 then .inl (g.2.2.2 2, hf_ln c, .inr (.inr (.inr (.inr (hf_rr g c)))))
  else .inr (hf_kd c - 3, hf_fl g I c)
def hf_pic (g : hf_G) (I : hf_M) : va_W := (List.range 215).map fun k => (hf_ad g (k + 6), hf_cell g I (k + 6))
def hf_H (g : hf_G) (I : hf_M) (H : Heap) : Prop := va_P g.2.2.1 vwCl (hf_pic g I) H
theorem hf_kd_hi {c : Nat} (h : ¬ hf_kd c = 99) : 6 ≤ c ∧ c < 221 := by
  refine ⟨?_, ?_⟩
  · rcases Nat.lt_or_ge c 6 with q | q
    · exact absurd ((by decide : ∀ c, c < 6 → hf_kd c = 99) c q) h
    · exact q
  · rcases Nat.lt_or_ge c 221 with q | q
    · exact q
    · refine absurd ?_ h
      have h1 : hf_lay[c]? = none := List.getElem?_eq_none_iff.mpr (by have : hf_lay.length = 221 := by decide +kernel
                                                                       omega)
      unfold hf_kd
      rw [List.getD_eq_getElem?_getD, h1]; rfl
theorem hf_pic_at (g : hf_G) (I : hf_M) {c : Nat} (h : 6 ≤ c ∧ c < 221) : (hf_pic g I)[c - 6]? = some (hf_ad g c, hf_cell g I c) := by
  unfold hf_pic
  have h1 : c - 6 < 215 := by omega
  have h2 : c - 6 + 6 = c := by omega
  rw [List.getElem?_map, List.getElem?_range h1]
  simp [h2]
theorem hf_ad_hi (g : hf_G) {c : Nat} (h : 6 ≤ c) : hf_ad g c = g.1 + (c - 6) := by unfold hf_ad; rw [if_neg (by omega)]
theorem hf_pic_D (g : hf_G) (I : hf_M) : va_D (hf_A g) (hf_pic g I) := by
  have key : ∀ (k : Nat) (q : Nat × va_E), (hf_pic g I)[k]? = some q → k < 215 ∧ q.1 = g.1 + k := by
    intro k q hq
    unfold hf_pic at hq
    rw [List.getElem?_map] at hq
    by_cases hk : k < 215
    · rw [List.getElem?_range hk] at hq
      simp only [Option.map_some, Option.some.injEq] at hq
      subst hq
      exact ⟨hk, by rw [hf_ad_hi g (by omega)]; simp⟩
    · rw [List.getElem?_eq_none_iff.mpr (by simpa using hk)] at hq
      cases hq
  refine ⟨fun i j a b hi hj hab => ?_, fun k q hk => ?_⟩
  · have h1 := key i a hi
    have h2 := key j b hj
    omega
  · show g.1 ≤ q.1
    rw [(key k q hk).2]; omega
theorem hf_cell_congr {g : hf_G} {I J : hf_M} {c : Nat} (h : I c = J c) : hf_cell g I c = hf_cell g J c := by
  unfold hf_cell hf_fl
  rw [h]
theorem hf_pic_set {g : hf_G} {I J : hf_M} {c : Nat} (h : 6 ≤ c ∧ c < 221) (hne : ∀ d, d ≠ c → I d = J d) : (hf_pic g I).set (c - 6) (hf_ad g c, hf_cell g J c) = hf_pic g J := by
  apply List.ext_getElem?
  intro k
  by_cases hk : k < 215
  · by_cases hc : k = c - 6
    · subst hc
      rw [List.getElem?_set_self (by simp [hf_pic]; omega), hf_pic_at g J h]
    · have h1 := hf_pic_at g I (c := k + 6) ⟨by omega, by omega⟩
      have h2 := hf_pic_at g J (c := k + 6) ⟨by omega, by omega⟩
      rw [show k + 6 - 6 = k by omega] at h1 h2
      rw [List.getElem?_set_ne (fun q => hc q.symm), h1, h2, hf_cell_congr (hne (k + 6) (by omega))]
  · rw [List.getElem?_eq_none_iff.mpr (by simp [hf_pic]; omega), List.getElem?_eq_none_iff.mpr (by simp [hf_pic]; omega)]
theorem hf_w_ne {I : hf_M} {c d j : Nat} {v : Int32} (h : d ≠ c) : I d = hf_w I c j v d := by unfold hf_w; rw [if_neg h]
theorem hf_w_eq {I : hf_M} {c j : Nat} {v : Int32} : hf_w I c j v c = upd (I c) j v := by unfold hf_w; rw [if_pos rfl]
theorem hf_cell_a {g : hf_G} {I : hf_M} {c : Nat} (h : hf_kd c = 0) : hf_cell g I c = .inl (g.2.2.2 0, hf_ln c, .inl (I c)) := by unfold hf_cell; rw [if_pos h]
theorem hf_cell_o {g : hf_G} {I : hf_M} {c ci : Nat} (h : hf_kd c = ci + 3) : hf_cell g I c = .inr (ci, hf_fl g I c) := by
  unfold hf_cell; rw [if_neg (by omega), if_neg (by omega), if_neg (by omega), h]; rfl
theorem hf_al_hi {c : Nat} {i : Int32} (hc : ¬ c < 6) (h : hf_in i (hf_al c)) : hf_kd c = 0 ∧ hf_al c = hf_ln c ∧ 6 ≤ c ∧ c < 221 := by
  have h2 := h.2
  unfold hf_al at h2 ⊢
  rw [if_neg hc] at h2 ⊢
  by_cases hk : hf_kd c = 0
  · rw [if_pos hk] at h2 ⊢
    exact ⟨hk, rfl, hf_kd_hi (by omega)⟩
  · rw [if_neg hk] at h2
    omega
theorem hf_in_vp {i : Int32} {n : Nat} (h : hf_in i n) : vp_in i n := fun q => q.elim h.1 (fun z => absurd h.2 (Nat.not_lt.mpr z))
/-- the words of nest mates, and of arrays of objects -/
def hf_nwF : List (String × Nat × String) := [(RX2, 41, "DOWN"), (RX2, 44, "RIGHT"), (RX1, 72, "RATE"), (RX1, 110, "PULL"), (RX1, 140, "CATCH")]
def hf_nwM : List (String × Nat × MethodName) := [(RX7, 11, yX2_init), (RX7, 18, yX6_init), (RX7, 25, yX3_init), (RX7, 32, yX1_init), (RX4, 71, yX0_init), (RX5, 46, yX7_sum)]
def hf_KS (g : hf_G) (s : State) : Prop := va_K g.2.2.1 vwCl [(g.2.2.2 0, .int), (g.2.2.2 1, .object RX4), (g.2.2.2 2, .object RX0)] s ∧
  (∀ c, 1 ≤ c → c ≤ 5 → va_T .int (g.2.1 c) (hf_al c) (fun j => .int (hf_tab c j)) (hf_A g) s s.heap) ∧
  (∀ c, 1 ≤ c → c ≤ 5 → va_Z "HeathFire" (hf_sn c) "[I" (.ref (g.2.1 c)) (hf_A g) s s.heap) ∧
  (∀ q ∈ hf_nwF, va_Nw (.fieldLinkNest q.1 q.2.1 "HeathFire" q.2.2 "[I" "HeathFire") s) ∧ (∀ q ∈ hf_nwM, va_Nw (.methodLinkNest q.1 q.2.1 q.2.2 "HeathFire") s) ∧ va_AO RX4 s ∧ va_AO RX0 s

