abbrev hg_M : Type := Nat × (Nat → Nat → Bool) × hf_M
def hg_fl (g : hf_G) (U : Nat → Nat → Bool) (I : hf_M) (c : Nat) : List Value := (hf_rs c).mapIdx fun j r => match r with
  | some x => if U c j then .ref (hf_ad g x) else .null
  | none => .int (I c j)
def hg_rr (g : hf_G) (U : Nat → Nat → Bool) (c : Nat) : Nat → Option Nat := fun j => if U c j then (hf_rf c j).map (hf_ad g) else none
def hg_cell (g : hf_G) (U : Nat → Nat → Bool) (I : hf_M) (c : Nat) : va_E :=
  if hf_kd c = 0 then .inl (g.2.2.2 0, hf_ln c, .inl (I c))
  else if hf_kd c = 1 then .inl (g.2.2.2 1, hf_ln c, .inr (.inr (.inr (.inr (hg_rr g U c)))))
  else if hf_kd c = 2 then .inl (g.2.2.2 2, hf_ln c, .inr (.inr (.inr (.inr (hg_rr g U c)))))
  else .inr (hf_kd c - 3, hg_fl g U I c)
def hg_w (g : hf_G) (Y : hg_M) : va_W := (List.range Y.1).map fun k => (g.1 + k, hg_cell g Y.2.1 Y.2.2 (k + 6))
def hg_sl (n : Nat) : Nat := ((List.range n).map fun k => hf_ln (k + 6)).sum
theorem hg_sl_s (n : Nat) : hg_sl (n + 1) = hg_sl n + hf_ln (n + 6) := by unfold hg_sl; rw [List.range_succ]; simp
theorem hg_sl_le {a b : Nat} (h : a ≤ b) : hg_sl a ≤ hg_sl b := by
  induction h with
  | refl => exact Nat.le_refl _
  | step _ ih => rw [hg_sl_s]; omega
theorem hg_w_len (g : hf_G) (Y : hg_M) : (hg_w g Y).length = Y.1 := by unfold hg_w; simp
theorem hg_w_at (g : hf_G) (Y : hg_M) {k : Nat} (h : k < Y.1) : (hg_w g Y)[k]? = some (g.1 + k, hg_cell g Y.2.1 Y.2.2 (k + 6)) := by
  unfold hg_w; rw [List.getElem?_map, List.getElem?_range h]; rfl
theorem hg_w_atc (g : hf_G) (Y : hg_M) {c : Nat} (h : 6 ≤ c ∧ c < Y.1 + 6) : (hg_w g Y)[c - 6]? = some (hf_ad g c, hg_cell g Y.2.1 Y.2.2 c) := by
  rw [hg_w_at g Y (by omega), hf_ad_hi g h.1, show c - 6 + 6 = c by omega]
theorem hg_w_D (g : hf_G) (Y : hg_M) : va_D (hf_A g) (hg_w g Y) := by
  have key : ∀ (k : Nat) (q : Nat × va_E), (hg_w g Y)[k]? = some q → q.1 = g.1 + k := by
    intro k q hq
    have hl : k < Y.1 := by rw [← hg_w_len g Y]; exact (List.getElem?_eq_some_iff.mp hq).1
    rw [hg_w_at g Y hl] at hq
    cases hq; rfl
  refine ⟨fun i j a b hi hj hab => ?_, fun k q hk => ?_⟩
  · have h1 := key i a hi
    have h2 := key j b hj
    omega
  · show g.1 ≤ q.1
    rw [key k q hk]; omega
theorem hg_cell_congr {g : hf_G} {U V : Nat → Nat → Bool} {I J : hf_M} {c : Nat} (h : I c = J c) (hU : U c = V c) : hg_cell g U I c = hg_cell g V J c := by
  unfold hg_cell hg_fl hg_rr
  rw [h, hU]
theorem hg_w_set {g : hf_G} {n : Nat} {U V : Nat → Nat → Bool} {I J : hf_M} {c : Nat} (h : 6 ≤ c ∧ c < n + 6) (hI : ∀ d, d ≠ c → I d = J d) (hU : ∀ d, d ≠ c → U d = V d) : (hg_w g (n, U, I)).set (c - 6) (hf_ad g c, hg_cell g V J c) = hg_w g (n, V, J) := by
  apply List.ext_getElem?
  intro k
  by_cases hk : k < n
  · by_cases hc : k = c - 6
    · subst hc
      rw [List.getElem?_set_self (by rw [hg_w_len]; exact hk), hg_w_atc g (n, V, J) h]
    · rw [List.getElem?_set_ne (fun q => hc q.symm), hg_w_at g (n, U, I) hk, hg_w_at g (n, V, J) hk, hg_cell_congr (hI (k + 6) (by omega)) (hU (k + 6) (by omega))]
  · rw [List.getElem?_eq_none_iff.mpr (by rw [List.length_set, hg_w_len]; exact Nat.not_lt.mp hk), List.getElem?_eq_none_iff.mpr (by rw [hg_w_len]; exact Nat.not_lt.mp hk)]
theorem hg_w_app {g : hf_G} {n : Nat} {U V : Nat → Nat → Bool} {I J : hf_M} (hI : ∀ d, d ≠ n + 6 → I d = J d) (hU : ∀ d, d ≠ n + 6 → U d = V d) : hg_w g (n, U, I) ++ [(g.1 + n, hg_cell g V J (n + 6))] = hg_w g (n + 1, V, J) := by
  unfold hg_w
  show _ = (List.range (n + 1)).map _
  rw [List.range_succ, List.map_append]
  congr 1
  apply List.map_congr_left
  intro k hk
  have hk2 : k < n := List.mem_range.mp hk
  show (g.1 + k, hg_cell g U I (k + 6)) = (g.1 + k, hg_cell g V J (k + 6))
  rw [hg_cell_congr (hI (k + 6) (by omega)) (hU (k + 6) (by omega))]
/-- the heap holds the cells; n0: how many there were as the method began -/
def hg_H (g : hf_G) (n0 : Nat) (Y : hg_M) (H : Heap) : Prop := va_P g.2.2.1 vwCl (hg_w g Y) H ∧ n0 ≤ Y.1 ∧ Y.1 ≤ 215
def hg_c (n0 : Nat) : hg_M → Nat × Nat := fun Y => (Y.1 - n0, hg_sl Y.1 - hg_sl n0)
def hg_ini (s : State) : Prop := ∀ (m : MethodId) (args : Array Value) (below : List Frame) (meth : Method), s.frames = .invoking m args :: below → s.vm.method? m = some meth → meth.name = "<init>"
def hg_KS (n0 : Nat) (g : hf_G) (s : State) : Prop := hf_KS g s ∧ s.heap.size = g.1 + n0
def hg_KI (n0 : Nat) (g : hf_G) (s : State) : Prop := hg_KS n0 g s ∧ hg_ini s
section HG0
variable {p : Program} {l : Launch} {e : Env} {R : Room} {s : State} {m : MethodId} {args : Array Value} {below : List Frame} {meth : Method} {c : Code} {H : Heap} {locs : List Loc} {cells slots : Nat} {Q : State → Prop} {fr : JFrame}
theorem hg_size (h : H.size ≤ s.heap.size + cells → W p l e R s m args below meth c H locs cells slots Q fr) : W p l e R s m args below meth c H locs cells slots Q fr := fun T hT X => h (by rw [← hT]; exact X.heapSize) T hT X
theorem hg_name (hi : hg_ini s) (h : meth.name = "<init>" → W p l e R s m args below meth c H locs cells slots Q fr) : W p l e R s m args below meth c H locs cells slots Q fr := fun T hT X => h (hi m args below meth X.frames X.method) T hT X
theorem hg_cnt {k n : Nat} (h1 : cells = k) (h2 : slots = n) (h : W p l e R s m args below meth c H locs k n Q fr) : W p l e R s m args below meth c H locs cells slots Q fr := by subst h1; subst h2; exact h
end HG0
theorem hg_addr {g : hf_G} {Y : hg_M} {q : Nat} {x : va_E} {H1 : Heap} {D : va_G} (hP : va_P D vwCl (hg_w g Y ++ [(q, x)]) H1) (hD : va_D (hf_A g) (hg_w g Y ++ [(q, x)])) (hsz : H1.size ≤ g.1 + Y.1 + 1) : q = g.1 + Y.1 := by
  have hl : (hg_w g Y ++ [(q, x)])[Y.1]? = some (q, x) := by
    rw [List.getElem?_append_right (by rw [hg_w_len]; exact Nat.le_refl _), hg_w_len]; simp
  have h1 : q < H1.size := (hP _ _ hl).lt
  have h2 : g.1 ≤ q := hD.2 _ _ hl
  rcases Nat.lt_or_ge q (g.1 + Y.1) with h | h
  · exfalso
    have hk : q - g.1 < Y.1 := by omega
    have hk2 : (hg_w g Y ++ [(q, x)])[q - g.1]? = some (g.1 + (q - g.1), hg_cell g Y.2.1 Y.2.2 (q - g.1 + 6)) := by
      rw [List.getElem?_append_left (by rw [hg_w_len]; exact hk), hg_w_at g Y hk]
    have := hD.1 _ _ _ _ hk2 hl (by show g.1 + (q - g.1) = q; omega)
    omega
  · omega
theorem hf_ad6 (g : hf_G) (k : Nat) : hf_ad g (k + 6) = g.1 + k := by rw [hf_ad_hi g (by omega)]; simp
theorem hg_cell_a {g : hf_G} {U : Nat → Nat → Bool} {I : hf_M} {c : Nat} (h : hf_kd c = 0) : hg_cell g U I c = .inl (g.2.2.2 0, hf_ln c, .inl (I c)) := by unfold hg_cell; rw [if_pos h]
theorem hg_cell_o {g : hf_G} {U : Nat → Nat → Bool} {I : hf_M} {c ci : Nat} (h : hf_kd c = ci + 3) : hg_cell g U I c = .inr (ci, hg_fl g U I c) := by
  unfold hg_cell; rw [if_neg (by omega), if_neg (by omega), if_neg (by omega), h]; rfl
theorem hg_cell_q {g : hf_G} {U : Nat → Nat → Bool} {I : hf_M} {c t : Nat} (h : hf_kd c = t) (ht : t = 1 ∨ t = 2) : hg_cell g U I c = .inl (g.2.2.2 t, hf_ln c, .inr (.inr (.inr (.inr (hg_rr g U c))))) := by
  rcases ht with rfl | rfl
  · unfold hg_cell; rw [if_neg (by omega), if_pos h]
  · unfold hg_cell; rw [if_neg (by omega), if_neg (by omega), if_pos h]
def hg_u (U : Nat → Nat → Bool) (c j : Nat) : Nat → Nat → Bool := fun c' j' => if c' = c ∧ j' = j then true else U c' j'
def hg_u0 (U : Nat → Nat → Bool) (c : Nat) : Nat → Nat → Bool := fun c' j' => if c' = c then false else U c' j'
def hg_i0 (I : hf_M) (c : Nat) : hf_M := fun c' j' => if c' = c then 0 else I c' j'
theorem hg_u_ne {U : Nat → Nat → Bool} {c j d : Nat} (h : d ≠ c) : U d = hg_u U c j d := by funext j'; unfold hg_u; rw [if_neg (fun q => h q.1)]
theorem hg_u0_ne {U : Nat → Nat → Bool} {c d : Nat} (h : d ≠ c) : U d = hg_u0 U c d := by funext j'; unfold hg_u0; rw [if_neg h]
theorem hg_i0_ne {I : hf_M} {c d : Nat} (h : d ≠ c) : I d = hg_i0 I c d := by funext j'; unfold hg_i0; rw [if_neg h]
theorem hg_u0_eq {U : Nat → Nat → Bool} {c : Nat} : hg_u0 U c c = fun _ => false := by funext j'; unfold hg_u0; rw [if_pos rfl]
theorem hg_i0_eq {I : hf_M} {c : Nat} : hg_i0 I c c = fun _ => 0 := by funext j'; unfold hg_i0; rw [if_pos rfl]
/-- the fields of a class: which are references -/
def hg_dv (ci N : Nat) (ty : Nat → FieldType) : Prop := ∀ c, c < 221 → hf_kd c = ci + 3 → hf_ln c = N ∧ (hf_rs c).length = N ∧ ∀ j, j < N → defaultValue (ty j) = if ((hf_rs c).getD j none).isSome then .null else .int 0
theorem hg_fl0 {g : hf_G} {U : Nat → Nat → Bool} {I : hf_M} {c j : Nat} (hU : U c = fun _ => false) (hI : I c = fun _ => 0) (hj : j < (hf_rs c).length) : vp_V (hg_fl g U I c) j = if ((hf_rs c).getD j none).isSome then .null else .int 0 := by
  unfold vp_V hg_fl
  rw [List.getD_eq_getElem?_getD, List.getElem?_mapIdx, List.getD_eq_getElem?_getD, List.getElem?_eq_getElem hj]
  cases (hf_rs c)[j] with
  | some x => simp [hU]
  | none => simp [hI]
theorem hg_fl_set {g : hf_G} {U : Nat → Nat → Bool} {I : hf_M} {c j : Nat} {v : Int32} (h : (hf_rs c)[j]? = some none) : (hg_fl g U I c).set j (.int v) = hg_fl g U (hf_w I c j v) c := by
  apply List.ext_getElem?
  intro i
  unfold hg_fl
  rw [List.getElem?_set, List.getElem?_mapIdx, List.getElem?_mapIdx]
  by_cases hij : j = i
  · subst hij
    have hlt : j < (hf_rs c).length := (List.getElem?_eq_some_iff.mp h).1
    rw [if_pos rfl, if_pos (by simpa using hlt), h]
    simp [hf_w, upd]
  · rw [if_neg hij]
    cases (hf_rs c)[i]? with
    | none => rfl
    | some r =>
      cases r with
      | some x => rfl
      | none => simp [hf_w, upd, Ne.symm hij]
theorem hg_fl_setr {g : hf_G} {U : Nat → Nat → Bool} {I : hf_M} {c j v : Nat} (h : (hf_rs c)[j]? = some (some v)) : (hg_fl g U I c).set j (.ref (hf_ad g v)) = hg_fl g (hg_u U c j) I c := by
  apply List.ext_getElem?
  intro i
  unfold hg_fl
  rw [List.getElem?_set, List.getElem?_mapIdx, List.getElem?_mapIdx]
  by_cases hij : j = i
  · subst hij
    have hlt : j < (hf_rs c).length := (List.getElem?_eq_some_iff.mp h).1
    rw [if_pos rfl, if_pos (by simpa using hlt), h]
    simp [hg_u]
  · rw [if_neg hij]
    cases (hf_rs c)[i]? with
    | none => rfl
    | some r =>
      cases r with
      | some x => simp [hg_u, Ne.symm hij]
      | none => rfl
section HG1
variable {g : hf_G} {l : Launch} {R : Room} {cc : ByteArray} {nL : Nat} {own : String} {ret : Option FieldType} {pc q : Nat} {k : hf_K hg_M} {Qf : hf_Q hg_M} {n0 : Nat} {KS : hf_G → State → Prop}
def d_new (ci lim : Nat) (k : hf_K hg_M) : hf_K hg_M := fun pl st Y => if hf_kd (Y.1 + 6) = ci + 3 ∧ Y.1 + 1 ≤ lim then k pl (.ref (Y.1 + 6) :: st) (Y.1 + 1, hg_u0 Y.2.1 (Y.1 + 6), hg_i0 Y.2.2 (Y.1 + 6)) else none
def d_newa (lim : Nat) (k : hf_K hg_M) : hf_K hg_M := fun pl st Y => match st with
  | .int n :: st => if ¬ n < 0 ∧ n.toNatClampNeg = hf_ln (Y.1 + 6) ∧ hf_kd (Y.1 + 6) = 0 ∧ n.toNatClampNeg ≤ 100000 ∧ Y.1 + 1 ≤ lim then k pl (.ref (Y.1 + 6) :: st) (Y.1 + 1, hg_u0 Y.2.1 (Y.1 + 6), hg_i0 Y.2.2 (Y.1 + 6)) else none
  | _ => none
def d_newq (t lim : Nat) (k : hf_K hg_M) : hf_K hg_M := fun pl st Y => match st with
  | .int n :: st => if ¬ n < 0 ∧ n.toNatClampNeg = hf_ln (Y.1 + 6) ∧ hf_kd (Y.1 + 6) = t ∧ n.toNatClampNeg ≤ 100000 ∧ Y.1 + 1 ≤ lim then k pl (.ref (Y.1 + 6) :: st) (Y.1 + 1, hg_u0 Y.2.1 (Y.1 + 6), hg_i0 Y.2.2 (Y.1 + 6)) else none
  | _ => none
def d_putR (ci j : Nat) (k : hf_K hg_M) : hf_K hg_M := fun pl st Y => match st with
  | .ref v :: .ref c :: st => if hf_kd c = ci + 3 ∧ c < Y.1 + 6 ∧ hf_rf c j = some v then k pl st (Y.1, hg_u Y.2.1 c j, Y.2.2) else none
  | _ => none
def d_putI (ci j : Nat) (k : hf_K hg_M) : hf_K hg_M := fun pl st Y => match st with
  | .int v :: .ref c :: st => if hf_kd c = ci + 3 ∧ c < Y.1 + 6 then k pl st (Y.1, Y.2.1, hf_w Y.2.2 c j v) else none
  | _ => none
def d_putZ (ci j : Nat) (k : hf_K hg_M) : hf_K hg_M := fun pl st Y => match st with
  | .int v :: .ref c :: st => if hf_kd c = ci + 3 ∧ c < Y.1 + 6 ∧ (v = 0 ∨ v = 1) then k pl st (Y.1, Y.2.1, hf_w Y.2.2 c j v) else none
  | _ => none
def d_getR (ci j : Nat) (k : hf_K hg_M) : hf_K hg_M := fun pl st Y => match st with
  | .ref c :: st => if hf_kd c = ci + 3 ∧ c < Y.1 + 6 ∧ Y.2.1 c j = true then match hf_rf c j with
    | some r => k pl (.ref r :: st) Y
    | none => none
    else none
  | _ => none
def d_iast (k : hf_K hg_M) : hf_K hg_M := fun pl st Y => match st with
  | .int v :: .int i :: .ref c :: st => if hf_kd c = 0 ∧ c < Y.1 + 6 ∧ hf_in i (hf_ln c) then k pl st (Y.1, Y.2.1, hf_w Y.2.2 c i.toNatClampNeg v) else none
  | _ => none
def d_alen (k : hf_K hg_M) : hf_K hg_M := fun pl st Y => match st with
  | .ref c :: st => if hf_kd c = 0 ∧ c < Y.1 + 6 then k pl (.int (Int32.ofNat (hf_ln c)) :: st) Y else none
  | _ => none
def d_aast (t ci : Nat) (k : hf_K hg_M) : hf_K hg_M := fun pl st Y => match st with
  | .ref v :: .int i :: .ref c :: st => if hf_kd c = t ∧ c < Y.1 + 6 ∧ hf_in i (hf_ln c) ∧ hf_rf c i.toNatClampNeg = some v ∧ hf_kd v = ci + 3 ∧ v < Y.1 + 6 then k pl st (Y.1, hg_u Y.2.1 c i.toNatClampNeg, Y.2.2) else none
  | _ => none
def d_objI (k : hf_K hg_M) : hf_K hg_M := fun pl st Y => match st with
  | [.ref _] => k pl [] Y
  | _ => none
def d_vret (lim : Nat) : hf_K hg_M := fun _ st Y => match st with
  | [] => if Y.1 = lim then some (none, Y) else none
  | _ => none

theorem hg_A {s : State} (h : hg_KS n0 g s) : ∀ q, s.heap.size ≤ q → hf_A g q := fun q hq => by
  have := h.2
  show g.1 ≤ q
  omega

theorem t_new (hKS : ∀ s, KS g s → hg_KS n0 g s) {C : String} {T : u_T} {N ci index lim : Nat} {tyf : Nat → FieldType} (hc : vwCl[ci]? = some (C, T, N)) (hin : ∀ w ∈ u_ws C T N, w ∈ wtb) (hty : ∀ k, k < N → parseFieldDescriptor (T k).2.2.1 = some (tyf k)) (hdv : hg_dv ci N tyf) (hcl : Cond.classLink own index C ∈ wtb) (hins : Cond.instantiable C N ∈ wtb) (hini : Cond.initialized C ∈ wtb) (hlim : lim ≤ 215) (hRc : lim - n0 ≤ R.cells) (hRs : hg_sl lim - hg_sl n0 ≤ R.slots) (hd : decode cc pc = .ok (.new index, 3)) (hk : hf_S KS (hg_H g n0) (hg_c n0) Qf g l R cc nL own ret q k) (hq : pc + 3 = q) : hf_S KS (hg_H g n0) (hg_c n0) Qf g l R cc nL own ret pc (d_new ci lim k) := by
  intro p e s m args below meth c hC H locs pl ls st Y r Y' hS hH hL he
  have hKs := hKS s hC.2.2.2.2.2.2.2
  subst hq
  obtain ⟨n, U, I⟩ := Y
  unfold d_new at he
  dsimp only at he
  split at he
  · rename_i hg
    have hb := hf_kdc (c := n + 6) hc hg.1
    obtain ⟨dv1, dv2, dv3⟩ := hdv (n + 6) hb.2 hg.1
    have hn0 : n0 ≤ n := hH.2.1
    have hs1 := hg_sl_s n
    have hs2 : hg_sl (n + 1) ≤ hg_sl lim := hg_sl_le hg.2
    have hs3 : hg_sl n0 ≤ hg_sl n := hg_sl_le hn0
    refine va_new (D := g.2.2.1) (A := hf_A g) (ci := ci) (C := C) (T := T) (N := N) (fs := hg_fl g (hg_u0 U (n + 6)) (hg_i0 I (n + 6)) (n + 6)) hC.1 hC.2.1 hC.2.2.2.2.1 hin tyf hty hC.2.2.2.1 (hC.2.2.2.2.1 _ hcl) (hC.2.2.2.2.1 _ hins) (hC.2.2.2.2.1 _ hini) hKs.1.1 hH.1 (hg_w_D g _) hS (hg_A hKs) hc (fun j hj => by rw [dv3 j hj, hg_fl0 hg_u0_eq hg_i0_eq (by rw [dv2]; exact hj)]) (by simp only [hg_c]; omega) (by simp only [hg_c]; omega) hd (fun q1 H1 hP1 hD1 hS1 => ?_)
    refine hg_cnt (k := n + 1 - n0) (n := hg_sl (n + 1) - hg_sl n0) (by simp only [hg_c]; omega) (by simp only [hg_c]; omega) (hg_size fun hsz => ?_)
    rw [← hg_cell_o (g := g) (U := hg_u0 U (n + 6)) (I := hg_i0 I (n + 6)) hg.1] at hP1 hD1
    have hq2 := hg_addr hP1 hD1 (by have h2 := hKs.2; show H1.size ≤ g.1 + n + 1; omega)
    subst hq2
    rw [hg_w_app (V := hg_u0 U (n + 6)) (J := hg_i0 I (n + 6)) (fun d hd => hg_i0_ne hd) (fun d hd => hg_u0_ne hd)] at hP1
    have kk := hk p e s m args below meth c hC H1 locs pl ls (.ref (n + 6) :: st) (n + 1, hg_u0 U (n + 6), hg_i0 I (n + 6)) r Y' hS1 ⟨hP1, by show n0 ≤ n + 1; have := hH.2.1; omega, by show n + 1 ≤ 215; omega⟩ hL he
    have e6 : hf_enc g (.ref (n + 6)) = .ref (g.1 + n) := by show Value.ref (hf_ad g (n + 6)) = _; rw [hf_ad6]
    rw [List.map_cons, e6] at kk
    exact kk
  · cases he
theorem t_newa (hKS : ∀ s, KS g s → hg_KS n0 g s) {lim : Nat} (hlim : lim ≤ 215) (hRc : lim - n0 ≤ R.cells) (hRs : hg_sl lim - hg_sl n0 ≤ R.slots) (har : Cond.arrayClass .int ∈ wtb) (hd : decode cc pc = .ok (.newarray .int, 2)) (hk : hf_S KS (hg_H g n0) (hg_c n0) Qf g l R cc nL own ret q k) (hq : pc + 2 = q) : hf_S KS (hg_H g n0) (hg_c n0) Qf g l R cc nL own ret pc (d_newa lim k) := by
  intro p e s m args below meth c hC H locs pl ls st Y r Y' hS hH hL he
  have hKs := hKS s hC.2.2.2.2.2.2.2
  subst hq
  obtain ⟨n, U, I⟩ := Y
  unfold d_newa at he
  dsimp only at he
  split at he
  · split at he
    rotate_left
    · cases he
    rename_i i st hg
    have hn0 : n0 ≤ n := hH.2.1
    have hs1 := hg_sl_s n
    have hs2 : hg_sl (n + 1) ≤ hg_sl lim := hg_sl_le hg.2.2.2.2
    have hs3 : hg_sl n0 ≤ hg_sl n := hg_sl_le hn0
    have hle := hg.2.2.2.1
    have hlm := hg.2.2.2.2
    have hnl := hg.2.1
    refine va_newa (atype := .int) (D := g.2.2.1) (A := hf_A g) (ty := .int) (a0 := (i.toNatClampNeg, .inl (fun _ => 0))) hC.1 hC.2.1 (hC.2.2.2.2.1 _ har) rfl hKs.1.1 hH.1 (hg_w_D g _) hS (hg_A hKs) (fun cA => rfl) hg.1 rfl (by show _ * 4 ≤ _; omega) (by simp only [hg_c]; omega) (by simp only [hg_c]; omega) hd (fun q1 cA H1 hK1 hP1 hD1 hS1 => ?_)
    have hcA : cA = g.2.2.2 0 := by
      have a1 := (hK1.2 3 (cA, .int) rfl).2
      have a2 := (hK1.2 0 (g.2.2.2 0, .int) rfl).2
      exact Option.some.inj (a1.symm.trans a2)
    subst hcA
    have ec : hg_cell g (hg_u0 U (n + 6)) (hg_i0 I (n + 6)) (n + 6) = .inl (g.2.2.2 0, i.toNatClampNeg, .inl (fun _ => 0)) := by rw [hg_cell_a hg.2.2.1, hg_i0_eq, hg.2.1]
    refine hg_cnt (k := n + 1 - n0) (n := hg_sl (n + 1) - hg_sl n0) (by simp only [hg_c]; omega) (by simp only [hg_c]; omega) (hg_size fun hsz => ?_)
    rw [← ec] at hP1 hD1
    have hq2 := hg_addr hP1 hD1 (by have h2 := hKs.2; show H1.size ≤ g.1 + n + 1; omega)
    subst hq2
    rw [hg_w_app (V := hg_u0 U (n + 6)) (J := hg_i0 I (n + 6)) (fun d hd => hg_i0_ne hd) (fun d hd => hg_u0_ne hd)] at hP1
    have kk := hk p e s m args below meth c hC H1 locs pl ls (.ref (n + 6) :: st) (n + 1, hg_u0 U (n + 6), hg_i0 I (n + 6)) r Y' hS1 ⟨hP1, by show n0 ≤ n + 1; have := hH.2.1; omega, by show n + 1 ≤ 215; omega⟩ hL he
    have e6 : hf_enc g (.ref (n + 6)) = .ref (g.1 + n) := by show Value.ref (hf_ad g (n + 6)) = _; rw [hf_ad6]
    rw [List.map_cons, e6] at kk
    exact kk
  · cases he
theorem t_newq (hKS : ∀ s, KS g s → hg_KS n0 g s) {lim : Nat} (hlim : lim ≤ 215) (hRc : lim - n0 ≤ R.cells) (hRs : hg_sl lim - hg_sl n0 ≤ R.slots) {C : String} {t index : Nat} (ht : t = 1 ∨ t = 2) (hT : ∀ s, hf_KS g s → va_AO C s ∧ ∀ U : State, va_K g.2.2.1 vwCl [(g.2.2.2 0, .int), (g.2.2.2 1, .object RX4), (g.2.2.2 2, .object RX0)] U → va_RA U (g.2.2.2 t) (.object C)) (hcl : Cond.classLink own index C ∈ wtb) (hd : decode cc pc = .ok (.anewarray index, 3)) (hk : hf_S KS (hg_H g n0) (hg_c n0) Qf g l R cc nL own ret q k) (hq : pc + 3 = q) : hf_S KS (hg_H g n0) (hg_c n0) Qf g l R cc nL own ret pc (d_newq t lim k) := by
  intro p e s m args below meth c hC H locs pl ls st Y r Y' hS hH hL he
  have hKs := hKS s hC.2.2.2.2.2.2.2
  subst hq
  obtain ⟨n, U, I⟩ := Y
  unfold d_newq at he
  dsimp only at he
  split at he
  · split at he
    rotate_left
    · cases he
    rename_i i st hg
    have hn0 : n0 ≤ n := hH.2.1
    have hs1 := hg_sl_s n
    have hs2 : hg_sl (n + 1) ≤ hg_sl lim := hg_sl_le hg.2.2.2.2
    have hs3 : hg_sl n0 ≤ hg_sl n := hg_sl_le hn0
    have hle := hg.2.2.2.1
    have hlm := hg.2.2.2.2
    have hnl := hg.2.1
    refine va_newq (D := g.2.2.1) (A := hf_A g) (C := C) hC.1 hC.2.1 hC.2.2.2.1 (hC.2.2.2.2.1 _ hcl) (hT s hKs.1).1 hKs.1.1 hH.1 (hg_w_D g _) hS (hg_A hKs) hg.1 rfl (by omega) (by simp only [hg_c]; omega) (by simp only [hg_c]; omega) hd (fun q1 cA H1 hK1 hP1 hD1 hS1 => ?_)
    have hcA : cA = g.2.2.2 t := by
      obtain ⟨kA, comp, b1, b2, b3, b4⟩ := (hK1.2 3 (cA, .object C) rfl).2
      obtain ⟨kA2, comp2, c1, c2, c3, c4⟩ := (hT s hKs.1).2 s hKs.1.1
      exact Option.some.inj (b4.symm.trans c4)
    subst hcA
    have ec : hg_cell g (hg_u0 U (n + 6)) (hg_i0 I (n + 6)) (n + 6) = .inl (g.2.2.2 t, i.toNatClampNeg, .inr (.inr (.inr (.inr (fun _ => none))))) := by
      rw [hg_cell_q hg.2.2.1 ht, hg.2.1]
      have : hg_rr g (hg_u0 U (n + 6)) (n + 6) = fun _ => none := by funext j; unfold hg_rr; rw [hg_u0_eq]; rfl
      rw [this]
    refine hg_cnt (k := n + 1 - n0) (n := hg_sl (n + 1) - hg_sl n0) (by simp only [hg_c]; omega) (by simp only [hg_c]; omega) (hg_size fun hsz => ?_)
    rw [← ec] at hP1 hD1
    have hq2 := hg_addr hP1 hD1 (by have h2 := hKs.2; show H1.size ≤ g.1 + n + 1; omega)
    subst hq2
    rw [hg_w_app (V := hg_u0 U (n + 6)) (J := hg_i0 I (n + 6)) (fun d hd => hg_i0_ne hd) (fun d hd => hg_u0_ne hd)] at hP1
    have kk := hk p e s m args below meth c hC H1 locs pl ls (.ref (n + 6) :: st) (n + 1, hg_u0 U (n + 6), hg_i0 I (n + 6)) r Y' hS1 ⟨hP1, by show n0 ≤ n + 1; have := hH.2.1; omega, by show n + 1 ≤ 215; omega⟩ hL he
    have e6 : hf_enc g (.ref (n + 6)) = .ref (g.1 + n) := by show Value.ref (hf_ad g (n + 6)) = _; rw [hf_ad6]
    rw [List.map_cons, e6] at kk
    exact kk
  · cases he
theorem t_putI (hKS : ∀ s, KS g s → hg_KS n0 g s) {C : String} {T : u_T} {N ci j index : Nat} (hc : vwCl[ci]? = some (C, T, N)) (hin : ∀ w ∈ u_ws C T N, w ∈ wtb) (hj : j < N) (hl : Cond.fieldLink own index C (T j).2.1 (T j).2.2.1 ∈ wtb) (hT : (T j).1 = C) (hfi : ∀ c, c < 221 → hf_kd c = ci + 3 → (hf_rs c)[j]? = some none) {tyf : Nat → FieldType} (hty : ∀ k, k < N → parseFieldDescriptor (T k).2.2.1 = some (tyf k)) (hnm : ∀ a, a < N → ∀ b, b < N → a ≠ b → (T a).2.1 ≠ (T b).2.1) (hfin : (T j).2.2.2 = false) (hdty : parseFieldDescriptor (T j).2.2.1 = some .int) (hd : decode cc pc = .ok (.putfield index, 3)) (hk : hf_S KS (hg_H g n0) (hg_c n0) Qf g l R cc nL own ret q k) (hq : pc + 3 = q) : hf_S KS (hg_H g n0) (hg_c n0) Qf g l R cc nL own ret pc (d_putI ci j k) := by
  intro p e s m args below meth c hC H locs pl ls st Y r Y' hS hH hL he
  have hKs := hKS s hC.2.2.2.2.2.2.2
  subst hq
  obtain ⟨n, U, I⟩ := Y
  unfold d_putI at he
  dsimp only at he
  split at he
  · split at he
    rotate_left
    · cases he
    rename_i v c' st hg
    have hb := hf_kdc (c := c') hc hg.1
    have hb2 : 6 ≤ c' ∧ c' < n + 6 := ⟨hb.1, hg.2⟩
    have hl2 : j < (hg_fl g U I c').length := by
      have := (List.getElem?_eq_some_iff.mp (hfi c' hb.2 hg.1)).1
      unfold hg_fl; simpa using this
    refine va_put (D := g.2.2.1) (ci := ci) (v := .int v) (ty := .int) (C := C) (T := T) (N := N) (A := hf_A g) hC.1 hC.2.1 hC.2.2.2.2.1 hin tyf hty hnm hC.2.2.2.1 hKs.1.1 hH.1 (hg_w_D g _) hS (c' - 6) (by rw [hg_w_atc g (n, U, I) hb2, hg_cell_o hg.1]) hc j hj (hC.2.2.2.2.1 _ hl) (fun _ h9 => by rw [hT] at h9; exact h9) hfin hdty rfl rfl hl2 hd (fun H1 locs1 hP1 hD1 hS1 => ?_)
    refine hk p e s m args below meth c hC H1 locs1 pl ls st (n, U, hf_w I c' j v) r Y' hS1 ⟨?_, hH.2.1, hH.2.2⟩ hL he
    rw [hg_fl_set (hfi c' hb.2 hg.1), ← hg_cell_o (g := g) (U := U) (I := hf_w I c' j v) hg.1, hg_w_set (V := U) (J := hf_w I c' j v) hb2 (fun d hd => hf_w_ne hd) (fun _ _ => rfl)] at hP1
    exact hP1
  · cases he
theorem t_putZ (hKS : ∀ s, KS g s → hg_KS n0 g s) {C : String} {T : u_T} {N ci j index : Nat} (hc : vwCl[ci]? = some (C, T, N)) (hin : ∀ w ∈ u_ws C T N, w ∈ wtb) (hj : j < N) (hl : Cond.fieldLink own index C (T j).2.1 (T j).2.2.1 ∈ wtb) (hT : (T j).1 = C) (hfi : ∀ c, c < 221 → hf_kd c = ci + 3 → (hf_rs c)[j]? = some none) {tyf : Nat → FieldType} (hty : ∀ k, k < N → parseFieldDescriptor (T k).2.2.1 = some (tyf k)) (hnm : ∀ a, a < N → ∀ b, b < N → a ≠ b → (T a).2.1 ≠ (T b).2.1) (hfin : (T j).2.2.2 = false) (hdty : parseFieldDescriptor (T j).2.2.1 = some .boolean) (hd : decode cc pc = .ok (.putfield index, 3)) (hk : hf_S KS (hg_H g n0) (hg_c n0) Qf g l R cc nL own ret q k) (hq : pc + 3 = q) : hf_S KS (hg_H g n0) (hg_c n0) Qf g l R cc nL own ret pc (d_putZ ci j k) := by
  intro p e s m args below meth c hC H locs pl ls st Y r Y' hS hH hL he
  have hKs := hKS s hC.2.2.2.2.2.2.2
  subst hq
  obtain ⟨n, U, I⟩ := Y
  unfold d_putZ at he
  dsimp only at he
  split at he
  · split at he
    rotate_left
    · cases he
    rename_i v c' st hg
    have hb := hf_kdc (c := c') hc hg.1
    have hb2 : 6 ≤ c' ∧ c' < n + 6 := ⟨hb.1, hg.2.1⟩
    have hl2 : j < (hg_fl g U I c').length := by
      have := (List.getElem?_eq_some_iff.mp (hfi c' hb.2 hg.1)).1
      unfold hg_fl; simpa using this
    refine va_put (D := g.2.2.1) (ci := ci) (v := .int v) (ty := .boolean) (C := C) (T := T) (N := N) (A := hf_A g) hC.1 hC.2.1 hC.2.2.2.2.1 hin tyf hty hnm hC.2.2.2.1 hKs.1.1 hH.1 (hg_w_D g _) hS (c' - 6) (by rw [hg_w_atc g (n, U, I) hb2, hg_cell_o hg.1]) hc j hj (hC.2.2.2.2.1 _ hl) (fun _ h9 => by rw [hT] at h9; exact h9) hfin hdty (by rcases hg.2.2 with h | h <;> rw [h] <;> decide) (by rcases hg.2.2 with h | h <;> rw [h] <;> decide) hl2 hd (fun H1 locs1 hP1 hD1 hS1 => ?_)
    refine hk p e s m args below meth c hC H1 locs1 pl ls st (n, U, hf_w I c' j v) r Y' hS1 ⟨?_, hH.2.1, hH.2.2⟩ hL he
    rw [hg_fl_set (hfi c' hb.2 hg.1), ← hg_cell_o (g := g) (U := U) (I := hf_w I c' j v) hg.1, hg_w_set (V := U) (J := hf_w I c' j v) hb2 (fun d hd => hf_w_ne hd) (fun _ _ => rfl)] at hP1
    exact hP1
  · cases he
theorem t_putR (hKS : ∀ s, KS g s → hg_KS n0 g s) (hKI : ∀ s, KS g s → hg_ini s) {C : String} {T : u_T} {N ci j index : Nat} (hc : vwCl[ci]? = some (C, T, N)) (hin : ∀ w ∈ u_ws C T N, w ∈ wtb) (hj : j < N) (hl : Cond.fieldLink own index C (T j).2.1 (T j).2.2.1 ∈ wtb) (hT : (T j).1 = C) {tyf : Nat → FieldType} (hty : ∀ k, k < N → parseFieldDescriptor (T k).2.2.1 = some (tyf k)) (hnm : ∀ a, a < N → ∀ b, b < N → a ≠ b → (T a).2.1 ≠ (T b).2.1) {ty : FieldType} (hfin : (T j).2.2.2 = true) (hdecl : (T j).1 = own) (hdty : parseFieldDescriptor (T j).2.2.1 = some ty) (hnr : ∀ a : Nat, narrow ty (.ref a) = .ref a) (hft : ∀ a : Nat, fits ty (.ref a) = true) (hd : decode cc pc = .ok (.putfield index, 3)) (hk : hf_S KS (hg_H g n0) (hg_c n0) Qf g l R cc nL own ret q k) (hq : pc + 3 = q) : hf_S KS (hg_H g n0) (hg_c n0) Qf g l R cc nL own ret pc (d_putR ci j k) := by
  intro p e s m args below meth c hC H locs pl ls st Y r Y' hS hH hL he
  have hKs := hKS s hC.2.2.2.2.2.2.2
  subst hq
  have hi := hKI s hC.2.2.2.2.2.2.2
  obtain ⟨n, U, I⟩ := Y
  unfold d_putR at he
  dsimp only at he
  split at he
  · split at he
    rotate_left
    · cases he
    rename_i v c' st hg
    have hb := hf_kdc (c := c') hc hg.1
    have hb2 : 6 ≤ c' ∧ c' < n + 6 := ⟨hb.1, hg.2.1⟩
    have hrs := hf_rf_some hg.2.2
    have hl2 : j < (hg_fl g U I c').length := by
      have := (List.getElem?_eq_some_iff.mp hrs).1
      unfold hg_fl; simpa using this
    refine hg_name hi fun hnm2 => ?_
    refine va_putF (D := g.2.2.1) (ci := ci) (v := .ref (hf_ad g v)) (ty := ty) (C := C) (T := T) (N := N) (A := hf_A g) hC.1 hC.2.1 hC.2.2.2.2.1 hin tyf hty hnm hC.2.2.2.1 hKs.1.1 hH.1 (hg_w_D g _) hS (c' - 6) (by rw [hg_w_atc g (n, U, I) hb2, hg_cell_o hg.1]) hc j hj (hC.2.2.2.2.1 _ hl) (fun _ h9 => by rw [hT] at h9; exact h9) hfin hnm2 hdecl hdty (hnr _) (hft _) hl2 hd (fun H1 locs1 hP1 hD1 hS1 => ?_)
    refine hk p e s m args below meth c hC H1 locs1 pl ls st (n, hg_u U c' j, I) r Y' hS1 ⟨?_, hH.2.1, hH.2.2⟩ hL he
    rw [hg_fl_setr hrs, ← hg_cell_o (g := g) (U := hg_u U c' j) (I := I) hg.1, hg_w_set (V := hg_u U c' j) (J := I) hb2 (fun _ _ => rfl) (fun d hd => hg_u_ne hd)] at hP1
    exact hP1
  · cases he
theorem t_getR (hKS : ∀ s, KS g s → hg_KS n0 g s) {C : String} {T : u_T} {N ci j index : Nat} (hc : vwCl[ci]? = some (C, T, N)) (hin : ∀ w ∈ u_ws C T N, w ∈ wtb) (hj : j < N) (hl : Cond.fieldLink own index C (T j).2.1 (T j).2.2.1 ∈ wtb) (hT : (T j).1 = C) (hd : decode cc pc = .ok (.getfield index, 3)) (hk : hf_S KS (hg_H g n0) (hg_c n0) Qf g l R cc nL own ret q k) (hq : pc + 3 = q) : hf_S KS (hg_H g n0) (hg_c n0) Qf g l R cc nL own ret pc (d_getR ci j k) := by
  intro p e s m args below meth c hC H locs pl ls st Y r Y' hS hH hL he
  have hKs := hKS s hC.2.2.2.2.2.2.2
  subst hq
  obtain ⟨n, U, I⟩ := Y
  unfold d_getR at he
  dsimp only at he
  split at he
  · split at he
    rotate_left
    · cases he
    rename_i c' st hg
    split at he
    rotate_left
    · cases he
    rename_i r0 hr
    have hb := hf_kdc (c := c') hc hg.1
    have hb2 : 6 ≤ c' ∧ c' < n + 6 := ⟨hb.1, hg.2.1⟩
    have hv : (hg_fl g U I c')[j]? = some (.ref (hf_ad g r0)) := by
      unfold hg_fl
      rw [List.getElem?_mapIdx, hf_rf_some hr]
      simp [hg.2.2]
    refine va_get (D := g.2.2.1) (ci := ci) (C := C) (T := T) (N := N) hC.1 hC.2.1 hC.2.2.2.2.1 hin hC.2.2.2.1 hKs.1.1 hH.1 (c' - 6) (by rw [hg_w_atc g (n, U, I) hb2, hg_cell_o hg.1]) hc j hj (hC.2.2.2.2.1 _ hl) (fun _ h9 => by rw [hT] at h9; exact h9) hv hd ?_
    exact hk p e s m args below meth c hC H locs pl ls _ (n, U, I) r Y' hS hH hL he
  · cases he
theorem t_iast (hKS : ∀ s, KS g s → hg_KS n0 g s) (hd : decode cc pc = .ok (.iastore, 1)) (hk : hf_S KS (hg_H g n0) (hg_c n0) Qf g l R cc nL own ret q k) (hq : pc + 1 = q) : hf_S KS (hg_H g n0) (hg_c n0) Qf g l R cc nL own ret pc (d_iast k) := by
  intro p e s m args below meth c hC H locs pl ls st Y r Y' hS hH hL he
  have hKs := hKS s hC.2.2.2.2.2.2.2
  subst hq
  obtain ⟨n, U, I⟩ := Y
  unfold d_iast at he
  dsimp only at he
  split at he
  · split at he
    rotate_left
    · cases he
    rename_i v i c' st hg
    have hb := hf_kd_hi (c := c') (by rw [hg.1]; decide)
    have hb2 : 6 ≤ c' ∧ c' < n + 6 := ⟨hb.1, hg.2.1⟩
    refine va_iast (A := hf_A g) hC.1 hC.2.1 hKs.1.1 hH.1 (hg_w_D g _) hS (c' - 6) 0 (by rw [hg_w_atc g (n, U, I) hb2, hg_cell_a hg.1]) rfl (hf_in_vp hg.2.2) hd (fun H1 locs1 hP1 hD1 hS1 => ?_)
    refine hk p e s m args below meth c hC H1 locs1 pl ls st (n, U, hf_w I c' i.toNatClampNeg v) r Y' hS1 ⟨?_, hH.2.1, hH.2.2⟩ hL he
    have e1 := hg_cell_a (g := g) (U := U) (I := hf_w I c' i.toNatClampNeg v) hg.1
    rw [hf_w_eq] at e1
    rw [← e1, hg_w_set (V := U) (J := hf_w I c' i.toNatClampNeg v) hb2 (fun d hd => hf_w_ne hd) (fun _ _ => rfl)] at hP1
    exact hP1
  · cases he
theorem t_alen (hKS : ∀ s, KS g s → hg_KS n0 g s) (hd : decode cc pc = .ok (.arraylength, 1)) (hk : hf_S KS (hg_H g n0) (hg_c n0) Qf g l R cc nL own ret q k) (hq : pc + 1 = q) : hf_S KS (hg_H g n0) (hg_c n0) Qf g l R cc nL own ret pc (d_alen k) := by
  intro p e s m args below meth c hC H locs pl ls st Y r Y' hS hH hL he
  have hKs := hKS s hC.2.2.2.2.2.2.2
  subst hq
  obtain ⟨n, U, I⟩ := Y
  unfold d_alen at he
  dsimp only at he
  split at he
  · split at he
    rotate_left
    · cases he
    rename_i c' st hg
    have hb := hf_kd_hi (c := c') (by rw [hg.1]; decide)
    have hb2 : 6 ≤ c' ∧ c' < n + 6 := ⟨hb.1, hg.2⟩
    refine va_alen hC.1 hC.2.1 hKs.1.1 hH.1 (c' - 6) 0 (by rw [hg_w_atc g (n, U, I) hb2, hg_cell_a hg.1]) (ty := .int) rfl rfl hd ?_
    exact hk p e s m args below meth c hC H locs pl ls _ (n, U, I) r Y' hS hH hL he
  · cases he
theorem t_aast (hKS : ∀ s, KS g s → hg_KS n0 g s) {C : String} {T : u_T} {N ci t : Nat} (hc : vwCl[ci]? = some (C, T, N)) (ht : t = 1 ∨ t = 2) (hty : ([(g.2.2.2 0, FieldType.int), (g.2.2.2 1, .object RX4), (g.2.2.2 2, .object RX0)] : List (ClassId × FieldType))[t]? = some (g.2.2.2 t, .object C)) (hd : decode cc pc = .ok (.aastore, 1)) (hk : hf_S KS (hg_H g n0) (hg_c n0) Qf g l R cc nL own ret q k) (hq : pc + 1 = q) : hf_S KS (hg_H g n0) (hg_c n0) Qf g l R cc nL own ret pc (d_aast t ci k) := by
  intro p e s m args below meth c hC H locs pl ls st Y r Y' hS hH hL he
  have hKs := hKS s hC.2.2.2.2.2.2.2
  subst hq
  obtain ⟨n, U, I⟩ := Y
  unfold d_aast at he
  dsimp only at he
  split at he
  · split at he
    rotate_left
    · cases he
    rename_i v i c' st hg
    obtain ⟨g1, g2, g3, g4, g5, g6⟩ := hg
    have hb := hf_kd_hi (c := c') (by rw [g1]; rcases ht with h | h <;> rw [h] <;> decide)
    have hb2 : 6 ≤ c' ∧ c' < n + 6 := ⟨hb.1, g2⟩
    have hbv := hf_kdc (c := v) hc g5
    refine va_astq (A := hf_A g) hC.1 hC.2.1 hKs.1.1 hH.1 (hg_w_D g _) hS (c' - 6) t (v - 6) ci (r := (C, T, N)) (cA := g.2.2.2 t) (n := hf_ln c') (f := hg_rr g U c') (vs := hg_fl g U I v) (by rw [hg_w_atc g (n, U, I) hb2, hg_cell_q g1 ht]) hty (by rw [hg_w_atc g (n, U, I) ⟨hbv.1, g6⟩, hg_cell_o g5]) hc (hf_in_vp g3) hd (fun H1 locs1 hP1 hD1 hS1 => ?_)
    refine hk p e s m args below meth c hC H1 locs1 pl ls st (n, hg_u U c' i.toNatClampNeg, I) r Y' hS1 ⟨?_, hH.2.1, hH.2.2⟩ hL he
    have er : va_up (hg_rr g U c') i.toNatClampNeg (some (hf_ad g v)) = hg_rr g (hg_u U c' i.toNatClampNeg) c' := by
      funext j
      unfold va_up hg_rr hg_u
      by_cases hj : j = i.toNatClampNeg
      · subst hj; simp [g4]
      · simp [hj]
    rw [er, ← hg_cell_q (g := g) (U := hg_u U c' i.toNatClampNeg) (I := I) g1 ht, hg_w_set (V := hg_u U c' i.toNatClampNeg) (J := I) hb2 (fun _ _ => rfl) (fun d hd => hg_u_ne hd)] at hP1
    exact hP1
  · cases he
theorem t_objI (hKS : ∀ s, KS g s → hg_KS n0 g s) {index : Nat} (hl : Cond.methodLink own index Lib.objectInit ∈ wtb) (hinst : Cond.instanceMethod Lib.objectInit ∈ wtb) (hco : Cond.code Lib.objectInit ⟨#[0xb1]⟩ 1 none ∈ wtb) (hfr : 1 ≤ R.frames) (hlo : 12 ≤ R.locals) (hd : decode cc pc = .ok (.invokespecial index, 3)) (hk : hf_S KS (hg_H g n0) (hg_c n0) Qf g l R cc nL own ret q k) (hq : pc + 3 = q) : hf_S KS (hg_H g n0) (hg_c n0) Qf g l R cc nL own ret pc (d_objI k) := by
  intro p e s m args below meth c hC H locs pl ls st Y r Y' hS hH hL he
  have hKs := hKS s hC.2.2.2.2.2.2.2
  subst hq
  unfold d_objI at he
  split at he
  · have W5 := hC.2.2.2.2.1
    refine W.objInit hC.1 hC.2.1 hC.2.2.2.1 (W5 _ hl) (W5 _ hinst) (W5 _ hco) rfl (hL.1.trans hC.2.2.1.symm) rfl hd hfr ?_ (hk p e s m args below meth c hC H locs pl ls [] Y r Y' hS hH hL he)
    have := lv_room (m := m) (pc := pc) (ls := ls) (rest := []) (st := ([] : List Value)) (by simp)
    simp [JFrame.monitorRoom] at this ⊢
    omega
  · cases he
end HG1
