theorem hf_KS.step {g : hf_G} {s U : State} {locs : List Loc} (hW : s.WarmedH U.vm) (hS : va_S (hf_A g) s.heap U.heap locs) (h : hf_KS g s) : hf_KS g U := by
  obtain ⟨h1, h2, h3, h4, h5, h6, h7⟩ := h
  refine ⟨va_K.moved hW.alike h1, fun c a b => (va_T.moved hW.alike (h2 c a b)).kept (fun q x y => hS.2.1 q x y), fun c a b => (va_Z.moved hW.alike (h3 c a b)).kept (fun q x y => hS.2.1 q x y), fun q hq => va_Nw.warmF hW (h4 q hq), fun q hq => va_Nw.warmM hW (h5 q hq), va_AO.moved hW.alike h6, va_AO.moved hW.alike h7⟩
theorem hf_KS.same {g : hf_G} {s U : State} (hv : s.vm = U.vm) (hh : U.heap = s.heap) (h : hf_KS g s) : hf_KS g U := by
  have hW : s.WarmedH U.vm := by rw [← hv]; exact State.WarmedH.refl s
  refine hf_KS.step (locs := []) hW ?_ h
  rw [hh]; exact va_S.rf
def hf_Pc (g : hf_G) (av : List Value) (I : hf_M) : Array Value → State → Prop := va_Pc (av.map (hf_enc g)) (fun U => hf_H g I U.heap ∧ hf_KS g U)
def hf_Qc (g : hf_G) (r : Option Value) (I' : hf_M) : Array Value → State → Outcome → State → Prop := fun _ st o t => o = .returned (r.map (hf_enc g)) ∧ hf_H g I' t.heap ∧ va_F (hf_A g) st t
def hf_Qm (g : hf_G) : hf_Q hf_M := fun below args s r I' => MQ below (hf_Qc g r I') args s 0 0 (hf_A g)
def hf_c0 : hf_M → Nat × Nat := fun _ => (0, 0)
abbrev hf_F : Type := List Value → hf_M → hf_R hf_M
def hf_Met (g : hf_G) (l : Launch) (y : MethodName) (cc : ByteArray) (maxL : Nat) (ret : Option FieldType) (rm : Room) (f : hf_F) : Prop :=
  ∀ (av : List Value) (I : hf_M) (r : Option Value) (I' : hf_M), f av I = some (r, I') → Met l y (.code y cc maxL ret :: wtb) rm (hf_Pc g av I) (hf_Qc g r I') 0 0 (hf_A g)
def hf_fn (a n : Nat) (k : hf_K hf_M) : hf_F := fun av I => if av.length = a ∧ av.all (fun v => v.category == 1) = true then k (av ++ List.replicate (n - a) (.long 0)) [] I else none
theorem hf_met {g : hf_G} {l : Launch} {y : MethodName} {cc : ByteArray} {maxL a : Nat} {ret : Option FieldType} {rm : Room} {k : hf_K hf_M} {own : String} (hy : plainName y.cls = true) (hown : y.cls = own) (ha : a ≤ maxL) (hs : hf_S hf_KS (hf_H g) hf_c0 (hf_Qm g) g l rm cc maxL own ret 0 k) : hf_Met g l y cc maxL ret rm (hf_fn a maxL k) := by
  intro av I r I' hf
  unfold hf_fn at hf
  split at hf
  · rename_i hav
    subst hown
    refine Met.ofW (cc := cc) (maxL := maxL) (ret := ret) hy rfl ?_
    intro p e s m args below meth c s₁ B hml hv
    obtain ⟨rfl, hH, hK⟩ := hv
    have hts := atoms_spec (ws := .code y cc maxL ret :: wtb) B.pre
    have hcat : ∀ v ∈ av, v.category = 1 := fun v hv => by simpa using List.all_eq_true.mp hav.2 v hv
    have hl := hf_L.entry g av maxL hcat (by rw [hav.1]; exact ha)
    rw [lg_entry_eq]
    rw [hav.1] at hl
    exact hs p e s m _ below meth c ⟨B.exec, B.bytes, hml, findClass_of_methodNamed B.named, fun w hw => hts w (List.mem_cons_of_mem _ hw), B.returns, B.notSynchronized, hK⟩ s.heap [] _ _ [] I r I' va_S.rf hH hl hf
  · cases hf
section HF2
variable {g : hf_G} {l : Launch} {R : Room} {cc : ByteArray} {nL : Nat} {own : String} {ret : Option FieldType} {pc q : Nat} {k : hf_K hf_M} {cs : hf_M → Nat × Nat} {Qf : hf_Q hf_M}

/-- an int (or boolean) field, a reference field -/
def c_getI (ci j : Nat) (k : hf_K hf_M) : hf_K hf_M := fun pl st I => match st with
  | .ref c :: st => if hf_kd c = ci + 3 then k pl (.int (I c j) :: st) I else none
  | _ => none
def c_getR (ci j : Nat) (k : hf_K hf_M) : hf_K hf_M := fun pl st I => match st with
  | .ref c :: st => if hf_kd c = ci + 3 then match hf_rf c j with
    | some r => k pl (.ref r :: st) I
    | none => none
    else none
  | _ => none
def c_putI (ci j : Nat) (k : hf_K hf_M) : hf_K hf_M := fun pl st I => match st with
  | .int v :: .ref c :: st => if hf_kd c = ci + 3 then k pl st (hf_w I c j v) else none
  | _ => none
def c_putZ (ci j : Nat) (k : hf_K hf_M) : hf_K hf_M := fun pl st I => match st with
  | .int v :: .ref c :: st => if hf_kd c = ci + 3 ∧ (v = 0 ∨ v = 1) then k pl st (hf_w I c j v) else none
  | _ => none
def c_iald (k : hf_K hf_M) : hf_K hf_M := fun pl st I => match st with
  | .int i :: .ref c :: st => if hf_in i (hf_al c) then k pl (.int (hf_rd I c i.toNatClampNeg) :: st) I else none
  | _ => none
def c_iast (k : hf_K hf_M) : hf_K hf_M := fun pl st I => match st with
  | .int v :: .int i :: .ref c :: st => if ¬ c < 6 ∧ hf_in i (hf_al c) then k pl st (hf_w I c i.toNatClampNeg v) else none
  | _ => none
def c_aald (k : hf_K hf_M) : hf_K hf_M := fun pl st I => match st with
  | .int i :: .ref c :: st => if (hf_kd c = 1 ∨ hf_kd c = 2) ∧ hf_in i (hf_ln c) then match hf_rf c i.toNatClampNeg with
    | some r => k pl (.ref r :: st) I
    | none => none
    else none
  | _ => none
def c_gets (t : Nat) (k : hf_K hf_M) : hf_K hf_M := fun pl st I => k pl (.ref t :: st) I
def hf_cp (I : hf_M) (d : Nat) (f : Nat → Int32) : hf_M := fun c' => if c' = d then f else I c'
def c_copy (k : hf_K hf_M) : hf_K hf_M := fun pl st I => match st with
  | .int n :: .int dp :: .ref d :: .int sp :: .ref s :: st => if hf_kd s = 0 ∧ hf_kd d = 0 ∧ ¬ sp < 0 ∧ ¬ dp < 0 ∧ ¬ n < 0 ∧ sp.toNatClampNeg + n.toNatClampNeg ≤ hf_ln s ∧ dp.toNatClampNeg + n.toNatClampNeg ≤ hf_ln d ∧ st = [] then k pl st (hf_cp I d (va_cpy (I s) (I d) sp.toNatClampNeg dp.toNatClampNeg n.toNatClampNeg)) else none
  | _ => none
def c_iret : hf_K hf_M := fun _ st I => match st with
  | [.int v] => some (some (.int v), I)
  | _ => none
def c_zret : hf_K hf_M := fun _ st I => match st with
  | [.int v] => if v = 0 ∨ v = 1 then some (some (.int v), I) else none
  | _ => none
def c_vret : hf_K hf_M := fun _ st I => match st with
  | [] => some (none, I)
  | _ => none
def hf_pop (a : Nat) (st : List Value) : Option (List Value × List Value) := if a ≤ st.length then some ((st.take a).reverse, st.drop a) else none
def hf_rok (st : List Value) : Prop := (st.map fun v => v.category).sum ≤ 8
def c_callV (ci a : Nat) (f : hf_F) (k : hf_K hf_M) : hf_K hf_M := fun pl st I => match hf_pop a st with
  | some (as, .ref c :: rest) => if hf_kd c = ci + 3 ∧ (rest.map fun v => v.category).sum ≤ 8 then match f (.ref c :: as) I with
    | some (v, J) => k pl (v.toList ++ rest) J
    | none => none
    else none
  | _ => none
def c_callS (a : Nat) (f : hf_F) (k : hf_K hf_M) : hf_K hf_M := fun pl st I => match hf_pop a st with
  | some (as, rest) => if (rest.map fun v => v.category).sum ≤ 8 then match f as I with
    | some (v, J) => k pl (v.toList ++ rest) J
    | none => none
    else none
  | _ => none
theorem hf_ci {ci : Nat} {x : vw_C} (h : vwCl[ci]? = some x) : ci < 9 := (List.getElem?_eq_some_iff.mp h).1
theorem hf_kdc {c ci : Nat} {x : vw_C} (h : vwCl[ci]? = some x) (hk : hf_kd c = ci + 3) : 6 ≤ c ∧ c < 221 := hf_kd_hi (by have := hf_ci h; omega)
theorem hf_fl_i {g : hf_G} {I : hf_M} {c j : Nat} (h : (hf_rs c)[j]? = some none) : (hf_fl g I c)[j]? = some (.int (I c j)) := by
  unfold hf_fl
  rw [List.getElem?_mapIdx, h]; rfl
theorem hf_fl_r {g : hf_G} {I : hf_M} {c j x : Nat} (h : (hf_rs c)[j]? = some (some x)) : (hf_fl g I c)[j]? = some (.ref (hf_ad g x)) := by
  unfold hf_fl
  rw [List.getElem?_mapIdx, h]; rfl
theorem hf_rf_some {c j r : Nat} (h : hf_rf c j = some r) : (hf_rs c)[j]? = some (some r) := by
  unfold hf_rf at h
  rw [List.getD_eq_getElem?_getD] at h
  cases h1 : (hf_rs c)[j]? with
  | none => rw [h1] at h; cases h
  | some x => rw [h1] at h; simp at h; rw [h]

theorem s_getI {cz : Nat × Nat} {C : String} {T : u_T} {N ci j index : Nat} (hc : vwCl[ci]? = some (C, T, N)) (hin : ∀ w ∈ u_ws C T N, w ∈ wtb) (hj : j < N) (hl : Cond.fieldLink own index C (T j).2.1 (T j).2.2.1 ∈ wtb) (hT : (T j).1 = C) (hfi : ∀ c, c < 221 → hf_kd c = ci + 3 → (hf_rs c)[j]? = some none) (hd : decode cc pc = .ok (.getfield index, 3)) (hk : hf_S hf_KS (hf_H g) (fun _ => cz) Qf g l R cc nL own ret q k) (hq : pc + 3 = q) : hf_S hf_KS (hf_H g) (fun _ => cz) Qf g l R cc nL own ret pc (c_getI ci j k) := by
  intro p e s m args below meth c hC H locs pl ls st I r I' hS hH hL he
  subst hq
  unfold c_getI at he
  split at he
  · split at he
    · rename_i c' st hkd
      have hb := hf_kdc (c := c') hc hkd
      refine va_get (D := g.2.2.1) (ci := ci) (C := C) (T := T) (N := N) hC.1 hC.2.1 hC.2.2.2.2.1 hin hC.2.2.2.1 hC.2.2.2.2.2.2.2.1 hH (c' - 6) (by rw [hf_pic_at g I hb, hf_cell_o hkd]) hc j hj (hC.2.2.2.2.1 _ hl) (fun _ h9 => by rw [hT] at h9; exact h9) (hf_fl_i (hfi c' hb.2 hkd)) hd ?_
      exact hk p e s m args below meth c hC H locs pl ls _ I r I' hS hH hL he
    · cases he
  · cases he
theorem s_getR {cz : Nat × Nat} {C : String} {T : u_T} {N ci j index : Nat} (hc : vwCl[ci]? = some (C, T, N)) (hin : ∀ w ∈ u_ws C T N, w ∈ wtb) (hj : j < N) (hl : Cond.fieldLink own index C (T j).2.1 (T j).2.2.1 ∈ wtb) (hT : (T j).1 = C) (hd : decode cc pc = .ok (.getfield index, 3)) (hk : hf_S hf_KS (hf_H g) (fun _ => cz) Qf g l R cc nL own ret q k) (hq : pc + 3 = q) : hf_S hf_KS (hf_H g) (fun _ => cz) Qf g l R cc nL own ret pc (c_getR ci j k) := by
  intro p e s m args below meth c hC H locs pl ls st I r I' hS hH hL he
  subst hq
  unfold c_getR at he
  split at he
  · split at he
    · rename_i c' st hkd
      split at he
      · rename_i r0 hr
        have hb := hf_kdc (c := c') hc hkd
        refine va_get (D := g.2.2.1) (ci := ci) (C := C) (T := T) (N := N) hC.1 hC.2.1 hC.2.2.2.2.1 hin hC.2.2.2.1 hC.2.2.2.2.2.2.2.1 hH (c' - 6) (by rw [hf_pic_at g I hb, hf_cell_o hkd]) hc j hj (hC.2.2.2.2.1 _ hl) (fun _ h9 => by rw [hT] at h9; exact h9) (hf_fl_r (hf_rf_some hr)) hd ?_
        exact hk p e s m args below meth c hC H locs pl ls _ I r I' hS hH hL he
      · cases he
    · cases he
  · cases he
theorem hf_fl_set {g : hf_G} {I : hf_M} {c j : Nat} {v : Int32} (h : (hf_rs c)[j]? = some none) : (hf_fl g I c).set j (.int v) = hf_fl g (hf_w I c j v) c := by
  apply List.ext_getElem?
  intro i
  unfold hf_fl
  rw [List.getElem?_set, List.getElem?_mapIdx, List.getElem?_mapIdx]
  by_cases hij : j = i
  · subst hij
    have hlt : j < (hf_rs c).length := (List.getElem?_eq_some_iff.mp h).1
    rw [if_pos rfl, if_pos (by simpa using hlt), h]
    simp [hf_w, upd]
  · rw [if_neg hij]
    cases (hf_rs c)[i]? with
    | none => rfl
    | some r =>
      cases r with
      | some x => rfl
      | none => simp [hf_w, upd, Ne.symm hij]

theorem s_putI {cz : Nat × Nat} {tyf : Nat → FieldType} {C : String} {T : u_T} {N ci j index : Nat} (hc : vwCl[ci]? = some (C, T, N)) (hin : ∀ w ∈ u_ws C T N, w ∈ wtb) (hj : j < N) (hl : Cond.fieldLink own index C (T j).2.1 (T j).2.2.1 ∈ wtb) (hT : (T j).1 = C) (hfi : ∀ c, c < 221 → hf_kd c = ci + 3 → (hf_rs c)[j]? = some none) (hty : ∀ k, k < N → parseFieldDescriptor (T k).2.2.1 = some (tyf k)) (hnm : ∀ a, a < N → ∀ b, b < N → a ≠ b → (T a).2.1 ≠ (T b).2.1) (hfin : (T j).2.2.2 = false) (hdty : parseFieldDescriptor (T j).2.2.1 = some .int) (hd : decode cc pc = .ok (.putfield index, 3)) (hk : hf_S hf_KS (hf_H g) (fun _ => cz) Qf g l R cc nL own ret q k) (hq : pc + 3 = q) : hf_S hf_KS (hf_H g) (fun _ => cz) Qf g l R cc nL own ret pc (c_putI ci j k) := by
  intro p e s m args below meth c hC H locs pl ls st I r I' hS hH hL he
  subst hq
  unfold c_putI at he
  split at he
  · split at he
    · rename_i v c' st hkd
      have hb := hf_kdc (c := c') hc hkd
      have hl2 : j < (hf_fl g I c').length := by
        have := (List.getElem?_eq_some_iff.mp (hfi c' hb.2 hkd)).1
        unfold hf_fl; simpa using this
      refine va_put (D := g.2.2.1) (ci := ci) (v := .int v) (ty := .int) (C := C) (T := T) (N := N) (A := hf_A g) hC.1 hC.2.1 hC.2.2.2.2.1 hin tyf hty hnm hC.2.2.2.1 hC.2.2.2.2.2.2.2.1 hH (hf_pic_D g I) hS (c' - 6) (by rw [hf_pic_at g I hb, hf_cell_o hkd]) hc j hj (hC.2.2.2.2.1 _ hl) (fun _ h9 => by rw [hT] at h9; exact h9) hfin hdty rfl rfl hl2 hd (fun H1 locs1 hP1 hD1 hS1 => ?_)
      refine hk p e s m args below meth c hC H1 locs1 pl ls st _ r I' hS1 ?_ hL he
      rw [hf_fl_set (hfi c' hb.2 hkd), ← hf_cell_o (g := g) (I := hf_w I c' j v) hkd, hf_pic_set (J := hf_w I c' j v) hb (fun d hd => hf_w_ne hd)] at hP1
      exact hP1
    · cases he
  · cases he
theorem s_putZ {cz : Nat × Nat} {tyf : Nat → FieldType} {C : String} {T : u_T} {N ci j index : Nat} (hc : vwCl[ci]? = some (C, T, N)) (hin : ∀ w ∈ u_ws C T N, w ∈ wtb) (hj : j < N) (hl : Cond.fieldLink own index C (T j).2.1 (T j).2.2.1 ∈ wtb) (hT : (T j).1 = C) (hfi : ∀ c, c < 221 → hf_kd c = ci + 3 → (hf_rs c)[j]? = some none) (hty : ∀ k, k < N → parseFieldDescriptor (T k).2.2.1 = some (tyf k)) (hnm : ∀ a, a < N → ∀ b, b < N → a ≠ b → (T a).2.1 ≠ (T b).2.1) (hfin : (T j).2.2.2 = false) (hdty : parseFieldDescriptor (T j).2.2.1 = some .boolean) (hd : decode cc pc = .ok (.putfield index, 3)) (hk : hf_S hf_KS (hf_H g) (fun _ => cz) Qf g l R cc nL own ret q k) (hq : pc + 3 = q) : hf_S hf_KS (hf_H g) (fun _ => cz) Qf g l R cc nL own ret pc (c_putZ ci j k) := by
  intro p e s m args below meth c hC H locs pl ls st I r I' hS hH hL he
  subst hq
  unfold c_putZ at he
  split at he
  · split at he
    · rename_i v c' st hkd
      have hb := hf_kdc (c := c') hc hkd.1
      have hl2 : j < (hf_fl g I c').length := by
        have := (List.getElem?_eq_some_iff.mp (hfi c' hb.2 hkd.1)).1
        unfold hf_fl; simpa using this
      refine va_put (D := g.2.2.1) (ci := ci) (v := .int v) (ty := .boolean) (C := C) (T := T) (N := N) (A := hf_A g) hC.1 hC.2.1 hC.2.2.2.2.1 hin tyf hty hnm hC.2.2.2.1 hC.2.2.2.2.2.2.2.1 hH (hf_pic_D g I) hS (c' - 6) (by rw [hf_pic_at g I hb, hf_cell_o hkd.1]) hc j hj (hC.2.2.2.2.1 _ hl) (fun _ h9 => by rw [hT] at h9; exact h9) hfin hdty (by rcases hkd.2 with h | h <;> rw [h] <;> decide) (by rcases hkd.2 with h | h <;> rw [h] <;> decide) hl2 hd (fun H1 locs1 hP1 hD1 hS1 => ?_)
      refine hk p e s m args below meth c hC H1 locs1 pl ls st _ r I' hS1 ?_ hL he
      rw [hf_fl_set (hfi c' hb.2 hkd.1), ← hf_cell_o (g := g) (I := hf_w I c' j v) hkd.1, hf_pic_set (J := hf_w I c' j v) hb (fun d hd => hf_w_ne hd)] at hP1
      exact hP1
    · cases he
  · cases he
theorem s_iald {cz : Nat × Nat} (hd : decode cc pc = .ok (.iaload, 1)) (hk : hf_S hf_KS (hf_H g) (fun _ => cz) Qf g l R cc nL own ret q k) (hq : pc + 1 = q) : hf_S hf_KS (hf_H g) (fun _ => cz) Qf g l R cc nL own ret pc (c_iald k) := by
  intro p e s m args below meth c hC H locs pl ls st I r I' hS hH hL he
  subst hq
  unfold c_iald at he
  split at he
  · split at he
    · rename_i i c' st hi
      have kk := hk p e s m args below meth c hC H locs pl ls _ I r I' hS hH hL he
      by_cases h6 : c' < 6
      · have h1 : 1 ≤ c' := by
          rcases Nat.eq_zero_or_pos c' with h0 | h0
          · subst h0; exact absurd hi.2 (by simp [hf_al, hf_tabs])
          · exact h0
        obtain ⟨cell, q1, q2, q3, q4, q5, q6, q7⟩ := hC.2.2.2.2.2.2.2.2.1 c' h1 (Nat.le_of_lt_succ h6)
        have had : hf_ad g c' = g.2.1 c' := by unfold hf_ad; rw [if_pos h6]
        have hrd : hf_rd I c' = hf_tab c' := by unfold hf_rd; rw [if_pos h6]
        rw [hrd] at kk
        refine W.iald hC.1 hC.2.1 (a := hf_ad g c') (cell := cell) (j := i) (v := .int (hf_tab c' i.toNatClampNeg)) ?_ q2 q3 (fun z => z.elim hi.1 (fun z => absurd hi.2 (by omega))) (q6 _ hi.2) rfl rfl hd kk
        rw [had, hS.2.1 _ (Array.getElem?_eq_some_iff.mp q1).1 q7]; exact q1
      · obtain ⟨h0, h2, hb⟩ := hf_al_hi h6 hi
        have hrd : hf_rd I c' = I c' := by unfold hf_rd; rw [if_neg h6]
        rw [hrd] at kk
        exact va_iald hC.1 hC.2.1 hC.2.2.2.2.2.2.2.1 hH (c' - 6) 0 (by rw [hf_pic_at g I hb, hf_cell_a h0]) rfl (by rw [← h2]; exact hf_in_vp hi) hd kk
    · cases he
  · cases he
theorem s_iast {cz : Nat × Nat} (hd : decode cc pc = .ok (.iastore, 1)) (hk : hf_S hf_KS (hf_H g) (fun _ => cz) Qf g l R cc nL own ret q k) (hq : pc + 1 = q) : hf_S hf_KS (hf_H g) (fun _ => cz) Qf g l R cc nL own ret pc (c_iast k) := by
  intro p e s m args below meth c hC H locs pl ls st I r I' hS hH hL he
  subst hq
  unfold c_iast at he
  split at he
  · split at he
    · rename_i v i c' st hi
      obtain ⟨h0, h2, hb⟩ := hf_al_hi hi.1 hi.2
      refine va_iast (A := hf_A g) hC.1 hC.2.1 hC.2.2.2.2.2.2.2.1 hH (hf_pic_D g I) hS (c' - 6) 0 (by rw [hf_pic_at g I hb, hf_cell_a h0]) rfl (by rw [← h2]; exact hf_in_vp hi.2) hd (fun H1 locs1 hP1 hD1 hS1 => ?_)
      refine hk p e s m args below meth c hC H1 locs1 pl ls st _ r I' hS1 ?_ hL he
      have e1 := hf_cell_a (g := g) (I := hf_w I c' i.toNatClampNeg v) h0
      rw [hf_w_eq] at e1
      rw [← e1, hf_pic_set (J := hf_w I c' i.toNatClampNeg v) hb (fun d hd => hf_w_ne hd)] at hP1
      exact hP1
    · cases he
  · cases he
theorem s_aald {cz : Nat × Nat} (hd : decode cc pc = .ok (.aaload, 1)) (hk : hf_S hf_KS (hf_H g) (fun _ => cz) Qf g l R cc nL own ret q k) (hq : pc + 1 = q) : hf_S hf_KS (hf_H g) (fun _ => cz) Qf g l R cc nL own ret pc (c_aald k) := by
  intro p e s m args below meth c hC H locs pl ls st I r I' hS hH hL he
  subst hq
  unfold c_aald at he
  split at he
  · split at he
    · rename_i i c' st hi
      split at he
      · rename_i r0 hr
        have kk := hk p e s m args below meth c hC H locs pl ls _ I r I' hS hH hL he
        have hb := hf_kd_hi (c := c') (by rcases hi.1 with h | h <;> omega)
        have hv : va_rf (hf_rr g c' i.toNatClampNeg) = .ref (hf_ad g r0) := by unfold hf_rr; rw [hr]; rfl
        rcases hi.1 with h | h
        · refine va_aldq hC.1 hC.2.1 hC.2.2.2.2.2.2.2.1 hH (c' - 6) 1 (cA := g.2.2.2 1) (C := RX4) (n := hf_ln c') (f := hf_rr g c') (by rw [hf_pic_at g I hb]; unfold hf_cell; rw [if_neg (by omega), if_pos h]) rfl (hf_in_vp hi.2) hd ?_
          rw [hv]; exact kk
        · refine va_aldq hC.1 hC.2.1 hC.2.2.2.2.2.2.2.1 hH (c' - 6) 2 (cA := g.2.2.2 2) (C := RX0) (n := hf_ln c') (f := hf_rr g c') (by rw [hf_pic_at g I hb]; unfold hf_cell; rw [if_neg (by omega), if_neg (by omega), if_pos h]) rfl (hf_in_vp hi.2) hd ?_
          rw [hv]; exact kk
      · cases he
    · cases he
  · cases he
theorem s_gets {cz : Nat × Nat} {t index : Nat} (h1 : 1 ≤ t) (h5 : t ≤ 5) (hw : (own, index, hf_sn t) ∈ hf_nwF) (hd : decode cc pc = .ok (.getstatic index, 3)) (hk : hf_S hf_KS (hf_H g) (fun _ => cz) Qf g l R cc nL own ret q k) (hq : pc + 3 = q) : hf_S hf_KS (hf_H g) (fun _ => cz) Qf g l R cc nL own ret pc (c_gets t k) := by
  intro p e s m args below meth c hC H locs pl ls st I r I' hS hH hL he
  subst hq
  have hz := hC.2.2.2.2.2.2.2.2.2.1 t h1 h5
  have had : hf_ad g t = g.2.1 t := by unfold hf_ad; rw [if_pos (by omega)]
  refine va_getsN (A := hf_A g) hC.1 hC.2.1 (C := "HeathFire") (n := hf_sn t) (d := "[I") (ref := "HeathFire") (host := "HeathFire") (v := .ref (g.2.1 t)) hz hS hC.2.2.2.1 (va_Nw.use rfl (hC.2.2.2.2.2.2.2.2.2.2.1 _ hw)) (fun _ h9 => h9) hd ?_
  have kk := hk p e s m args below meth c hC H locs pl ls (.ref t :: st) I r I' hS hH hL he
  rw [← had]; exact kk
theorem s_copy {cz : Nat × Nat} {index : Nat} (hl : Cond.methodLink own index arraycopyName ∈ wtb) (hna : Cond.native arraycopyName ∈ wtb) (hst : Cond.static arraycopyName ∈ wtb) (hini : Cond.initialized "java/lang/System" ∈ wtb) (hfr : 1 ≤ R.frames) (hlo : nativeFrameWords "java/lang/System" "arraycopy" 5 + 11 ≤ R.locals) (hd : decode cc pc = .ok (.invokestatic index, 3)) (hk : hf_S hf_KS (hf_H g) (fun _ => cz) Qf g l R cc nL own ret q k) (hq : pc + 3 = q) : hf_S hf_KS (hf_H g) (fun _ => cz) Qf g l R cc nL own ret pc (c_copy k) := by
  intro p e s m args below meth c hC H locs pl ls st I r I' hS hH hL he
  subst hq
  unfold c_copy at he
  split at he
  · split at he
    · rename_i n dp d sp s0 st hi
      obtain ⟨k0, k1, h1, h2, h3, h4, h5, h6⟩ := hi
      have hb0 := hf_kd_hi (c := s0) (by omega)
      have hb1 := hf_kd_hi (c := d) (by omega)
      have W5 := hC.2.2.2.2.1
      refine va_copyi (A := hf_A g) hC.1 hC.2.1 (hC.2.2.1.trans hL.1.symm) hC.2.2.2.1 (W5 _ hl) (W5 _ hna) (W5 _ hst) (W5 _ hini) hC.2.2.2.2.2.2.2.1 hH (hf_pic_D g I) hS (s0 - 6) (d - 6) 0 0 (by rw [hf_pic_at g I hb0, hf_cell_a k0]) (by rw [hf_pic_at g I hb1, hf_cell_a k1]) rfl rfl rfl h1 h2 h3 h4 h5 (fun _ _ => rfl) hfr (by subst h6; simpa using hlo) hd (fun H1 locs1 hP1 hD1 hS1 => ?_)
      refine hk p e s m args below meth c hC H1 locs1 pl ls st _ r I' hS1 ?_ hL he
      have e1 := hf_cell_a (g := g) (I := hf_cp I d (va_cpy (I s0) (I d) sp.toNatClampNeg dp.toNatClampNeg n.toNatClampNeg)) k1
      rw [show hf_cp I d (va_cpy (I s0) (I d) sp.toNatClampNeg dp.toNatClampNeg n.toNatClampNeg) d = va_cpy (I s0) (I d) sp.toNatClampNeg dp.toNatClampNeg n.toNatClampNeg by unfold hf_cp; rw [if_pos rfl]] at e1
      rw [← e1, hf_pic_set (J := hf_cp I d (va_cpy (I s0) (I d) sp.toNatClampNeg dp.toNatClampNeg n.toNatClampNeg)) hb1 (fun z hz => by unfold hf_cp; rw [if_neg hz])] at hP1
      exact hP1
    · cases he
  · cases he
end HF2
section HF3
variable {g : hf_G} {l : Launch} {R : Room} {cc : ByteArray} {nL : Nat} {own : String} {pc q : Nat} {k : hf_K hf_M}
theorem s_iret (hd : decode cc pc = .ok (.ireturn, 1)) : hf_S hf_KS (hf_H g) hf_c0 (hf_Qm g) g l R cc nL own (some .int) pc c_iret := by
  intro p e s m args below meth c hC H locs pl ls st I r I' hS hH hL he
  unfold c_iret at he
  split at he
  · cases he
    exact W.iret hC.1 hC.2.1 hC.2.2.2.2.2.1 (fun t ht _ => ⟨rfl, by rw [ht]; exact hH, hS.F ht⟩) hS.2.2 hd (hlocks := hC.2.2.2.2.2.2.1)
  · cases he
theorem s_zret (hd : decode cc pc = .ok (.ireturn, 1)) : hf_S hf_KS (hf_H g) hf_c0 (hf_Qm g) g l R cc nL own (some .boolean) pc c_zret := by
  intro p e s m args below meth c hC H locs pl ls st I r I' hS hH hL he
  unfold c_zret at he
  split at he
  · split at he
    · rename_i hv
      cases he
      exact W.zret hC.1 hC.2.1 hC.2.2.2.2.2.1 (by rcases hv with h | h <;> rw [h] <;> decide) (fun t ht _ => ⟨rfl, by rw [ht]; exact hH, hS.F ht⟩) hS.2.2 hd (hlocks := hC.2.2.2.2.2.2.1)
    · cases he
  · cases he
theorem s_vret (hd : decode cc pc = .ok (.return_, 1)) : hf_S hf_KS (hf_H g) hf_c0 (hf_Qm g) g l R cc nL own none pc c_vret := by
  intro p e s m args below meth c hC H locs pl ls st I r I' hS hH hL he
  unfold c_vret at he
  split at he
  · cases he
    exact W.vret hC.1 hC.2.1 hC.2.2.2.2.2.1 (fun t ht _ => ⟨rfl, by rw [ht]; exact hH, hS.F ht⟩) hS.2.2 hd (hlocks := hC.2.2.2.2.2.2.1)
  · cases he
end HF3
section HF4
variable {p : Program} {l : Launch} {e : Env} {R : Room} {s : State} {m : MethodId} {args : Array Value} {below : List Frame} {meth : Method} {c : Code} {H : Heap} {locs : List Loc} {cells slots : Nat} {Q : State → Prop}
theorem hf_after {g : hf_G} {pc : Nat} {ls : Array Slot} {st0 rest : List Value} {r : Option Value} {J : hf_M} {a : Array Value} (hr : va_Run p l e R s m args below meth c H locs cells slots 0 0 (F0 m pc ls st0) rest (hf_Qc g r J a) (hf_A g)) (hS : va_S (hf_A g) s.heap H locs)
    (kk : ∀ (H1 : Heap) (locs1 : List Loc), hf_H g J H1 → va_S (hf_A g) s.heap H1 locs1 → W p l e R s m args below meth c H1 locs1 cells slots Q (F0 m (pc + 3) ls ((r.map (hf_enc g)).toList ++ rest))) : W p l e R s m args below meth c H locs cells slots Q (F0 m pc ls st0) := by
  intro T hT X
  obtain ⟨v, st₀, t, T', L, h0, X', hL, e1, e2, ⟨hv, hJ, hz, hk⟩, st⟩ := hr T hT X
  cases hv
  rw [h0] at hz hk
  obtain ⟨t2, a1, b1⟩ := kk T'.heap (locs ++ L) (by rw [e1]; exact hJ) ⟨Nat.le_trans hS.1 (by rw [e1]; exact hz), fun q h1 h2 => by rw [e1, hk q (Nat.lt_of_lt_of_le h1 hS.1) h2]; exact hS.2.1 q h1 h2, fun q hq => by
      rcases List.mem_append.mp hq with h | h
      · exact hS.2.2 q h
      · exact hL q h⟩ T' rfl X'
  exact ⟨t2, st t2 a1, b1⟩
theorem hf_blind (g : hf_G) (av : List Value) (I : hf_M) : FrameBlind (hf_Pc g av I) := by
  intro a U fr mk h
  obtain ⟨h1, h2, h3⟩ := h
  exact ⟨h1, h2, hf_KS.same (s := U) (U := U.calling fr mk a) rfl rfl h3⟩
end HF4
theorem hf_pop_spec {a : Nat} {st as rest : List Value} (h : hf_pop a st = some (as, rest)) : st = as.reverse ++ rest ∧ as.length = a := by
  unfold hf_pop at h
  split at h
  · rename_i hl
    cases h
    simp [hl]
  · cases h
section HF5
variable {g : hf_G} {l : Launch} {R : Room} {cc : ByteArray} {nL : Nat} {own : String} {ret : Option FieldType} {pc q : Nat} {k : hf_K hf_M} {Qf : hf_Q hf_M} {cz : Nat × Nat}

theorem s_callV {y : MethodName} {C : String} {T : u_T} {N ci a index maxL : Nat} {bytes : ByteArray} {rt : Option FieldType} {rm : Room} {f : hf_F} (hM : hf_Met g l y bytes maxL rt rm f) (hc : vwCl[ci]? = some (C, T, N)) (hl : Cond.methodLink own index y ∈ wtb) (hin : Cond.instanceMethod y ∈ wtb) (hse : Cond.selects C y y ∈ wtb) (hini : Cond.initialized y.cls ∈ wtb) (hco : Cond.code y bytes maxL rt ∈ wtb) (hdy : y.cls ≠ "java/lang/invoke/MethodHandle" ∧ y.cls ≠ "java/lang/invoke/VarHandle" ∧ (parseMethodDescriptor y.desc).map (fun d => d.parameters.length) = some a) (hrc : rm.cells = 0) (hrs : rm.slots = 0) (hR : rm.frames + 1 ≤ R.frames ∧ 8 + (maxL + 11) + rm.locals ≤ R.locals) (hf : cz.1 ≤ R.cells ∧ cz.2 ≤ R.slots) (hd : decode cc pc = .ok (.invokevirtual index, 3)) (hk : hf_S hf_KS (hf_H g) (fun _ => cz) Qf g l R cc nL own ret q k) (hq : pc + 3 = q) : hf_S hf_KS (hf_H g) (fun _ => cz) Qf g l R cc nL own ret pc (c_callV ci a f k) := by
  intro p e s m args below meth c hC H locs pl ls st I r I' hS hH hL he
  subst hq
  unfold c_callV at he
  split at he
  · rename_i as cv rest hpop
    obtain ⟨hst, hal⟩ := hf_pop_spec hpop
    split at he
    · rename_i hkd
      split at he
      · rename_i v J hfe
        have hb := hf_kdc (c := cv) hc hkd.1
        have W5 := hC.2.2.2.2.1
        have hcw : CallW R s args own C index y bytes maxL rt (.code y bytes maxL rt :: wtb) rm 0 0 a := ⟨callB_of a W5 (wtb_good hco) rfl hrc hrs (W5 _ hini) (W5 _ hl) hdy hR, W5 _ hin, W5 _ hse⟩
        have hrun := va_runV (e := e) (below := below) (meth := meth) (locs := locs) (cells := cz.1) (slots := cz.2) (g := F0 m pc ls (st.map (hf_enc g))) (rest := rest.map (hf_enc g)) (b := hf_ad g cv) (As := as.map (hf_enc g)) ⟨hC.1, hC.2.1, hC.2.2.1, hC.2.2.2.1, W5⟩ (hM _ I v J hfe) hcw ⟨hf_blind g _ I, va_recv hC.2.2.2.2.2.2.2.1 hH (ci := ci) (q0 := cv - 6) hc (by rw [hf_pic_at g I hb, hf_cell_o hkd.1]), fun U hU hW => ⟨by simp [hf_enc], by rw [hU]; exact hH, hf_KS.step hW (by rw [hU]; exact hS) hC.2.2.2.2.2.2.2⟩⟩ rfl (by simpa using hal) hL.1 (by rw [hst]; simp [hf_enc]) (by have h8 := hkd.2; rw [← hf_enc_cats g rest] at h8; exact (lv_room h8)) hd hf
        refine hf_after hrun hS (fun H1 locs1 hH1 hS1 => ?_)
        have kk := hk p e s m args below meth c hC H1 locs1 pl ls (v.toList ++ rest) J r I' hS1 hH1 hL he
        cases v <;> exact kk
      · cases he
    · cases he
  · cases he
theorem s_callS {y : MethodName} {a index maxL : Nat} {bytes : ByteArray} {rt : Option FieldType} {rm : Room} {f : hf_F} (hM : hf_Met g l y bytes maxL rt rm f) (hl : Cond.methodLink own index y ∈ wtb) (hsta : Cond.static y ∈ wtb) (hini : Cond.initialized y.cls ∈ wtb) (hco : Cond.code y bytes maxL rt ∈ wtb) (hdy : y.cls ≠ "java/lang/invoke/MethodHandle" ∧ y.cls ≠ "java/lang/invoke/VarHandle" ∧ (parseMethodDescriptor y.desc).map (fun d => d.parameters.length) = some a) (hrc : rm.cells = 0) (hrs : rm.slots = 0) (hR : rm.frames + 1 ≤ R.frames ∧ 8 + (maxL + 11) + rm.locals ≤ R.locals) (hf : cz.1 ≤ R.cells ∧ cz.2 ≤ R.slots) (hd : decode cc pc = .ok (.invokestatic index, 3)) (hk : hf_S hf_KS (hf_H g) (fun _ => cz) Qf g l R cc nL own ret q k) (hq : pc + 3 = q) : hf_S hf_KS (hf_H g) (fun _ => cz) Qf g l R cc nL own ret pc (c_callS a f k) := by
  intro p e s m args below meth c hC H locs pl ls st I r I' hS hH hL he
  subst hq
  unfold c_callS at he
  split at he
  · rename_i as rest hpop
    obtain ⟨hst, hal⟩ := hf_pop_spec hpop
    split at he
    · rename_i hkd
      split at he
      · rename_i v J hfe
        have W5 := hC.2.2.2.2.1
        have hrun := va_runS (e := e) (below := below) (meth := meth) (locs := locs) (cells := cz.1) (slots := cz.2) (g := F0 m pc ls (st.map (hf_enc g))) (rest := rest.map (hf_enc g)) (As := as.map (hf_enc g)) ⟨hC.1, hC.2.1, hC.2.2.1, hC.2.2.2.1, W5⟩ (hM _ I v J hfe) ⟨callB_of a W5 (wtb_good hco) rfl hrc hrs (W5 _ hini) (W5 _ hl) hdy hR, W5 _ hsta⟩ ⟨hf_blind g _ I, fun U hU hW => ⟨by simp, by rw [hU]; exact hH, hf_KS.step hW (by rw [hU]; exact hS) hC.2.2.2.2.2.2.2⟩⟩ rfl (by simpa using hal) hL.1 (by rw [hst]; simp) (by have h8 := hkd; rw [← hf_enc_cats g rest] at h8; exact (lv_room h8)) hd hf
        refine hf_after hrun hS (fun H1 locs1 hH1 hS1 => ?_)
        have kk := hk p e s m args below meth c hC H1 locs1 pl ls (v.toList ++ rest) J r I' hS1 hH1 hL he
        cases v <;> exact kk
      · cases he
    · cases he
  · cases he
theorem s_callSN {y : MethodName} {a index maxL : Nat} {bytes : ByteArray} {rt : Option FieldType} {rm : Room} {f : hf_F} (hM : hf_Met g l y bytes maxL rt rm f) (hl : (own, index, y) ∈ hf_nwM) (hsta : Cond.static y ∈ wtb) (hini : Cond.initialized y.cls ∈ wtb) (hco : Cond.code y bytes maxL rt ∈ wtb) (hdy : y.cls ≠ "java/lang/invoke/MethodHandle" ∧ y.cls ≠ "java/lang/invoke/VarHandle" ∧ (parseMethodDescriptor y.desc).map (fun d => d.parameters.length) = some a) (hrc : rm.cells = 0) (hrs : rm.slots = 0) (hR : rm.frames + 1 ≤ R.frames ∧ 8 + (maxL + 11) + rm.locals ≤ R.locals) (hf : cz.1 ≤ R.cells ∧ cz.2 ≤ R.slots) (hd : decode cc pc = .ok (.invokestatic index, 3)) (hk : hf_S hf_KS (hf_H g) (fun _ => cz) Qf g l R cc nL own ret q k) (hq : pc + 3 = q) : hf_S hf_KS (hf_H g) (fun _ => cz) Qf g l R cc nL own ret pc (c_callS a f k) := by
  intro p e s m args below meth c hC H locs pl ls st I r I' hS hH hL he
  subst hq
  unfold c_callS at he
  split at he
  · rename_i as rest hpop
    obtain ⟨hst, hal⟩ := hf_pop_spec hpop
    split at he
    · rename_i hkd
      split at he
      · rename_i v J hfe
        have W5 := hC.2.2.2.2.1
        have hrun := va_runSN (host := "HeathFire") (e := e) (below := below) (meth := meth) (locs := locs) (cells := cz.1) (slots := cz.2) (g := F0 m pc ls (st.map (hf_enc g))) (rest := rest.map (hf_enc g)) (As := as.map (hf_enc g)) ⟨hC.1, hC.2.1, hC.2.2.1, hC.2.2.2.1, W5⟩ (hM _ I v J hfe) ⟨va_cnB a W5 (wtb_good hco) rfl hrc hrs (hC.2.2.2.2.2.2.2.2.2.2.2.1 _ hl) (W5 _ hini) hdy hR, W5 _ hsta, trivial⟩ ⟨hf_blind g _ I, fun U hU hW => ⟨by simp, by rw [hU]; exact hH, hf_KS.step hW (by rw [hU]; exact hS) hC.2.2.2.2.2.2.2⟩⟩ rfl (by simpa using hal) hL.1 (by rw [hst]; simp) (by have h8 := hkd; rw [← hf_enc_cats g rest] at h8; exact (lv_room h8)) hd hf
        refine hf_after hrun hS (fun H1 locs1 hH1 hS1 => ?_)
        have kk := hk p e s m args below meth c hC H1 locs1 pl ls (v.toList ++ rest) J r I' hS1 hH1 hL he
        cases v <;> exact kk
      · cases he
    · cases he
  · cases he
end HF5
