set_option maxRecDepth 100000 in
theorem st_1 {args : Array Value} {s : State} (hg : (Jvm.Cond.and given_1 narrow_1).before args s = true) (hst : ∀ w ∈ tables_1, w.before args s = true) : ∃ t : Nat, va_T .int t (hf_al 1) (fun j => .int (hf_tab 1 j)) (fun q => s.heap.size ≤ q) s s.heap ∧ va_Z "HeathFire" (hf_sn 1) "[I" (.ref t) (fun q => s.heap.size ≤ q) s s.heap := by
  have hs := flat_of_before _ hg
  have hA : ∀ a : Nat, a < s.heap.size → ¬ (fun q : Nat => s.heap.size ≤ q) a := fun a h => Nat.not_le.mpr h
  have harr : (Cond.arrayOf (.static "HeathFire" "DOWN" "[I") .int).before args s = true := hs _ (by decide +kernel)
  have hlen := va_eqt (hs (Cond.eq (.length (.static "HeathFire" "DOWN" "[I")) (.int 8)) (by decide +kernel))
  have hel : ∀ j : Nat, j < 8 → (Term.elem (.static "HeathFire" "DOWN" "[I") (.int (Int32.ofNat j))).eval args s none [] s = some (.int (hf_tab 1 j)) := by
    intro j hj
    match j, hj with
    | 0, _ => exact va_eqt (hs (Cond.eq (.elem (.static "HeathFire" "DOWN" "[I") (.int 0)) (.int (hf_tab 1 0))) (by decide +kernel))
    | 1, _ => exact va_eqt (hs (Cond.eq (.elem (.static "HeathFire" "DOWN" "[I") (.int 1)) (.int (hf_tab 1 1))) (by decide +kernel))
    | 2, _ => exact va_eqt (hs (Cond.eq (.elem (.static "HeathFire" "DOWN" "[I") (.int 2)) (.int (hf_tab 1 2))) (by decide +kernel))
    | 3, _ => exact va_eqt (hs (Cond.eq (.elem (.static "HeathFire" "DOWN" "[I") (.int 3)) (.int (hf_tab 1 3))) (by decide +kernel))
    | 4, _ => exact va_eqt (hs (Cond.eq (.elem (.static "HeathFire" "DOWN" "[I") (.int 4)) (.int (hf_tab 1 4))) (by decide +kernel))
    | 5, _ => exact va_eqt (hs (Cond.eq (.elem (.static "HeathFire" "DOWN" "[I") (.int 5)) (.int (hf_tab 1 5))) (by decide +kernel))
    | 6, _ => exact va_eqt (hs (Cond.eq (.elem (.static "HeathFire" "DOWN" "[I") (.int 6)) (.int (hf_tab 1 6))) (by decide +kernel))
    | 7, _ => exact va_eqt (hs (Cond.eq (.elem (.static "HeathFire" "DOWN" "[I") (.int 7)) (.int (hf_tab 1 7))) (by decide +kernel))
    | j + 8, h => omega
  obtain ⟨t, ht, hT⟩ := va_Tof (N := 8) (f := fun j => .int (hf_tab 1 j)) (by decide) harr hlen hel hA
  exact ⟨t, hT, va_Zof (hst _ (List.mem_of_getElem? (i := 449) (by decide +kernel))) (hst _ (List.mem_of_getElem? (i := 1) (by decide +kernel))) ht hA⟩
set_option maxRecDepth 100000 in
theorem st_2 {args : Array Value} {s : State} (hg : (Jvm.Cond.and given_1 narrow_1).before args s = true) (hst : ∀ w ∈ tables_1, w.before args s = true) : ∃ t : Nat, va_T .int t (hf_al 2) (fun j => .int (hf_tab 2 j)) (fun q => s.heap.size ≤ q) s s.heap ∧ va_Z "HeathFire" (hf_sn 2) "[I" (.ref t) (fun q => s.heap.size ≤ q) s s.heap := by
  have hs := flat_of_before _ hg
  have hA : ∀ a : Nat, a < s.heap.size → ¬ (fun q : Nat => s.heap.size ≤ q) a := fun a h => Nat.not_le.mpr h
  have harr : (Cond.arrayOf (.static "HeathFire" "RIGHT" "[I") .int).before args s = true := hs _ (by decide +kernel)
  have hlen := va_eqt (hs (Cond.eq (.length (.static "HeathFire" "RIGHT" "[I")) (.int 8)) (by decide +kernel))
  have hel : ∀ j : Nat, j < 8 → (Term.elem (.static "HeathFire" "RIGHT" "[I") (.int (Int32.ofNat j))).eval args s none [] s = some (.int (hf_tab 2 j)) := by
    intro j hj
    match j, hj with
    | 0, _ => exact va_eqt (hs (Cond.eq (.elem (.static "HeathFire" "RIGHT" "[I") (.int 0)) (.int (hf_tab 2 0))) (by decide +kernel))
    | 1, _ => exact va_eqt (hs (Cond.eq (.elem (.static "HeathFire" "RIGHT" "[I") (.int 1)) (.int (hf_tab 2 1))) (by decide +kernel))
    | 2, _ => exact va_eqt (hs (Cond.eq (.elem (.static "HeathFire" "RIGHT" "[I") (.int 2)) (.int (hf_tab 2 2))) (by decide +kernel))
    | 3, _ => exact va_eqt (hs (Cond.eq (.elem (.static "HeathFire" "RIGHT" "[I") (.int 3)) (.int (hf_tab 2 3))) (by decide +kernel))
    | 4, _ => exact va_eqt (hs (Cond.eq (.elem (.static "HeathFire" "RIGHT" "[I") (.int 4)) (.int (hf_tab 2 4))) (by decide +kernel))
    | 5, _ => exact va_eqt (hs (Cond.eq (.elem (.static "HeathFire" "RIGHT" "[I") (.int 5)) (.int (hf_tab 2 5))) (by decide +kernel))
    | 6, _ => exact va_eqt (hs (Cond.eq (.elem (.static "HeathFire" "RIGHT" "[I") (.int 6)) (.int (hf_tab 2 6))) (by decide +kernel))
    | 7, _ => exact va_eqt (hs (Cond.eq (.elem (.static "HeathFire" "RIGHT" "[I") (.int 7)) (.int (hf_tab 2 7))) (by decide +kernel))
    | j + 8, h => omega
  obtain ⟨t, ht, hT⟩ := va_Tof (N := 8) (f := fun j => .int (hf_tab 2 j)) (by decide) harr hlen hel hA
  exact ⟨t, hT, va_Zof (hst _ (List.mem_of_getElem? (i := 451) (by decide +kernel))) (hst _ (List.mem_of_getElem? (i := 1) (by decide +kernel))) ht hA⟩
set_option maxRecDepth 100000 in
theorem st_3 {args : Array Value} {s : State} (hg : (Jvm.Cond.and given_1 narrow_1).before args s = true) (hst : ∀ w ∈ tables_1, w.before args s = true) : ∃ t : Nat, va_T .int t (hf_al 3) (fun j => .int (hf_tab 3 j)) (fun q => s.heap.size ≤ q) s s.heap ∧ va_Z "HeathFire" (hf_sn 3) "[I" (.ref t) (fun q => s.heap.size ≤ q) s s.heap := by
  have hs := flat_of_before _ hg
  have hA : ∀ a : Nat, a < s.heap.size → ¬ (fun q : Nat => s.heap.size ≤ q) a := fun a h => Nat.not_le.mpr h
  have harr : (Cond.arrayOf (.static "HeathFire" "PULL" "[I") .int).before args s = true := hs _ (by decide +kernel)
  have hlen := va_eqt (hs (Cond.eq (.length (.static "HeathFire" "PULL" "[I")) (.int 8)) (by decide +kernel))
  have hel : ∀ j : Nat, j < 8 → (Term.elem (.static "HeathFire" "PULL" "[I") (.int (Int32.ofNat j))).eval args s none [] s = some (.int (hf_tab 3 j)) := by
    intro j hj
    match j, hj with
    | 0, _ => exact va_eqt (hs (Cond.eq (.elem (.static "HeathFire" "PULL" "[I") (.int 0)) (.int (hf_tab 3 0))) (by decide +kernel))
    | 1, _ => exact va_eqt (hs (Cond.eq (.elem (.static "HeathFire" "PULL" "[I") (.int 1)) (.int (hf_tab 3 1))) (by decide +kernel))
    | 2, _ => exact va_eqt (hs (Cond.eq (.elem (.static "HeathFire" "PULL" "[I") (.int 2)) (.int (hf_tab 3 2))) (by decide +kernel))
    | 3, _ => exact va_eqt (hs (Cond.eq (.elem (.static "HeathFire" "PULL" "[I") (.int 3)) (.int (hf_tab 3 3))) (by decide +kernel))
    | 4, _ => exact va_eqt (hs (Cond.eq (.elem (.static "HeathFire" "PULL" "[I") (.int 4)) (.int (hf_tab 3 4))) (by decide +kernel))
    | 5, _ => exact va_eqt (hs (Cond.eq (.elem (.static "HeathFire" "PULL" "[I") (.int 5)) (.int (hf_tab 3 5))) (by decide +kernel))
    | 6, _ => exact va_eqt (hs (Cond.eq (.elem (.static "HeathFire" "PULL" "[I") (.int 6)) (.int (hf_tab 3 6))) (by decide +kernel))
    | 7, _ => exact va_eqt (hs (Cond.eq (.elem (.static "HeathFire" "PULL" "[I") (.int 7)) (.int (hf_tab 3 7))) (by decide +kernel))
    | j + 8, h => omega
  obtain ⟨t, ht, hT⟩ := va_Tof (N := 8) (f := fun j => .int (hf_tab 3 j)) (by decide) harr hlen hel hA
  exact ⟨t, hT, va_Zof (hst _ (List.mem_of_getElem? (i := 495) (by decide +kernel))) (hst _ (List.mem_of_getElem? (i := 1) (by decide +kernel))) ht hA⟩
set_option maxRecDepth 100000 in
theorem st_4 {args : Array Value} {s : State} (hg : (Jvm.Cond.and given_1 narrow_1).before args s = true) (hst : ∀ w ∈ tables_1, w.before args s = true) : ∃ t : Nat, va_T .int t (hf_al 4) (fun j => .int (hf_tab 4 j)) (fun q => s.heap.size ≤ q) s s.heap ∧ va_Z "HeathFire" (hf_sn 4) "[I" (.ref t) (fun q => s.heap.size ≤ q) s s.heap := by
  have hs := flat_of_before _ hg
  have hA : ∀ a : Nat, a < s.heap.size → ¬ (fun q : Nat => s.heap.size ≤ q) a := fun a h => Nat.not_le.mpr h
  have harr : (Cond.arrayOf (.static "HeathFire" "RATE" "[I") .int).before args s = true := hs _ (by decide +kernel)
  have hlen := va_eqt (hs (Cond.eq (.length (.static "HeathFire" "RATE" "[I")) (.int 6)) (by decide +kernel))
  have hel : ∀ j : Nat, j < 6 → (Term.elem (.static "HeathFire" "RATE" "[I") (.int (Int32.ofNat j))).eval args s none [] s = some (.int (hf_tab 4 j)) := by
    intro j hj
    match j, hj with
    | 0, _ => exact va_eqt (hs (Cond.eq (.elem (.static "HeathFire" "RATE" "[I") (.int 0)) (.int (hf_tab 4 0))) (by decide +kernel))
    | 1, _ => exact va_eqt (hs (Cond.eq (.elem (.static "HeathFire" "RATE" "[I") (.int 1)) (.int (hf_tab 4 1))) (by decide +kernel))
    | 2, _ => exact va_eqt (hs (Cond.eq (.elem (.static "HeathFire" "RATE" "[I") (.int 2)) (.int (hf_tab 4 2))) (by decide +kernel))
    | 3, _ => exact va_eqt (hs (Cond.eq (.elem (.static "HeathFire" "RATE" "[I") (.int 3)) (.int (hf_tab 4 3))) (by decide +kernel))
    | 4, _ => exact va_eqt (hs (Cond.eq (.elem (.static "HeathFire" "RATE" "[I") (.int 4)) (.int (hf_tab 4 4))) (by decide +kernel))
    | 5, _ => exact va_eqt (hs (Cond.eq (.elem (.static "HeathFire" "RATE" "[I") (.int 5)) (.int (hf_tab 4 5))) (by decide +kernel))
    | j + 6, h => omega
  obtain ⟨t, ht, hT⟩ := va_Tof (N := 6) (f := fun j => .int (hf_tab 4 j)) (by decide) harr hlen hel hA
  exact ⟨t, hT, va_Zof (hst _ (List.mem_of_getElem? (i := 482) (by decide +kernel))) (hst _ (List.mem_of_getElem? (i := 1) (by decide +kernel))) ht hA⟩
set_option maxRecDepth 100000 in
theorem st_5 {args : Array Value} {s : State} (hg : (Jvm.Cond.and given_1 narrow_1).before args s = true) (hst : ∀ w ∈ tables_1, w.before args s = true) : ∃ t : Nat, va_T .int t (hf_al 5) (fun j => .int (hf_tab 5 j)) (fun q => s.heap.size ≤ q) s s.heap ∧ va_Z "HeathFire" (hf_sn 5) "[I" (.ref t) (fun q => s.heap.size ≤ q) s s.heap := by
  have hs := flat_of_before _ hg
  have hA : ∀ a : Nat, a < s.heap.size → ¬ (fun q : Nat => s.heap.size ≤ q) a := fun a h => Nat.not_le.mpr h
  have harr : (Cond.arrayOf (.static "HeathFire" "CATCH" "[I") .int).before args s = true := hs _ (by decide +kernel)
  have hlen := va_eqt (hs (Cond.eq (.length (.static "HeathFire" "CATCH" "[I")) (.int 6)) (by decide +kernel))
  have hel : ∀ j : Nat, j < 6 → (Term.elem (.static "HeathFire" "CATCH" "[I") (.int (Int32.ofNat j))).eval args s none [] s = some (.int (hf_tab 5 j)) := by
    intro j hj
    match j, hj with
    | 0, _ => exact va_eqt (hs (Cond.eq (.elem (.static "HeathFire" "CATCH" "[I") (.int 0)) (.int (hf_tab 5 0))) (by decide +kernel))
    | 1, _ => exact va_eqt (hs (Cond.eq (.elem (.static "HeathFire" "CATCH" "[I") (.int 1)) (.int (hf_tab 5 1))) (by decide +kernel))
    | 2, _ => exact va_eqt (hs (Cond.eq (.elem (.static "HeathFire" "CATCH" "[I") (.int 2)) (.int (hf_tab 5 2))) (by decide +kernel))
    | 3, _ => exact va_eqt (hs (Cond.eq (.elem (.static "HeathFire" "CATCH" "[I") (.int 3)) (.int (hf_tab 5 3))) (by decide +kernel))
    | 4, _ => exact va_eqt (hs (Cond.eq (.elem (.static "HeathFire" "CATCH" "[I") (.int 4)) (.int (hf_tab 5 4))) (by decide +kernel))
    | 5, _ => exact va_eqt (hs (Cond.eq (.elem (.static "HeathFire" "CATCH" "[I") (.int 5)) (.int (hf_tab 5 5))) (by decide +kernel))
    | j + 6, h => omega
  obtain ⟨t, ht, hT⟩ := va_Tof (N := 6) (f := fun j => .int (hf_tab 5 j)) (by decide) harr hlen hel hA
  exact ⟨t, hT, va_Zof (hst _ (List.mem_of_getElem? (i := 517) (by decide +kernel))) (hst _ (List.mem_of_getElem? (i := 1) (by decide +kernel))) ht hA⟩
/-- THE PURE CLAIM -/
def hp_all : Prop := ∀ (L : Nat) (xs : Nat → Int32), L ≤ 3072 → ∃ (N : Nat) (r : Option Value) (Y : hg_M), EL_law N L xs [.ref 0, .long 0, .long 0, .long 0] [] (0, fun _ _ => false, fun _ _ => 0) = some (r, Y)
set_option maxHeartbeats 4000000 in
set_option maxRecDepth 100000 in
theorem whole_start_of (hp : hp_all) {p : Program} {e : Env} {s : State} {m : MethodId} {below : List Frame} {meth : Method} {c : Code} (l : Launch) {b L : Nat} {xs : Nat → Int32} (hL : L ≤ 3072) (C0 : lw_At p s m meth c b L xs) : W p l e room_1 s m #[Value.ref b] below meth c s.heap [] 0 0 (lw_Z below #[Value.ref b] s) (entryFrame m ([Value.ref b] : List Value).toArray 4) := by
  obtain ⟨hx, hb, hr, hml, hown, hts, hX, hbl, hlocks, hgv⟩ := id C0
  have hst : ∀ w ∈ tables_1, w.before #[Value.ref b] s = true := fun w h => hts w (List.mem_append_right _ h)
  have htw : ∀ w ∈ wtb, w.before #[Value.ref b] s = true := fun w h => hts w (wtb_in h)
  obtain ⟨c0, iS0, hKn0⟩ := u_known (C := RX0) (T := TX0) (N := 10) (n := 10) htw iwX0 (hst _ (List.mem_of_getElem? (i := 172) (by decide +kernel)))
  obtain ⟨c1, iS1, hKn1⟩ := u_known (C := RX1) (T := TX1) (N := 8) (n := 8) htw iwX1 (hst _ (List.mem_of_getElem? (i := 104) (by decide +kernel)))
  obtain ⟨c2, iS2, hKn2⟩ := u_known (C := RX2) (T := TX2) (N := 8) (n := 8) htw iwX2 (hst _ (List.mem_of_getElem? (i := 23) (by decide +kernel)))
  obtain ⟨c3, iS3, hKn3⟩ := u_known (C := RX3) (T := TX3) (N := 3) (n := 3) htw iwX3 (hst _ (List.mem_of_getElem? (i := 87) (by decide +kernel)))
  obtain ⟨c4, iS4, hKn4⟩ := u_known (C := RX4) (T := TX4) (N := 15) (n := 15) htw iwX4 (hst _ (List.mem_of_getElem? (i := 135) (by decide +kernel)))
  obtain ⟨c5, iS5, hKn5⟩ := u_known (C := RX5) (T := TX5) (N := 4) (n := 4) htw iwX5 (hst _ (List.mem_of_getElem? (i := 143) (by decide +kernel)))
  obtain ⟨c6, iS6, hKn6⟩ := u_known (C := RX6) (T := TX6) (N := 3) (n := 3) htw iwX6 (hst _ (List.mem_of_getElem? (i := 70) (by decide +kernel)))
  obtain ⟨c7, iS7, hKn7⟩ := u_known (C := RX7) (T := TX7) (N := 10) (n := 10) htw iwX7 (hst _ (List.mem_of_getElem? (i := 15) (by decide +kernel)))
  obtain ⟨c8, iS8, hKn8⟩ := u_known (C := RX8) (T := TX8) (N := 24) (n := 24) htw iwX8 (hst _ (List.mem_of_getElem? (i := 675) (by decide +kernel)))
  obtain ⟨dC, dI, hKc⟩ : ∃ (dC : Nat → ClassId) (dI : Nat → Nat → Nat), ∀ (k : Nat) (q : vw_C), vwCl[k]? = some q → u_Kn s q.1 q.2.1 q.2.2 (dC k) (dI k) := by
    refine ⟨fun k => match k with
      | 0 => c0
      | 1 => c1
      | 2 => c2
      | 3 => c3
      | 4 => c4
      | 5 => c5
      | 6 => c6
      | 7 => c7
      | _ => c8, fun k => match k with
      | 0 => iS0
      | 1 => iS1
      | 2 => iS2
      | 3 => iS3
      | 4 => iS4
      | 5 => iS5
      | 6 => iS6
      | 7 => iS7
      | _ => iS8, ?_⟩
    intro k q hq
    match k, hq with
    | 0, hq => cases hq; exact hKn0
    | 1, hq => cases hq; exact hKn1
    | 2, hq => cases hq; exact hKn2
    | 3, hq => cases hq; exact hKn3
    | 4, hq => cases hq; exact hKn4
    | 5, hq => cases hq; exact hKn5
    | 6, hq => cases hq; exact hKn6
    | 7, hq => cases hq; exact hKn7
    | 8, hq => cases hq; exact hKn8
    | k + 9, hq => simp [vwCl] at hq
  obtain ⟨cI, kI, compI, a1, a2, a3⟩ := Cond.arrayClass_spec (type := .int) (hst _ (List.mem_of_getElem? (i := 68) (by decide +kernel)))
  obtain ⟨compS, cS, kS, b1, b2, b3, b4, b5⟩ := Cond.arrayOver_spec (n := RX4) (hst _ (List.mem_of_getElem? (i := 292) (by decide +kernel)))
  obtain ⟨compC, cC, kC, d1, d2, d3, d4, d5⟩ := Cond.arrayOver_spec (n := RX0) (hst _ (List.mem_of_getElem? (i := 141) (by decide +kernel)))
  obtain ⟨t1, hT1, hZ1⟩ := st_1 hgv hst
  obtain ⟨t2, hT2, hZ2⟩ := st_2 hgv hst
  obtain ⟨t3, hT3, hZ3⟩ := st_3 hgv hst
  obtain ⟨t4, hT4, hZ4⟩ := st_4 hgv hst
  obtain ⟨t5, hT5, hZ5⟩ := st_5 hgv hst
  obtain ⟨N, r, Y, hrun⟩ := hp L xs hL
  obtain ⟨g, hg⟩ : ∃ g : hf_G, g = (s.heap.size, (fun k => match k with
    | 0 => b
    | 1 => t1
    | 2 => t2
    | 3 => t3
    | 4 => t4
    | _ => t5), (dC, dI), (fun k => match k with
    | 0 => cI
    | 1 => cS
    | _ => cC)) := ⟨_, rfl⟩
  have hKS : hf_KS g s := by
    subst hg
    refine ⟨⟨hKc, fun k q hk => ?_⟩, fun c h1 h5 => ?_, fun c h1 h5 => ?_, ?_, ?_, ?_, ?_⟩
    · match k, hk with
      | 0, hk => cases hk; exact ⟨fun n z => ⟨fun k h => (by cases h), kI, a2, compI, a3⟩, a1⟩
      | 1, hk => cases hk; exact ⟨fun n z => ⟨fun k h => (by cases h), kS, b3, compS, b4⟩, kS, compS, b3, b4, b1, b5⟩
      | 2, hk => cases hk; exact ⟨fun n z => ⟨fun k h => (by cases h), kC, d3, compC, d4⟩, kC, compC, d3, d4, d1, d5⟩
      | k + 3, hk => simp at hk
    · match c, h1, h5 with
      | 1, _, _ => exact hT1
      | 2, _, _ => exact hT2
      | 3, _, _ => exact hT3
      | 4, _, _ => exact hT4
      | 5, _, _ => exact hT5
      | c + 6, _, h5 => omega
    · match c, h1, h5 with
      | 1, _, _ => exact hZ1
      | 2, _, _ => exact hZ2
      | 3, _, _ => exact hZ3
      | 4, _, _ => exact hZ4
      | 5, _, _ => exact hZ5
      | c + 6, _, h5 => omega
    · intro q hq
      unfold hf_nwF at hq
      simp only [List.mem_cons, List.not_mem_nil, or_false] at hq
      rcases hq with rfl | rfl | rfl | rfl | rfl
      · exact va_Nw.of rfl (hst _ (List.mem_of_getElem? (i := 448) (by decide +kernel)))
      · exact va_Nw.of rfl (hst _ (List.mem_of_getElem? (i := 450) (by decide +kernel)))
      · exact va_Nw.of rfl (hst _ (List.mem_of_getElem? (i := 481) (by decide +kernel)))
      · exact va_Nw.of rfl (hst _ (List.mem_of_getElem? (i := 494) (by decide +kernel)))
      · exact va_Nw.of rfl (hst _ (List.mem_of_getElem? (i := 516) (by decide +kernel)))
    · intro q hq
      unfold hf_nwM at hq
      simp only [List.mem_cons, List.not_mem_nil, or_false] at hq
      rcases hq with rfl | rfl | rfl | rfl | rfl | rfl
      · exact va_Nw.of rfl (hst _ (List.mem_of_getElem? (i := 24) (by decide +kernel)))
      · exact va_Nw.of rfl (hst _ (List.mem_of_getElem? (i := 71) (by decide +kernel)))
      · exact va_Nw.of rfl (hst _ (List.mem_of_getElem? (i := 88) (by decide +kernel)))
      · exact va_Nw.of rfl (hst _ (List.mem_of_getElem? (i := 105) (by decide +kernel)))
      · exact va_Nw.of rfl (hst _ (List.mem_of_getElem? (i := 173) (by decide +kernel)))
      · exact va_Nw.of rfl (hst _ (List.mem_of_getElem? (i := 543) (by decide +kernel)))
    · exact va_AO.of (hst _ (List.mem_of_getElem? (i := 292) (by decide +kernel)))
    · exact va_AO.of (hst _ (List.mem_of_getElem? (i := 141) (by decide +kernel)))
  have hb0 : g.2.1 0 = b := by subst hg; rfl
  have hsz : s.heap.size = g.1 + 0 := by subst hg; rfl
  have hl := hf_L.entry g [.ref 0] 4 (fun v hv => by simp at hv; subst hv; rfl) (by decide)
  have henc : ([Value.ref b] : List Value) = [.ref 0].map (hf_enc g) := by
    show [Value.ref b] = [Value.ref (hf_ad g 0)]
    unfold hf_ad
    rw [if_pos (by decide), hb0]
  have hfr : ∀ T, Stand p l e room_1 s m #[Value.ref b] below meth c T [] 0 0 → ∀ (m2 : MethodId) (args2 : Array Value) (below2 : List Frame), s.frames = .invoking m2 args2 :: below2 → args2 = #[.ref (g.2.1 0)] := by
    intro T X m2 args2 below2 h2
    have := X.frames.symm.trans h2
    injection this with h1 _
    injection h1 with _ h1
    rw [← h1, hb0]
  intro T hT X
  have key := sEL_law (g := g) (l := l) N L xs (Nat.lt_of_le_of_lt hL (by decide)) p e s m #[Value.ref b] below meth c ⟨hx, hb, hml, hown, htw, hr, hlocks, ⟨hKS, hsz⟩, by rw [hb0]; exact hX, by rw [hb0]; exact hbl, hfr T X⟩ s.heap [] _ _ [] (0, fun _ _ => false, fun _ _ => 0) r Y va_S.rf ⟨fun k q hk => by simp [hg_w] at hk, Nat.le_refl _, by decide⟩ hl hrun
  rw [← henc, List.map_nil, ← lg_entry_eq] at key
  exact key T hT X
