def hg_Pc (g : hf_G) (av : List Value) (Y : hg_M) : Array Value → State → Prop := va_Pc (av.map (hf_enc g)) (fun U => (va_P g.2.2.1 vwCl (hg_w g Y) U.heap ∧ Y.1 ≤ 215) ∧ hg_KS Y.1 g U)
def hg_Qc (g : hf_G) (r : Option Value) (Y' : hg_M) : Array Value → State → Outcome → State → Prop := fun _ st o t => o = .returned (r.map (hf_enc g)) ∧ (va_P g.2.2.1 vwCl (hg_w g Y') t.heap ∧ Y'.1 ≤ 215) ∧ va_F (hf_A g) st t
abbrev hg_F : Type := List Value → hg_M → hf_R hg_M
/-- mc: how many cells it makes, at the place n0 -/
def hg_Met (g : hf_G) (l : Launch) (y : MethodName) (cc : ByteArray) (maxL : Nat) (ret : Option FieldType) (fr lo mc ms : Nat) (f : hg_F) : Prop :=
  ∀ (av : List Value) (Y : hg_M) (r : Option Value) (Y' : hg_M), f av Y = some (r, Y') → Met l y (.code y cc maxL ret :: wtb) { frames := fr, cells := mc, slots := ms, locals := lo } (hg_Pc g av Y) (hg_Qc g r Y') mc ms (hf_A g) ∧ Y'.1 = Y.1 + mc ∧ hg_sl Y'.1 = hg_sl Y.1 + ms
def hg_Qm (g : hf_G) (n0 mc ms : Nat) : hf_Q hg_M := fun below args s r Y' => MQ below (hg_Qc g r Y') args s mc ms (hf_A g)
/-- k gets the limit -/
def hg_fn (a n mc ms : Nat) (k : Nat → hf_K hg_M) : hg_F := fun av Y => if av.length = a ∧ av.all (fun v => v.category == 1) = true ∧ hg_sl (Y.1 + mc) = hg_sl Y.1 + ms ∧ Y.1 + mc ≤ 215 then match k (Y.1 + mc) (av ++ List.replicate (n - a) (.long 0)) [] Y with
  | some (r, Y') => if Y'.1 = Y.1 + mc then some (r, Y') else none
  | none => none
  else none
theorem hg_met {g : hf_G} {l : Launch} {y : MethodName} {cc : ByteArray} {maxL a fr lo mc ms : Nat} {ret : Option FieldType} {k : Nat → hf_K hg_M} {own : String} (hy : plainName y.cls = true) (hown : y.cls = own) (ha : a ≤ maxL) (hnm : y.name = "<init>" ∨ mc = 0) (hs : ∀ n0, hg_sl (n0 + mc) = hg_sl n0 + ms → n0 + mc ≤ 215 → hf_S (fun g s => hg_KS n0 g s ∧ (y.name = "<init>" → hg_ini s)) (hg_H g n0) (hg_c n0) (hg_Qm g n0 mc ms) g l { frames := fr, cells := mc, slots := ms, locals := lo } cc maxL own ret 0 (k (n0 + mc))) : hg_Met g l y cc maxL ret fr lo mc ms (hg_fn a maxL mc ms k) := by
  intro av Y r Y' hf
  unfold hg_fn at hf
  split at hf
  rotate_left
  · cases hf
  rename_i hav
  split at hf
  rotate_left
  · cases hf
  rename_i r1 Y1 hk
  split at hf
  rotate_left
  · cases hf
  rename_i hy1
  cases hf
  refine ⟨?_, hy1, by rw [hy1]; exact hav.2.2.1⟩
  subst hown
  refine Met.ofW (cc := cc) (maxL := maxL) (ret := ret) hy rfl ?_
  intro p e s m args below meth c s₁ B hml hv
  obtain ⟨rfl, ⟨hH, h215⟩, hK⟩ := hv
  have hts := atoms_spec (ws := .code y cc maxL ret :: wtb) B.pre
  have hcat : ∀ v ∈ av, v.category = 1 := fun v hv => by simpa using List.all_eq_true.mp hav.2.1 v hv
  have hl := hf_L.entry g av maxL hcat (by rw [hav.1]; exact ha)
  rw [lg_entry_eq]
  rw [hav.1] at hl
  have hini : y.name = "<init>" → hg_ini s := by
    intro hn m2 args2 below2 meth2 hfr2 hme2
    have e1 : m2 = m := by
      have := B.frames.symm.trans hfr2
      injection this with h1 _
      injection h1 with h1 _
      exact h1.symm
    subst e1
    have h3 := (name_of_methodNamed B.named hme2).1
    rw [h3, hn]
  have key := hs Y.1 hav.2.2.1 hav.2.2.2 p e s m _ below meth c ⟨B.exec, B.bytes, hml, findClass_of_methodNamed B.named, fun w hw => hts w (List.mem_cons_of_mem _ hw), B.returns, B.notSynchronized, hK, hini⟩ s.heap [] _ _ [] Y r Y' va_S.rf ⟨hH, Nat.le_refl _, h215⟩ hl hk
  have e0 : (hg_c Y.1 Y) = (0, 0) := by simp [hg_c]
  rw [e0] at key
  exact key
section HG2
variable {g : hf_G} {l : Launch} {R : Room} {cc : ByteArray} {nL : Nat} {own : String} {ret : Option FieldType} {pc q : Nat} {k : hf_K hg_M} {Qf : hf_Q hg_M} {n0 : Nat} {KS : hf_G → State → Prop}
theorem t_vret {mc ms : Nat} (hsl : hg_sl (n0 + mc) = hg_sl n0 + ms) (hd : decode cc pc = .ok (.return_, 1)) : hf_S KS (hg_H g n0) (hg_c n0) (hg_Qm g n0 mc ms) g l R cc nL own none pc (d_vret (n0 + mc)) := by
  intro p e s m args below meth c hC H locs pl ls st Y r Y' hS hH hL he
  unfold d_vret at he
  split at he
  · split at he
    rotate_left
    · cases he
    rename_i hy
    cases he
    refine hg_cnt (k := mc) (n := ms) (by simp only [hg_c]; omega) (by simp only [hg_c]; rw [hy]; omega) ?_
    exact W.vret hC.1 hC.2.1 hC.2.2.2.2.2.1 (fun t ht _ => ⟨rfl, ⟨by rw [ht]; exact hH.1, hH.2.2⟩, hS.F ht⟩) hS.2.2 hd (hlocks := hC.2.2.2.2.2.2.1)
  · cases he
theorem hg_blind (g : hf_G) (av : List Value) (Y : hg_M) : FrameBlind (hg_Pc g av Y) := by
  intro a U fr mk h
  obtain ⟨h1, h2, h3, h4⟩ := h
  exact ⟨h1, h2, hf_KS.same (s := U) (U := U.calling fr mk a) rfl rfl h3, h4⟩
def d_callS (a lim : Nat) (f : hg_F) (k : hf_K hg_M) : hf_K hg_M := fun pl st Y => match hf_pop a st with
  | some (as, rest) => if (rest.map fun v => v.category).sum ≤ 8 then match f as Y with
    | some (v, J) => if J.1 ≤ lim then k pl (v.toList ++ rest) J else none
    | none => none
    else none
  | _ => none
def d_callI (a lim : Nat) (f : hg_F) (k : hf_K hg_M) : hf_K hg_M := fun pl st Y => match hf_pop a st with
  | some (as, .ref cv :: rest) => if (rest.map fun v => v.category).sum ≤ 8 then match f (.ref cv :: as) Y with
    | some (v, J) => if J.1 ≤ lim then k pl (v.toList ++ rest) J else none
    | none => none
    else none
  | _ => none

theorem hg_after {p : Program} {e : Env} {s : State} {m : MethodId} {args : Array Value} {below : List Frame} {meth : Method} {c : Code} {H : Heap} {locs : List Loc} {cells slots mc ms : Nat} {Q : State → Prop} {ls : Array Slot} {st0 rest : List Value} {r : Option Value} {J : hg_M} {a : Array Value} (hr : va_Run p l e R s m args below meth c H locs cells slots mc ms (F0 m pc ls st0) rest (hg_Qc g r J a) (hf_A g)) (hS : va_S (hf_A g) s.heap H locs)
    (kk : ∀ (H1 : Heap) (locs1 : List Loc), va_P g.2.2.1 vwCl (hg_w g J) H1 ∧ J.1 ≤ 215 → va_S (hf_A g) s.heap H1 locs1 → W p l e R s m args below meth c H1 locs1 (cells + mc) (slots + ms) Q (F0 m (pc + 3) ls ((r.map (hf_enc g)).toList ++ rest))) : W p l e R s m args below meth c H locs cells slots Q (F0 m pc ls st0) := by
  intro T hT X
  obtain ⟨v, st₀, t, T', L, h0, X', hL, e1, e2, ⟨hv, hJ, hz, hk⟩, st⟩ := hr T hT X
  cases hv
  rw [h0] at hz hk
  obtain ⟨t2, a1, b1⟩ := kk T'.heap (locs ++ L) (by rw [e1]; exact hJ) ⟨Nat.le_trans hS.1 (by rw [e1]; exact hz), fun q h1 h2 => by rw [e1, hk q (Nat.lt_of_lt_of_le h1 hS.1) h2]; exact hS.2.1 q h1 h2, fun q hq => by
      rcases List.mem_append.mp hq with h | h
      · exact hS.2.2 q h
      · exact hL q h⟩ T' rfl X'
  exact ⟨t2, st t2 a1, b1⟩
/-- where the heap ends -/
theorem hg_end {s : State} {H : Heap} {locs : List Loc} {Y : hg_M} (hK : hg_KS n0 g s) (hS : va_S (hf_A g) s.heap H locs) (hH : hg_H g n0 Y H) (hsz : H.size ≤ s.heap.size + (Y.1 - n0)) : H.size = g.1 + Y.1 := by
  have h2 := hK.2
  have h3 := hH.2.1
  have h4 := hS.1
  rcases Nat.lt_or_ge n0 Y.1 with h | h
  · have hl := (hH.1 (Y.1 - 1) _ (hg_w_at g Y (by omega))).lt
    simp only at hl
    omega
  · omega

theorem t_callI (hKS : ∀ s, KS g s → hg_KS n0 g s) {y : MethodName} {a index maxL fr lo mc ms lim : Nat} {bytes : ByteArray} {rt : Option FieldType} {f : hg_F} (hM : hg_Met g l y bytes maxL rt fr lo mc ms f) (hrt : rt = none) (hyn : y.name = "<init>") (hl : Cond.methodLink own index y ∈ wtb) (hin : Cond.instanceMethod y ∈ wtb) (hini : Cond.initialized y.cls ∈ wtb) (hco : Cond.code y bytes maxL rt ∈ wtb) (hdy : y.cls ≠ "java/lang/invoke/MethodHandle" ∧ y.cls ≠ "java/lang/invoke/VarHandle" ∧ (parseMethodDescriptor y.desc).map (fun d => d.parameters.length) = some a) (hR : fr + 1 ≤ R.frames ∧ 8 + (maxL + 11) + lo ≤ R.locals) (hRc : lim - n0 ≤ R.cells) (hRs : hg_sl lim - hg_sl n0 ≤ R.slots) (hd : decode cc pc = .ok (.invokespecial index, 3)) (hk : hf_S KS (hg_H g n0) (hg_c n0) Qf g l R cc nL own ret q k) (hq : pc + 3 = q) : hf_S KS (hg_H g n0) (hg_c n0) Qf g l R cc nL own ret pc (d_callI a lim f k) := by
  intro p e s m args below meth c hC H locs pl ls st Y r Y' hS hH hL he
  have hKs := hKS s hC.2.2.2.2.2.2.2
  subst hq
  subst hrt
  unfold d_callI at he
  split at he
  rotate_left
  · cases he
  rename_i as cv rest hpop
  obtain ⟨hst, hal⟩ := hf_pop_spec hpop
  split at he
  rotate_left
  · cases he
  rename_i hkd
  split at he
  rotate_left
  · cases he
  rename_i v J hfe
  split at he
  rotate_left
  · cases he
  rename_i hlim
  have W5 := hC.2.2.2.2.1
  obtain ⟨hMet, hJ1, hJ2⟩ := hM _ Y v J hfe
  have hn0 := hH.2.1
  have hs2 : hg_sl J.1 ≤ hg_sl lim := hg_sl_le hlim
  have hs3 : hg_sl n0 ≤ hg_sl Y.1 := hg_sl_le hn0
  refine hg_size fun hsz => ?_
  have hend := hg_end hKs hS hH hsz
  have hrun := va_runI (e := e) (below := below) (meth := meth) (locs := locs) (cells := (hg_c n0 Y).1) (slots := (hg_c n0 Y).2) (g := F0 m pc ls (st.map (hf_enc g))) (rest := rest.map (hf_enc g)) (b := hf_ad g cv) (As := as.map (hf_enc g)) ⟨hC.1, hC.2.1, hC.2.2.1, hC.2.2.2.1, W5⟩ hMet ⟨callB_of a W5 (wtb_good hco) rfl rfl rfl (W5 _ hini) (W5 _ hl) hdy ⟨hR.1, hR.2⟩, hyn, W5 _ hin⟩ ⟨hg_blind g _ Y, fun U hU hW => ⟨by simp [hf_enc], ⟨by rw [hU]; exact hH.1, hH.2.2⟩, hf_KS.step hW (by rw [hU]; exact hS) hKs.1, by rw [hU]; exact hend⟩⟩ rfl (by simpa using hal) hL.1 (by rw [hst]; simp [hf_enc]) (by have h8 := hkd; rw [← hf_enc_cats g rest] at h8; exact (lv_room h8)) hd ⟨by simp only [hg_c]; omega, by simp only [hg_c]; omega⟩
  refine hg_after hrun hS (fun H1 locs1 hH1 hS1 => ?_)
  have kk := hk p e s m args below meth c hC H1 locs1 pl ls (v.toList ++ rest) J r Y' hS1 ⟨hH1.1, by omega, hH1.2⟩ hL he
  refine hg_cnt (k := (hg_c n0 J).1) (n := (hg_c n0 J).2) (by simp only [hg_c]; omega) (by simp only [hg_c]; omega) ?_
  cases v <;> exact kk
theorem t_callIN (hKS : ∀ s, KS g s → hg_KS n0 g s) {y : MethodName} {a index maxL fr lo mc ms lim : Nat} {bytes : ByteArray} {rt : Option FieldType} {f : hg_F} (hM : hg_Met g l y bytes maxL rt fr lo mc ms f) (hrt : rt = none) (hyn : y.name = "<init>") (hl : (own, index, y) ∈ hf_nwM) (hin : Cond.instanceMethod y ∈ wtb) (hini : Cond.initialized y.cls ∈ wtb) (hco : Cond.code y bytes maxL rt ∈ wtb) (hdy : y.cls ≠ "java/lang/invoke/MethodHandle" ∧ y.cls ≠ "java/lang/invoke/VarHandle" ∧ (parseMethodDescriptor y.desc).map (fun d => d.parameters.length) = some a) (hR : fr + 1 ≤ R.frames ∧ 8 + (maxL + 11) + lo ≤ R.locals) (hRc : lim - n0 ≤ R.cells) (hRs : hg_sl lim - hg_sl n0 ≤ R.slots) (hd : decode cc pc = .ok (.invokespecial index, 3)) (hk : hf_S KS (hg_H g n0) (hg_c n0) Qf g l R cc nL own ret q k) (hq : pc + 3 = q) : hf_S KS (hg_H g n0) (hg_c n0) Qf g l R cc nL own ret pc (d_callI a lim f k) := by
  intro p e s m args below meth c hC H locs pl ls st Y r Y' hS hH hL he
  have hKs := hKS s hC.2.2.2.2.2.2.2
  subst hq
  subst hrt
  unfold d_callI at he
  split at he
  rotate_left
  · cases he
  rename_i as cv rest hpop
  obtain ⟨hst, hal⟩ := hf_pop_spec hpop
  split at he
  rotate_left
  · cases he
  rename_i hkd
  split at he
  rotate_left
  · cases he
  rename_i v J hfe
  split at he
  rotate_left
  · cases he
  rename_i hlim
  have W5 := hC.2.2.2.2.1
  obtain ⟨hMet, hJ1, hJ2⟩ := hM _ Y v J hfe
  have hn0 := hH.2.1
  have hs2 : hg_sl J.1 ≤ hg_sl lim := hg_sl_le hlim
  have hs3 : hg_sl n0 ≤ hg_sl Y.1 := hg_sl_le hn0
  refine hg_size fun hsz => ?_
  have hend := hg_end hKs hS hH hsz
  have hrun := va_runIN (host := "HeathFire") (e := e) (below := below) (meth := meth) (locs := locs) (cells := (hg_c n0 Y).1) (slots := (hg_c n0 Y).2) (g := F0 m pc ls (st.map (hf_enc g))) (rest := rest.map (hf_enc g)) (b := hf_ad g cv) (As := as.map (hf_enc g)) ⟨hC.1, hC.2.1, hC.2.2.1, hC.2.2.2.1, W5⟩ hMet ⟨va_cnB a W5 (wtb_good hco) rfl rfl rfl (hKs.1.2.2.2.2.1 _ hl) (W5 _ hini) hdy ⟨hR.1, hR.2⟩, hyn, W5 _ hin⟩ ⟨hg_blind g _ Y, fun U hU hW => ⟨by simp [hf_enc], ⟨by rw [hU]; exact hH.1, hH.2.2⟩, hf_KS.step hW (by rw [hU]; exact hS) hKs.1, by rw [hU]; exact hend⟩⟩ rfl (by simpa using hal) hL.1 (by rw [hst]; simp [hf_enc]) (by have h8 := hkd; rw [← hf_enc_cats g rest] at h8; exact (lv_room h8)) hd ⟨by simp only [hg_c]; omega, by simp only [hg_c]; omega⟩
  refine hg_after hrun hS (fun H1 locs1 hH1 hS1 => ?_)
  have kk := hk p e s m args below meth c hC H1 locs1 pl ls (v.toList ++ rest) J r Y' hS1 ⟨hH1.1, by omega, hH1.2⟩ hL he
  refine hg_cnt (k := (hg_c n0 J).1) (n := (hg_c n0 J).2) (by simp only [hg_c]; omega) (by simp only [hg_c]; omega) ?_
  cases v <;> exact kk
theorem t_callS (hKS : ∀ s, KS g s → hg_KS n0 g s) {y : MethodName} {a index maxL fr lo mc ms lim : Nat} {bytes : ByteArray} {rt : Option FieldType} {f : hg_F} (hM : hg_Met g l y bytes maxL rt fr lo mc ms f) (hl : Cond.methodLink own index y ∈ wtb) (hin : Cond.static y ∈ wtb) (hini : Cond.initialized y.cls ∈ wtb) (hco : Cond.code y bytes maxL rt ∈ wtb) (hdy : y.cls ≠ "java/lang/invoke/MethodHandle" ∧ y.cls ≠ "java/lang/invoke/VarHandle" ∧ (parseMethodDescriptor y.desc).map (fun d => d.parameters.length) = some a) (hR : fr + 1 ≤ R.frames ∧ 8 + (maxL + 11) + lo ≤ R.locals) (hRc : lim - n0 ≤ R.cells) (hRs : hg_sl lim - hg_sl n0 ≤ R.slots) (hd : decode cc pc = .ok (.invokestatic index, 3)) (hk : hf_S KS (hg_H g n0) (hg_c n0) Qf g l R cc nL own ret q k) (hq : pc + 3 = q) : hf_S KS (hg_H g n0) (hg_c n0) Qf g l R cc nL own ret pc (d_callS a lim f k) := by
  intro p e s m args below meth c hC H locs pl ls st Y r Y' hS hH hL he
  have hKs := hKS s hC.2.2.2.2.2.2.2
  subst hq
  unfold d_callS at he
  split at he
  rotate_left
  · cases he
  rename_i as rest hpop
  obtain ⟨hst, hal⟩ := hf_pop_spec hpop
  split at he
  rotate_left
  · cases he
  rename_i hkd
  split at he
  rotate_left
  · cases he
  rename_i v J hfe
  split at he
  rotate_left
  · cases he
  rename_i hlim
  have W5 := hC.2.2.2.2.1
  obtain ⟨hMet, hJ1, hJ2⟩ := hM _ Y v J hfe
  have hn0 := hH.2.1
  have hs2 : hg_sl J.1 ≤ hg_sl lim := hg_sl_le hlim
  have hs3 : hg_sl n0 ≤ hg_sl Y.1 := hg_sl_le hn0
  refine hg_size fun hsz => ?_
  have hend := hg_end hKs hS hH hsz
  have hrun := va_runS (e := e) (below := below) (meth := meth) (locs := locs) (cells := (hg_c n0 Y).1) (slots := (hg_c n0 Y).2) (g := F0 m pc ls (st.map (hf_enc g))) (rest := rest.map (hf_enc g)) (As := as.map (hf_enc g)) ⟨hC.1, hC.2.1, hC.2.2.1, hC.2.2.2.1, W5⟩ hMet ⟨callB_of a W5 (wtb_good hco) rfl rfl rfl (W5 _ hini) (W5 _ hl) hdy ⟨hR.1, hR.2⟩, W5 _ hin⟩ ⟨hg_blind g _ Y, fun U hU hW => ⟨by simp [hf_enc], ⟨by rw [hU]; exact hH.1, hH.2.2⟩, hf_KS.step hW (by rw [hU]; exact hS) hKs.1, by rw [hU]; exact hend⟩⟩ rfl (by simpa using hal) hL.1 (by rw [hst]; simp [hf_enc]) (by have h8 := hkd; rw [← hf_enc_cats g rest] at h8; exact (lv_room h8)) hd ⟨by simp only [hg_c]; omega, by simp only [hg_c]; omega⟩
  refine hg_after hrun hS (fun H1 locs1 hH1 hS1 => ?_)
  have kk := hk p e s m args below meth c hC H1 locs1 pl ls (v.toList ++ rest) J r Y' hS1 ⟨hH1.1, by omega, hH1.2⟩ hL he
  refine hg_cnt (k := (hg_c n0 J).1) (n := (hg_c n0 J).2) (by simp only [hg_c]; omega) (by simp only [hg_c]; omega) ?_
  cases v <;> exact kk
end HG2
/-- all cells are made, all references set -/
def hg_full (U : Nat → Nat → Bool) : Bool := (List.range 221).all fun c => (List.range (hf_rs c).length).all fun j => !((hf_rs c).getD j none).isSome || U c j
theorem hg_full_at {U : Nat → Nat → Bool} (h : hg_full U = true) {c j x : Nat} (hc : c < 221) (hj : (hf_rs c)[j]? = some (some x)) : U c j = true := by
  have h1 := List.all_eq_true.mp h c (List.mem_range.mpr hc)
  have hl : j < (hf_rs c).length := (List.getElem?_eq_some_iff.mp hj).1
  have h2 := List.all_eq_true.mp h1 j (List.mem_range.mpr hl)
  rw [List.getD_eq_getElem?_getD, hj] at h2
  simpa using h2
theorem hg_cell_full {g : hf_G} {U : Nat → Nat → Bool} {I : hf_M} (h : hg_full U = true) {c : Nat} (hc : c < 221) : hg_cell g U I c = hf_cell g I c := by
  have h1 : hg_fl g U I c = hf_fl g I c := by
    unfold hg_fl hf_fl
    apply List.ext_getElem?
    intro j
    rw [List.getElem?_mapIdx, List.getElem?_mapIdx]
    cases hj : (hf_rs c)[j]? with
    | none => rfl
    | some r =>
      cases r with
      | none => rfl
      | some x => simp [hg_full_at h hc hj]
  have h2 : hg_rr g U c = hf_rr g c := by
    unfold hg_rr hf_rr
    funext j
    cases hj : hf_rf c j with
    | none => simp
    | some x => simp [hg_full_at h hc (hf_rf_some hj)]
  unfold hg_cell hf_cell
  rw [h1, h2]
/-- begin() at the end of the reference's constructor, over the whole picture -/
def d_beg (lim : Nat) (f : hf_F) (k : hf_K hg_M) : hf_K hg_M := fun pl st Y => match st with
  | [.ref c] => if c = 204 ∧ Y.1 = 215 ∧ hg_full Y.2.1 = true ∧ 215 ≤ lim then match f [.ref 204] Y.2.2 with
    | some (none, J) => k pl [] (215, Y.2.1, J)
    | _ => none
    else none
  | _ => none
theorem hg_w_full {g : hf_G} {U : Nat → Nat → Bool} {I : hf_M} (h : hg_full U = true) : hg_w g (215, U, I) = hf_pic g I := by
  unfold hg_w hf_pic
  apply List.map_congr_left
  intro k hk
  have hk2 : k < 215 := List.mem_range.mp hk
  show (g.1 + k, hg_cell g U I (k + 6)) = _
  rw [hg_cell_full h (by omega), hf_ad6]
section HG3
variable {g : hf_G} {l : Launch} {R : Room} {cc : ByteArray} {nL : Nat} {own : String} {ret : Option FieldType} {pc q : Nat} {k : hf_K hg_M} {Qf : hf_Q hg_M} {n0 : Nat} {KS : hf_G → State → Prop}
theorem t_beg (hKS : ∀ s, KS g s → hg_KS n0 g s) {y : MethodName} {C : String} {T : u_T} {N index maxL : Nat} {bytes : ByteArray} {rm : Room} {f : hf_F} (hM : hf_Met g l y bytes maxL none rm f) (hc : vwCl[8]? = some (C, T, N)) (hl : Cond.methodLink own index y ∈ wtb) (hin : Cond.instanceMethod y ∈ wtb) (hse : Cond.selects C y y ∈ wtb) (hini : Cond.initialized y.cls ∈ wtb) (hco : Cond.code y bytes maxL none ∈ wtb) (hdy : y.cls ≠ "java/lang/invoke/MethodHandle" ∧ y.cls ≠ "java/lang/invoke/VarHandle" ∧ (parseMethodDescriptor y.desc).map (fun d => d.parameters.length) = some 0) (hrc : rm.cells = 0) (hrs : rm.slots = 0) (hR : rm.frames + 1 ≤ R.frames ∧ 8 + (maxL + 11) + rm.locals ≤ R.locals) {lim : Nat} (hRc : lim - n0 ≤ R.cells) (hRs : hg_sl lim - hg_sl n0 ≤ R.slots) (hd : decode cc pc = .ok (.invokevirtual index, 3)) (hk : hf_S KS (hg_H g n0) (hg_c n0) Qf g l R cc nL own ret q k) (hq : pc + 3 = q) : hf_S KS (hg_H g n0) (hg_c n0) Qf g l R cc nL own ret pc (d_beg lim f k) := by
  intro p e s m args below meth c hC H locs pl ls st Y r Y' hS hH hL he
  have hKs := hKS s hC.2.2.2.2.2.2.2
  subst hq
  obtain ⟨n, U, I⟩ := Y
  unfold d_beg at he
  split at he
  rotate_left
  · cases he
  rename_i cv
  split at he
  rotate_left
  · cases he
  rename_i hg
  obtain ⟨rfl, hn, hfu, hli⟩ := hg
  have hli2 := hg_sl_le hli
  dsimp only at hn hfu he
  subst hn
  split at he
  rotate_left
  · cases he
  rename_i J hfe
  have W5 := hC.2.2.2.2.1
  have hP : hf_H g I H := by
    have h0 := hH.1
    rw [hg_w_full hfu] at h0
    exact h0
  have hcw : CallW R s args own C index y bytes maxL none (.code y bytes maxL none :: wtb) rm 0 0 0 := ⟨callB_of 0 W5 (wtb_good hco) rfl hrc hrs (W5 _ hini) (W5 _ hl) hdy hR, W5 _ hin, W5 _ hse⟩
  have hrun := va_runV (e := e) (below := below) (meth := meth) (locs := locs) (cells := (hg_c n0 (215, U, I)).1) (slots := (hg_c n0 (215, U, I)).2) (g := F0 m pc ls ([Value.ref 204].map (hf_enc g))) (rest := []) (b := hf_ad g 204) (As := []) ⟨hC.1, hC.2.1, hC.2.2.1, hC.2.2.2.1, W5⟩ (hM _ I none J hfe) hcw ⟨hf_blind g _ I, va_recv hKs.1.1 hP (ci := 8) (q0 := 204 - 6) hc (by rw [hf_pic_at g I ⟨by decide, by decide⟩, hf_cell_o (ci := 8) (by decide +kernel)]), fun U hU hW => ⟨by simp [hf_enc], by rw [hU]; exact hP, hf_KS.step hW (by rw [hU]; exact hS) hKs.1⟩⟩ rfl rfl hL.1 rfl (lv_room (by simp)) hd ⟨by simp only [hg_c]; omega, by simp only [hg_c]; omega⟩
  refine hf_after hrun hS (fun H1 locs1 hH1 hS1 => ?_)
  exact hk p e s m args below meth c hC H1 locs1 pl ls [] (215, U, J) r Y' hS1 ⟨by rw [hg_w_full hfu]; exact hH1, hH.2.1, Nat.le_refl _⟩ hL he
end HG3

