
/-! THE CLAIM OUT OF ONE WALK OF THE LAW'S BODY. Your part is whole_start (and what it stands on); all else here is the same for every law, but numbers. -/
def R_law : String := "HeathFireLaw"
def lw_P (b : Addr) (xs : List Int32) (args : Array Value) (s : State) : Prop := args = #[.ref b] ∧ s.IntsAt b xs ∧ xs.length ≤ 3072 ∧ (Jvm.Cond.and given_1 narrow_1).before args s = true
def lw_Q (_ : Array Value) (s : State) (o : Outcome) (t : State) : Prop := o = .returned (some (.int 1)) ∧ Framed s o t [] 600000 7302249
def lw_Z (below : List Frame) (a : Array Value) (s : State) : State → Prop := fun t => ∃ o, t.status = .running ∧ Ended t below o ∧ lw_Q a s o t
/-- the law's own end, with 1 on the stack, nothing written that was there before, its room as the claim has it -/
theorem lw_ret {p : Program} {l : Launch} {e : Env} {s : State} {m : MethodId} {below : List Frame} {meth : Method} {c : Code} {b : Nat} (hx : p.tables.exec = Jvm.exec) (hb : c.code = code) (hr : meth.sig.returnType = ret) (hlocks : meth.locks = false) {pc : Nat} {H : Heap} {ls : Array Slot} (hdg : decode code pc = .ok (.ireturn, 1)) : W p l e room_1 s m #[Value.ref b] below meth c H [] 600000 7302249 (lw_Z below #[Value.ref b] s) (F0 m pc ls [.int 1]) := by
  intro T hT X
  obtain ⟨fs, hret, hrun, hended, hW, hframe⟩ := X.leave (v := some (.int 1)) (hlocks := hlocks) (fun h => by rw [hr] at h; cases h)
  have hmeth' : T.vm.method? m = some meth := X.method'
  refine ⟨T.setFrames fs, ?_, .returned (some (.int 1)), hrun, hended, rfl, ⟨_, rfl⟩, hW, hframe⟩
  jvm_step X.here [X.here.top, hx, hb, hdg, hmeth', hr, ret, narrow_b1]
  (try refine ⟨rfl, ?_⟩); (try refine ⟨rfl, ?_⟩)
  first | (intro acts; rw [hret _ acts rfl rfl rfl]) | rw [hret _ _ rfl rfl rfl]
  exact Steps.refl _
/-- what holds at the law's entry: the machine, the code, the tables' words (any of lw_tbl by 'hts w (by decide +kernel)'), the script of L ints xs at the cell b, what the Statement gives of the start (any of its parts by flat_of_before) -/
def lw_At (p : Program) (s : State) (m : MethodId) (meth : Method) (c : Code) (b L : Nat) (xs : Nat → Int32) : Prop :=
  p.tables.exec = Jvm.exec ∧ c.code = code ∧ meth.sig.returnType = ret ∧ c.maxLocals = 4 ∧ s.vm.findClass R_law = some m.cls ∧ (∀ w ∈ lw_tbl, w.before #[Value.ref b] s = true) ∧ va_X b L xs s s.heap ∧ b < s.heap.size ∧ meth.locks = false ∧ (Jvm.Cond.and given_1 narrow_1).before #[Value.ref b] s = true

/-- the law's own knowledge: script of L ints xs; nothing made yet -/
def hl_KS (L : Nat) (xs : Nat → Int32) (g : hf_G) (s : State) : Prop := hg_KS 0 g s ∧ va_X (g.2.1 0) L xs s s.heap ∧ g.2.1 0 < s.heap.size ∧ ∀ (m : MethodId) (args : Array Value) (below : List Frame), s.frames = .invoking m args :: below → args = #[.ref (g.2.1 0)]
def hl_Q (M : Type) : hf_Q M := fun below args s _ _ => lw_Z below args s
abbrev hl_z : Nat × Nat := (600000, 7302249)
section HL
variable {g : hf_G} {l : Launch} {pc q L : Nat} {xs : Nat → Int32} {k : hf_K hf_M}
abbrev hl_S (g : hf_G) (l : Launch) (L : Nat) (xs : Nat → Int32) (pc : Nat) (k : hf_K hf_M) : Prop := hf_S (hl_KS L xs) (hf_H g) (fun _ => hl_z) (hl_Q hf_M) g l room_1 code 4 RL ret pc k
abbrev hl_S1 (g : hf_G) (l : Launch) (L : Nat) (xs : Nat → Int32) (pc : Nat) (k : hf_K hg_M) : Prop := hf_S (hl_KS L xs) (hg_H g 0) (hg_c 0) (hl_Q hg_M) g l room_1 code 4 RL ret pc k
def c_sld (L : Nat) (xs : Nat → Int32) (k : hf_K hf_M) : hf_K hf_M := fun pl st I => match st with
  | .int i :: .ref c :: st => if c = 0 ∧ hf_in i L then k pl (.int (xs i.toNatClampNeg) :: st) I else none
  | _ => none
def c_slen (L : Nat) (k : hf_K hf_M) : hf_K hf_M := fun pl st I => match st with
  | .ref c :: st => if c = 0 then k pl (.int (Int32.ofNat L) :: st) I else none
  | _ => none
def c_lret : hf_K hf_M := fun _ st I => match st with
  | [.int v] => if v = 1 then some (some (.int 1), I) else none
  | _ => none
def d_sw (k : hf_K hf_M) : hf_K hg_M := fun pl st Y => if Y.1 = 215 ∧ hg_full Y.2.1 = true then match k pl st Y.2.2 with
  | some (r, J) => some (r, (215, Y.2.1, J))
  | none => none
  else none
theorem hl_nA {s : State} (h : hl_KS L xs g s) : ¬ hf_A g (g.2.1 0) := by
  have h1 := h.1.2
  have h2 := h.2.2.1
  show ¬ g.1 ≤ _
  omega
theorem s_sld (hd : decode code pc = .ok (.iaload, 1)) (hk : hl_S g l L xs q k) (hq : pc + 1 = q) : hl_S g l L xs pc (c_sld L xs k) := by
  intro p e s m args below meth c hC H locs pl ls st I r I' hS hH hL he
  subst hq
  have hK := hC.2.2.2.2.2.2.2
  unfold c_sld at he
  split at he
  · split at he
    rotate_left
    · cases he
    rename_i i c' st hg
    obtain ⟨rfl, hi⟩ := hg
    exact va_sld (A := hf_A g) hC.1 hC.2.1 hK.2.1 hK.2.2.1 (hl_nA hK) hS (hf_in_vp hi) hd (hk p e s m args below meth c hC H locs pl ls _ I r I' hS hH hL he)
  · cases he
theorem s_slen (hL31 : L < 2 ^ 31) (hd : decode code pc = .ok (.arraylength, 1)) (hk : hl_S g l L xs q k) (hq : pc + 1 = q) : hl_S g l L xs pc (c_slen L k) := by
  intro p e s m args below meth c hC H locs pl ls st I r I' hS hH hL he
  subst hq
  have hK := hC.2.2.2.2.2.2.2
  unfold c_slen at he
  split at he
  · split at he
    rotate_left
    · cases he
    rename_i c' st hg
    subst hg
    obtain ⟨scr, q1, q2, q3, q4, q5⟩ := hK.2.1
    refine W.alen hC.1 hC.2.1 (a := g.2.1 0) (cell := scr) (n := Int32.ofNat L) ?_ q2 (by rw [q4]) rfl rfl hd (hk p e s m args below meth c hC H locs pl ls _ I r I' hS hH hL he)
    rw [hS.2.1 _ hK.2.2.1 (hl_nA hK)]; exact q1
  · cases he
theorem s_lret (hd : decode code pc = .ok (.ireturn, 1)) : hl_S g l L xs pc c_lret := by
  intro p e s m args below meth c hC H locs pl ls st I r I' hS hH hL he
  have hK := hC.2.2.2.2.2.2.2
  unfold c_lret at he
  split at he
  · split at he
    rotate_left
    · cases he
    rename_i v hv
    subst hv
    intro T hT X
    have ha := hK.2.2.2 m args below X.frames
    subst ha
    refine va_forget (fun q hq => ?_) (lw_ret hC.1 hC.2.1 hC.2.2.2.2.2.1 hC.2.2.2.2.2.2.1 hd) T hT X
    have h1 : g.1 ≤ q.base := hS.2.2 q hq
    have h2 := hK.1.2
    omega
  · cases he
theorem t_sw (hk : hl_S g l L xs pc k) : hl_S1 g l L xs pc (d_sw k) := by
  intro p e s m args below meth c hC H locs pl ls st Y r Y' hS hH hL he
  obtain ⟨n, U, I⟩ := Y
  unfold d_sw at he
  dsimp only at he
  split at he
  rotate_left
  · cases he
  rename_i hg
  obtain ⟨rfl, hfu⟩ := hg
  split at he
  rotate_left
  · cases he
  rename_i r1 J hke
  cases he
  have hP : hf_H g I H := by
    have h0 := hH.1
    rw [hg_w_full hfu] at h0
    exact h0
  refine W.widen (k := 600000) (n := 7302249) (by show 215 - 0 ≤ 600000; decide) (by show hg_sl 215 - hg_sl 0 ≤ 7302249; decide +kernel) ?_
  exact hk p e s m args below meth c hC H locs pl ls st I r J hS hP hL hke
theorem s_callL {y : MethodName} {C : String} {T : u_T} {N ci a index maxL : Nat} {bytes : ByteArray} {rt : Option FieldType} {rm : Room} {f : hf_F} (hM : hf_Met g l y bytes maxL rt rm f) (hc : vwCl[ci]? = some (C, T, N)) (hl : Cond.methodLink RL index y ∈ wtb) (hin : Cond.instanceMethod y ∈ wtb) (hse : Cond.selects C y y ∈ wtb) (hini : Cond.initialized y.cls ∈ wtb) (hco : Cond.code y bytes maxL rt ∈ wtb) (hdy : y.cls ≠ "java/lang/invoke/MethodHandle" ∧ y.cls ≠ "java/lang/invoke/VarHandle" ∧ (parseMethodDescriptor y.desc).map (fun d => d.parameters.length) = some a) (hrc : rm.cells = 0) (hrs : rm.slots = 0) (hR : rm.frames + 1 ≤ room_1.frames ∧ 8 + (maxL + 11) + rm.locals ≤ room_1.locals) (hd : decode code pc = .ok (.invokevirtual index, 3)) (hk : hl_S g l L xs q k) (hq : pc + 3 = q) : hl_S g l L xs pc (c_callV ci a f k) := by
  intro p e s m args below meth c hC H locs pl ls st I r I' hS hH hL he
  subst hq
  have hK := hC.2.2.2.2.2.2.2
  unfold c_callV at he
  split at he
  rotate_left
  · cases he
  rename_i as cv rest hpop
  obtain ⟨hst, hal⟩ := hf_pop_spec hpop
  split at he
  rotate_left
  · cases he
  rename_i hkd
  split at he
  rotate_left
  · cases he
  rename_i v J hfe
  have hb := hf_kdc (c := cv) hc hkd.1
  have W5 := hC.2.2.2.2.1
  have hcw : CallW room_1 s args RL C index y bytes maxL rt (.code y bytes maxL rt :: wtb) rm 0 0 a := ⟨callB_of a W5 (wtb_good hco) rfl hrc hrs (W5 _ hini) (W5 _ hl) hdy hR, W5 _ hin, W5 _ hse⟩
  have hrun := va_runV (e := e) (below := below) (meth := meth) (locs := locs) (cells := 600000) (slots := 7302249) (g := F0 m pc ls (st.map (hf_enc g))) (rest := rest.map (hf_enc g)) (b := hf_ad g cv) (As := as.map (hf_enc g)) ⟨hC.1, hC.2.1, hC.2.2.1, hC.2.2.2.1, W5⟩ (hM _ I v J hfe) hcw ⟨hf_blind g _ I, va_recv hK.1.1.1 hH (ci := ci) (q0 := cv - 6) hc (by rw [hf_pic_at g I hb, hf_cell_o hkd.1]), fun U hU hW => ⟨by simp [hf_enc], by rw [hU]; exact hH, hf_KS.step hW (by rw [hU]; exact hS) hK.1.1⟩⟩ rfl (by simpa using hal) hL.1 (by rw [hst]; simp [hf_enc]) (by have h8 := hkd.2; rw [← hf_enc_cats g rest] at h8; exact (lv_room h8)) hd ⟨Nat.le_refl _, Nat.le_refl _⟩
  refine hf_after hrun hS (fun H1 locs1 hH1 hS1 => ?_)
  have kk := hk p e s m args below meth c hC H1 locs1 pl ls (v.toList ++ rest) J r I' hS1 hH1 hL he
  cases v <;> exact kk
end HL
