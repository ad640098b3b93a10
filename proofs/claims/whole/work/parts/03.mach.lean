/-! the pure machine: values by codes (a reference is a code; hf_ad says where its cell lies), locals and stack as lists, memory M; none = stuck -/
abbrev hf_G : Type := Nat × (Nat → Nat) × va_G × (Nat → ClassId)
abbrev hf_M : Type := Nat → Nat → Int32
abbrev hf_R (M : Type) : Type := Option (Option Value × M)
abbrev hf_K (M : Type) : Type := List Value → List Value → M → hf_R M
def hf_ad (g : hf_G) (c : Nat) : Nat := if c < 6 then g.2.1 c else g.1 + (c - 6)
def hf_A (g : hf_G) : Nat → Prop := fun q => g.1 ≤ q
def hf_enc (g : hf_G) : Value → Value
  | .ref c => .ref (hf_ad g c)
  | v => v
theorem hf_enc_cat (g : hf_G) (v : Value) : (hf_enc g v).category = v.category := by cases v <;> rfl
theorem hf_enc_cats (g : hf_G) (vs : List Value) : ((vs.map (hf_enc g)).map fun v => v.category).sum = (vs.map fun v => v.category).sum := by
  rw [List.map_map]; congr 1; apply List.map_congr_left; intro v _; exact hf_enc_cat g v
/-- the locals -/
def hf_L (g : hf_G) (nL : Nat) (pl : List Value) (ls : Array Slot) : Prop := ls.size = nL ∧ lv_wf ls ∧ ∀ (i : Nat) (v : Value), pl[i]? = some v → v.category = 1 → ls[i]? = some (.val (hf_enc g v))
def hf_ll (g : hf_G) (pl : List Value) : List (Nat × Value) := pl.zipIdx.filterMap fun q => if q.1.category = 1 then some (q.2, hf_enc g q.1) else none
theorem hf_ll_mem {g : hf_G} {pl : List Value} {j : Nat} {v : Value} (h : pl[j]? = some v) (hc : v.category = 1) : (j, hf_enc g v) ∈ hf_ll g pl := by
  refine List.mem_filterMap.mpr ⟨(v, j), ?_, by simp [hc]⟩
  exact List.mem_zipIdx_iff_getElem?.mpr h
theorem hf_L.has {g : hf_G} {nL : Nat} {pl : List Value} {ls : Array Slot} (h : hf_L g nL pl ls) : lv_has ls nL (hf_ll g pl) := by
  refine ⟨h.1, h.2.1, fun q hq => ?_⟩
  obtain ⟨⟨v, j⟩, h1, h2⟩ := List.mem_filterMap.mp hq
  have h3 : pl[j]? = some v := List.mem_zipIdx_iff_getElem?.mp h1
  by_cases hc : v.category = 1
  · simp [hc] at h2
    subst h2
    exact h.2.2 j v h3 hc
  · simp [hc] at h2
theorem hf_L.st {g : hf_G} {nL i : Nat} {pl : List Value} {v : Value} {ls' : Array Slot} (hc : v.category = 1) (h : lv_has ls' nL ((i, hf_enc g v) :: (hf_ll g pl).filter (fun q => !(q.1 == i) && !(q.1 + 1 == i && q.2.category == 2)))) : hf_L g nL (pl.set i v) ls' := by
  refine ⟨h.1, h.2.1, fun j w hj hw => ?_⟩
  by_cases hij : j = i
  · subst hij
    have hv : w = v := by
      rw [List.getElem?_set] at hj
      simp at hj
      exact hj.2.symm
    subst hv
    exact h.2.2 (j, hf_enc g w) List.mem_cons_self
  · have h1 : pl[j]? = some w := by rw [List.getElem?_set_ne (fun q => hij q.symm)] at hj; exact hj
    refine h.2.2 (j, hf_enc g w) (List.mem_cons_of_mem _ (List.mem_filter.mpr ⟨hf_ll_mem h1 hw, ?_⟩))
    simp [hij, hf_enc_cat, hw]
theorem hf_L.entry (g : hf_G) (av : List Value) (n : Nat) (hc : ∀ v ∈ av, v.category = 1) (hn : av.length ≤ n) : hf_L g n (av ++ List.replicate (n - av.length) (.long 0)) ((lg_sl (av.map (hf_enc g)) ++ List.replicate (n - (lg_sl (av.map (hf_enc g))).length) Slot.unset).toArray) := by
  have hsl : lg_sl (av.map (hf_enc g)) = av.map (fun v => Slot.val (hf_enc g v)) := by
    induction av with
    | nil => rfl
    | cons a t ih =>
      have h1 : a.category = 1 := hc a List.mem_cons_self
      have h2 := ih (fun v hv => hc v (List.mem_cons_of_mem _ hv)) (Nat.le_trans (Nat.le_succ _) hn)
      have h3 : lg_sl ((a :: t).map (hf_enc g)) = [Slot.val (hf_enc g a)] ++ lg_sl (t.map (hf_enc g)) := by
        simp [lg_sl, hf_enc_cat, h1]
      rw [h3, h2]; rfl
  have hb := lv_entry (av.map (hf_enc g)) (n := n) (by rw [hsl]; simp; exact hn)
  refine ⟨hb.1, hb.2.1, fun i v hi hv => ?_⟩
  rw [hsl]
  by_cases hl : i < av.length
  · rw [List.getElem?_append_left hl] at hi
    rw [List.getElem?_toArray, List.getElem?_append_left (by simpa using hl)]
    simp [hi]
  · rw [List.getElem?_append_right (by omega)] at hi
    rw [List.getElem?_replicate] at hi
    split at hi
    · cases hi; cases hv
    · cases hi

/-- what a method's body knows -/
def hf_C (KS : hf_G → State → Prop) (g : hf_G) (cc : ByteArray) (nL : Nat) (own : String) (ret : Option FieldType) (p : Program) (s : State) (m : MethodId) (args : Array Value) (meth : Method) (c : Code) : Prop :=
  p.tables.exec = Jvm.exec ∧ c.code = cc ∧ c.maxLocals = nL ∧ s.vm.findClass own = some m.cls ∧ (∀ w ∈ wtb, w.before args s = true) ∧ meth.sig.returnType = ret ∧ meth.locks = false ∧ KS g s
abbrev hf_Q (M : Type) : Type := List Frame → Array Value → State → Option Value → M → State → Prop
/-- at pc the machine does as k says -/
def hf_S {M : Type} (KS : hf_G → State → Prop) (Hp : M → Heap → Prop) (cs : M → Nat × Nat) (Qf : hf_Q M) (g : hf_G) (l : Launch) (R : Room) (cc : ByteArray) (nL : Nat) (own : String) (ret : Option FieldType) (pc : Nat) (k : hf_K M) : Prop :=
  ∀ (p : Program) (e : Env) (s : State) (m : MethodId) (args : Array Value) (below : List Frame) (meth : Method) (c : Code), hf_C KS g cc nL own ret p s m args meth c →
    ∀ (H : Heap) (locs : List Loc) (pl : List Value) (ls : Array Slot) (st : List Value) (I : M) (r : Option Value) (I' : M), va_S (hf_A g) s.heap H locs → Hp I H → hf_L g nL pl ls → k pl st I = some (r, I') →
      W p l e R s m args below meth c H locs (cs I).1 (cs I).2 (Qf below args s r I') (F0 m pc ls (st.map (hf_enc g)))
section HF1
variable {M : Type} {KS : hf_G → State → Prop} {Hp : M → Heap → Prop} {cs : M → Nat × Nat} {Qf : hf_Q M} {g : hf_G} {l : Launch} {R : Room} {cc : ByteArray} {nL : Nat} {own : String} {ret : Option FieldType} {pc q : Nat} {k : hf_K M}
def c_none : hf_K M := fun _ _ _ => none
theorem s_none : hf_S KS Hp cs Qf g l R cc nL own ret pc c_none := by
  intro p e s m args below meth c hC H locs pl ls st I r I' hS hH hL he
  cases he

def c_iload (i : Nat) (k : hf_K M) : hf_K M := fun pl st I => match pl[i]? with
  | some (.int x) => k pl (.int x :: st) I
  | _ => none
def c_aload (i : Nat) (k : hf_K M) : hf_K M := fun pl st I => match pl[i]? with
  | some (.ref x) => k pl (.ref x :: st) I
  | _ => none
def c_istore (i : Nat) (k : hf_K M) : hf_K M := fun pl st I => match st with
  | .int x :: st => k (pl.set i (.int x)) st I
  | _ => none
def c_astore (i : Nat) (k : hf_K M) : hf_K M := fun pl st I => match st with
  | .ref x :: st => k (pl.set i (.ref x)) st I
  | _ => none
def c_iinc (i : Nat) (n : Int32) (k : hf_K M) : hf_K M := fun pl st I => match pl[i]? with
  | some (.int x) => k (pl.set i (.int (x + n))) st I
  | _ => none
def c_const (v : Int32) (k : hf_K M) : hf_K M := fun pl st I => k pl (.int v :: st) I
def c_dup (k : hf_K M) : hf_K M := fun pl st I => match st with
  | .int x :: st => k pl (.int x :: .int x :: st) I
  | .ref x :: st => k pl (.ref x :: .ref x :: st) I
  | _ => none
def c_dup2 (k : hf_K M) : hf_K M := fun pl st I => match st with
  | .int x :: .ref y :: st => k pl (.int x :: .ref y :: .int x :: .ref y :: st) I
  | _ => none
def c_goto (k : hf_K M) : hf_K M := k

theorem s_iload_n {i : Nat} {j : Fin 4} (hd : decode cc pc = .ok (.iload_n j, 1)) (hi : (j : Nat) = i) (hk : hf_S KS Hp cs Qf g l R cc nL own ret q k) (hq : pc + 1 = q) : hf_S KS Hp cs Qf g l R cc nL own ret pc (c_iload i k) := by
  intro p e s m args below meth c hC H locs pl ls st I r I' hS hH hL he
  subst hq
  unfold c_iload at he
  split at he
  · rename_i x h1
    refine lv_iload_n hC.1 hC.2.1 hd hi (hL.2.2 _ _ h1 rfl) ?_
    exact hk p e s m args below meth c hC H locs pl ls _ I r I' hS hH hL he
  · cases he
theorem s_iload {i : Nat} (hd : decode cc pc = .ok (.iload i, 2)) (hk : hf_S KS Hp cs Qf g l R cc nL own ret q k) (hq : pc + 2 = q) : hf_S KS Hp cs Qf g l R cc nL own ret pc (c_iload i k) := by
  intro p e s m args below meth c hC H locs pl ls st I r I' hS hH hL he
  subst hq
  unfold c_iload at he
  split at he
  · rename_i x h1
    refine lv_iload hC.1 hC.2.1 hd (hL.2.2 _ _ h1 rfl) ?_
    exact hk p e s m args below meth c hC H locs pl ls _ I r I' hS hH hL he
  · cases he
theorem s_aload_n {i : Nat} {j : Fin 4} (hd : decode cc pc = .ok (.aload_n j, 1)) (hi : (j : Nat) = i) (hk : hf_S KS Hp cs Qf g l R cc nL own ret q k) (hq : pc + 1 = q) : hf_S KS Hp cs Qf g l R cc nL own ret pc (c_aload i k) := by
  intro p e s m args below meth c hC H locs pl ls st I r I' hS hH hL he
  subst hq
  unfold c_aload at he
  split at he
  · rename_i x h1
    refine lv_aload_n hC.1 hC.2.1 hd hi (hL.2.2 _ _ h1 rfl) ?_
    exact hk p e s m args below meth c hC H locs pl ls _ I r I' hS hH hL he
  · cases he
theorem s_aload {i : Nat} (hd : decode cc pc = .ok (.aload i, 2)) (hk : hf_S KS Hp cs Qf g l R cc nL own ret q k) (hq : pc + 2 = q) : hf_S KS Hp cs Qf g l R cc nL own ret pc (c_aload i k) := by
  intro p e s m args below meth c hC H locs pl ls st I r I' hS hH hL he
  subst hq
  unfold c_aload at he
  split at he
  · rename_i x h1
    refine lv_aload hC.1 hC.2.1 hd (hL.2.2 _ _ h1 rfl) ?_
    exact hk p e s m args below meth c hC H locs pl ls _ I r I' hS hH hL he
  · cases he
theorem s_istore_n {i : Nat} {j : Fin 4} (hd : decode cc pc = .ok (.istore_n j, 1)) (hi : (j : Nat) = i) (hn : i < nL) (hk : hf_S KS Hp cs Qf g l R cc nL own ret q k) (hq : pc + 1 = q) : hf_S KS Hp cs Qf g l R cc nL own ret pc (c_istore i k) := by
  intro p e s m args below meth c hC H locs pl ls st I r I' hS hH hL he
  subst hq
  unfold c_istore at he
  split at he
  · rename_i x st
    refine lv_istore_n hC.1 hC.2.1 hd hi hL.has hn rfl (fun ls' hl' => ?_)
    exact hk p e s m args below meth c hC H locs _ ls' st I r I' hS hH (hf_L.st (v := .int x) rfl hl') he
  · cases he
theorem s_istore {i : Nat} (hd : decode cc pc = .ok (.istore i, 2)) (hn : i < nL) (hk : hf_S KS Hp cs Qf g l R cc nL own ret q k) (hq : pc + 2 = q) : hf_S KS Hp cs Qf g l R cc nL own ret pc (c_istore i k) := by
  intro p e s m args below meth c hC H locs pl ls st I r I' hS hH hL he
  subst hq
  unfold c_istore at he
  split at he
  · rename_i x st
    refine lv_istore hC.1 hC.2.1 hd hL.has hn rfl (fun ls' hl' => ?_)
    exact hk p e s m args below meth c hC H locs _ ls' st I r I' hS hH (hf_L.st (v := .int x) rfl hl') he
  · cases he
theorem s_astore_n {i : Nat} {j : Fin 4} (hd : decode cc pc = .ok (.astore_n j, 1)) (hi : (j : Nat) = i) (hn : i < nL) (hk : hf_S KS Hp cs Qf g l R cc nL own ret q k) (hq : pc + 1 = q) : hf_S KS Hp cs Qf g l R cc nL own ret pc (c_astore i k) := by
  intro p e s m args below meth c hC H locs pl ls st I r I' hS hH hL he
  subst hq
  unfold c_astore at he
  split at he
  · rename_i x st
    refine lv_astore_n hC.1 hC.2.1 hd hi hL.has hn rfl (fun ls' hl' => ?_)
    exact hk p e s m args below meth c hC H locs _ ls' st I r I' hS hH (hf_L.st (v := .ref x) rfl hl') he
  · cases he
theorem s_astore {i : Nat} (hd : decode cc pc = .ok (.astore i, 2)) (hn : i < nL) (hk : hf_S KS Hp cs Qf g l R cc nL own ret q k) (hq : pc + 2 = q) : hf_S KS Hp cs Qf g l R cc nL own ret pc (c_astore i k) := by
  intro p e s m args below meth c hC H locs pl ls st I r I' hS hH hL he
  subst hq
  unfold c_astore at he
  split at he
  · rename_i x st
    refine lv_astore hC.1 hC.2.1 hd hL.has hn rfl (fun ls' hl' => ?_)
    exact hk p e s m args below meth c hC H locs _ ls' st I r I' hS hH (hf_L.st (v := .ref x) rfl hl') he
  · cases he
theorem s_iinc {i : Nat} {n : Int} {v : Int32} (hd : decode cc pc = .ok (.iinc i n, 3)) (hv : Int32.ofInt n = v) (hn : i < nL) (hk : hf_S KS Hp cs Qf g l R cc nL own ret q k) (hq : pc + 3 = q) : hf_S KS Hp cs Qf g l R cc nL own ret pc (c_iinc i v k) := by
  intro p e s m args below meth c hC H locs pl ls st I r I' hS hH hL he
  subst hq
  unfold c_iinc at he
  split at he
  · rename_i x h1
    have hm : (i, Value.int x) ∈ hf_ll g pl := hf_ll_mem (v := .int x) h1 rfl
    obtain ⟨j, hj⟩ := List.getElem?_of_mem hm
    refine lv_iinc hC.1 hC.2.1 hd hL.has hj (v := x + v) (by rw [hv]) hn rfl (fun ls' hl' => ?_)
    exact hk p e s m args below meth c hC H locs _ ls' st I r I' hS hH (hf_L.st (v := .int (x + v)) rfl hl') he
  · cases he
theorem s_iconst {n : Int} {v : Int32} (hd : decode cc pc = .ok (.iconst n, 1)) (hv : Int32.ofInt n = v) (hk : hf_S KS Hp cs Qf g l R cc nL own ret q k) (hq : pc + 1 = q) : hf_S KS Hp cs Qf g l R cc nL own ret pc (c_const v k) := by
  intro p e s m args below meth c hC H locs pl ls st I r I' hS hH hL he
  subst hq
  exact lv_iconst hC.1 hC.2.1 hd hv (hk p e s m args below meth c hC H locs pl ls _ I r I' hS hH hL he)
theorem s_bipush {n : Int} {v : Int32} (hd : decode cc pc = .ok (.bipush n, 2)) (hv : (Int8.ofInt n).toInt32 = v) (hk : hf_S KS Hp cs Qf g l R cc nL own ret q k) (hq : pc + 2 = q) : hf_S KS Hp cs Qf g l R cc nL own ret pc (c_const v k) := by
  intro p e s m args below meth c hC H locs pl ls st I r I' hS hH hL he
  subst hq
  exact lv_bipush hC.1 hC.2.1 hd hv (hk p e s m args below meth c hC H locs pl ls _ I r I' hS hH hL he)
theorem s_sipush {n : Int} {v : Int32} (hd : decode cc pc = .ok (.sipush n, 3)) (hv : (Int16.ofInt n).toInt32 = v) (hk : hf_S KS Hp cs Qf g l R cc nL own ret q k) (hq : pc + 3 = q) : hf_S KS Hp cs Qf g l R cc nL own ret pc (c_const v k) := by
  intro p e s m args below meth c hC H locs pl ls st I r I' hS hH hL he
  subst hq
  exact lv_sipush hC.1 hC.2.1 hd hv (hk p e s m args below meth c hC H locs pl ls _ I r I' hS hH hL he)
theorem s_ldc {index : Nat} {v : Int32} (hw : Cond.constant own index v ∈ wtb) (hd : decode cc pc = .ok (.ldc index, 2)) (hk : hf_S KS Hp cs Qf g l R cc nL own ret q k) (hq : pc + 2 = q) : hf_S KS Hp cs Qf g l R cc nL own ret pc (c_const v k) := by
  intro p e s m args below meth c hC H locs pl ls st I r I' hS hH hL he
  subst hq
  exact lv_ldc hC.1 hC.2.1 hC.2.2.2.1 (hC.2.2.2.2.1 _ hw) hd (hk p e s m args below meth c hC H locs pl ls _ I r I' hS hH hL he)
theorem s_dup (hd : decode cc pc = .ok (.dup, 1)) (hk : hf_S KS Hp cs Qf g l R cc nL own ret q k) (hq : pc + 1 = q) : hf_S KS Hp cs Qf g l R cc nL own ret pc (c_dup k) := by
  intro p e s m args below meth c hC H locs pl ls st I r I' hS hH hL he
  subst hq
  unfold c_dup at he
  split at he
  · exact lv_dup hC.1 hC.2.1 hd rfl (hk p e s m args below meth c hC H locs pl ls _ I r I' hS hH hL he)
  · exact lv_dup hC.1 hC.2.1 hd rfl (hk p e s m args below meth c hC H locs pl ls _ I r I' hS hH hL he)
  · cases he
theorem s_dup2 (hd : decode cc pc = .ok (.dup2, 1)) (hk : hf_S KS Hp cs Qf g l R cc nL own ret q k) (hq : pc + 1 = q) : hf_S KS Hp cs Qf g l R cc nL own ret pc (c_dup2 k) := by
  intro p e s m args below meth c hC H locs pl ls st I r I' hS hH hL he
  subst hq
  unfold c_dup2 at he
  split at he
  · exact lv_dup2_11 hC.1 hC.2.1 hd rfl rfl (hk p e s m args below meth c hC H locs pl ls _ I r I' hS hH hL he)
  · cases he
theorem s_goto {off : Int} (hd : decode cc pc = .ok (.goto off, 3)) (hk : hf_S KS Hp cs Qf g l R cc nL own ret q k) (hq : (pc : Int) + off = (q : Int)) : hf_S KS Hp cs Qf g l R cc nL own ret pc (c_goto k) := by
  intro p e s m args below meth c hC H locs pl ls st I r I' hS hH hL he
  exact lv_goto hC.1 hC.2.1 hd hq (hk p e s m args below meth c hC H locs pl ls _ I r I' hS hH hL he)
def c_iadd (k : hf_K M) : hf_K M := fun pl st I => match st with
  | .int y :: .int x :: st => k pl (.int (x + y) :: st) I
  | _ => none
theorem s_iadd (hd : decode cc pc = .ok (.iadd, 1)) (hk : hf_S KS Hp cs Qf g l R cc nL own ret q k) (hq : pc + 1 = q) : hf_S KS Hp cs Qf g l R cc nL own ret pc (c_iadd k) := by
  intro p e s m args below meth c hC H locs pl ls st I r I' hS hH hL he
  subst hq
  unfold c_iadd at he
  split at he
  · exact lv_iadd hC.1 hC.2.1 hd (hk p e s m args below meth c hC H locs pl ls _ I r I' hS hH hL he)
  · cases he
def c_isub (k : hf_K M) : hf_K M := fun pl st I => match st with
  | .int y :: .int x :: st => k pl (.int (x - y) :: st) I
  | _ => none
theorem s_isub (hd : decode cc pc = .ok (.isub, 1)) (hk : hf_S KS Hp cs Qf g l R cc nL own ret q k) (hq : pc + 1 = q) : hf_S KS Hp cs Qf g l R cc nL own ret pc (c_isub k) := by
  intro p e s m args below meth c hC H locs pl ls st I r I' hS hH hL he
  subst hq
  unfold c_isub at he
  split at he
  · exact lv_isub hC.1 hC.2.1 hd (hk p e s m args below meth c hC H locs pl ls _ I r I' hS hH hL he)
  · cases he
def c_imul (k : hf_K M) : hf_K M := fun pl st I => match st with
  | .int y :: .int x :: st => k pl (.int (x * y) :: st) I
  | _ => none
theorem s_imul (hd : decode cc pc = .ok (.imul, 1)) (hk : hf_S KS Hp cs Qf g l R cc nL own ret q k) (hq : pc + 1 = q) : hf_S KS Hp cs Qf g l R cc nL own ret pc (c_imul k) := by
  intro p e s m args below meth c hC H locs pl ls st I r I' hS hH hL he
  subst hq
  unfold c_imul at he
  split at he
  · exact lv_imul hC.1 hC.2.1 hd (hk p e s m args below meth c hC H locs pl ls _ I r I' hS hH hL he)
  · cases he
def c_iand (k : hf_K M) : hf_K M := fun pl st I => match st with
  | .int y :: .int x :: st => k pl (.int (x &&& y) :: st) I
  | _ => none
theorem s_iand (hd : decode cc pc = .ok (.iand, 1)) (hk : hf_S KS Hp cs Qf g l R cc nL own ret q k) (hq : pc + 1 = q) : hf_S KS Hp cs Qf g l R cc nL own ret pc (c_iand k) := by
  intro p e s m args below meth c hC H locs pl ls st I r I' hS hH hL he
  subst hq
  unfold c_iand at he
  split at he
  · exact lv_iand hC.1 hC.2.1 hd (hk p e s m args below meth c hC H locs pl ls _ I r I' hS hH hL he)
  · cases he
def c_ixor (k : hf_K M) : hf_K M := fun pl st I => match st with
  | .int y :: .int x :: st => k pl (.int (x ^^^ y) :: st) I
  | _ => none
theorem s_ixor (hd : decode cc pc = .ok (.ixor, 1)) (hk : hf_S KS Hp cs Qf g l R cc nL own ret q k) (hq : pc + 1 = q) : hf_S KS Hp cs Qf g l R cc nL own ret pc (c_ixor k) := by
  intro p e s m args below meth c hC H locs pl ls st I r I' hS hH hL he
  subst hq
  unfold c_ixor at he
  split at he
  · exact lv_ixor hC.1 hC.2.1 hd (hk p e s m args below meth c hC H locs pl ls _ I r I' hS hH hL he)
  · cases he
def hf_ush (x y : Int32) : Int32 := (x.toUInt32 >>> (y.toUInt32 &&& Int32.toUInt32 31)).toInt32
def c_iushr (k : hf_K M) : hf_K M := fun pl st I => match st with
  | .int y :: .int x :: st => k pl (.int (hf_ush x y) :: st) I
  | _ => none
theorem s_iushr (hd : decode cc pc = .ok (.iushr, 1)) (hk : hf_S KS Hp cs Qf g l R cc nL own ret q k) (hq : pc + 1 = q) : hf_S KS Hp cs Qf g l R cc nL own ret pc (c_iushr k) := by
  intro p e s m args below meth c hC H locs pl ls st I r I' hS hH hL he
  subst hq
  unfold c_iushr at he
  split at he
  · exact lv_iushr hC.1 hC.2.1 hd rfl (hk p e s m args below meth c hC H locs pl ls _ I r I' hS hH hL he)
  · cases he
def c_idiv (k : hf_K M) : hf_K M := fun pl st I => match st with
  | .int y :: .int x :: st => if y = 0 then none else k pl (.int (x / y) :: st) I
  | _ => none
theorem s_idiv (hd : decode cc pc = .ok (.idiv, 1)) (hk : hf_S KS Hp cs Qf g l R cc nL own ret q k) (hq : pc + 1 = q) : hf_S KS Hp cs Qf g l R cc nL own ret pc (c_idiv k) := by
  intro p e s m args below meth c hC H locs pl ls st I r I' hS hH hL he
  subst hq
  unfold c_idiv at he
  split at he
  · split at he
    · cases he
    · rename_i hne
      exact lv_idiv hC.1 hC.2.1 hd hne (hk p e s m args below meth c hC H locs pl ls _ I r I' hS hH hL he)
  · cases he
def c_irem (k : hf_K M) : hf_K M := fun pl st I => match st with
  | .int y :: .int x :: st => if y = 0 then none else k pl (.int (x - x / y * y) :: st) I
  | _ => none
theorem s_irem (hd : decode cc pc = .ok (.irem, 1)) (hk : hf_S KS Hp cs Qf g l R cc nL own ret q k) (hq : pc + 1 = q) : hf_S KS Hp cs Qf g l R cc nL own ret pc (c_irem k) := by
  intro p e s m args below meth c hC H locs pl ls st I r I' hS hH hL he
  subst hq
  unfold c_irem at he
  split at he
  · split at he
    · cases he
    · rename_i hne
      exact lv_irem hC.1 hC.2.1 hd hne (hk p e s m args below meth c hC H locs pl ls _ I r I' hS hH hL he)
  · cases he
def c_ifeq (kt kf : hf_K M) : hf_K M := fun pl st I => match st with
  | .int x :: st => if x = 0 then kt pl st I else kf pl st I
  | _ => none
theorem s_ifeq {kt kf : hf_K M} {off : Int} {tgt : Nat} (hd : decode cc pc = .ok (.ifCond .eq off, 3)) (ht : (pc : Int) + off = (tgt : Int)) (hkt : hf_S KS Hp cs Qf g l R cc nL own ret tgt kt) (hkf : hf_S KS Hp cs Qf g l R cc nL own ret q kf) (hq : pc + 3 = q) : hf_S KS Hp cs Qf g l R cc nL own ret pc (c_ifeq kt kf) := by
  intro p e s m args below meth c hC H locs pl ls st I r I' hS hH hL he
  subst hq
  unfold c_ifeq at he
  split at he
  · refine lv_if_eq hC.1 hC.2.1 hd ht (fun h => hkt p e s m args below meth c hC H locs pl ls _ I r I' hS hH hL (by rw [if_pos h] at he; exact he)) (fun h => hkf p e s m args below meth c hC H locs pl ls _ I r I' hS hH hL (by rw [if_neg h] at he; exact he))
  · cases he
def c_icmpeq (kt kf : hf_K M) : hf_K M := fun pl st I => match st with
  | .int y :: .int x :: st => if x = y then kt pl st I else kf pl st I
  | _ => none
theorem s_icmpeq {kt kf : hf_K M} {off : Int} {tgt : Nat} (hd : decode cc pc = .ok (.if_icmp .eq off, 3)) (ht : (pc : Int) + off = (tgt : Int)) (hkt : hf_S KS Hp cs Qf g l R cc nL own ret tgt kt) (hkf : hf_S KS Hp cs Qf g l R cc nL own ret q kf) (hq : pc + 3 = q) : hf_S KS Hp cs Qf g l R cc nL own ret pc (c_icmpeq kt kf) := by
  intro p e s m args below meth c hC H locs pl ls st I r I' hS hH hL he
  subst hq
  unfold c_icmpeq at he
  split at he
  · refine lv_icmp_eq hC.1 hC.2.1 hd ht (fun h => hkt p e s m args below meth c hC H locs pl ls _ I r I' hS hH hL (by rw [if_pos h] at he; exact he)) (fun h => hkf p e s m args below meth c hC H locs pl ls _ I r I' hS hH hL (by rw [if_neg h] at he; exact he))
  · cases he
def c_ifne (kt kf : hf_K M) : hf_K M := fun pl st I => match st with
  | .int x :: st => if x = 0 then kf pl st I else kt pl st I
  | _ => none
theorem s_ifne {kt kf : hf_K M} {off : Int} {tgt : Nat} (hd : decode cc pc = .ok (.ifCond .ne off, 3)) (ht : (pc : Int) + off = (tgt : Int)) (hkt : hf_S KS Hp cs Qf g l R cc nL own ret tgt kt) (hkf : hf_S KS Hp cs Qf g l R cc nL own ret q kf) (hq : pc + 3 = q) : hf_S KS Hp cs Qf g l R cc nL own ret pc (c_ifne kt kf) := by
  intro p e s m args below meth c hC H locs pl ls st I r I' hS hH hL he
  subst hq
  unfold c_ifne at he
  split at he
  · refine lv_if_ne hC.1 hC.2.1 hd ht (fun h => hkt p e s m args below meth c hC H locs pl ls _ I r I' hS hH hL (by rw [if_neg h] at he; exact he)) (fun h => hkf p e s m args below meth c hC H locs pl ls _ I r I' hS hH hL (by rw [if_pos h] at he; exact he))
  · cases he
def c_icmpne (kt kf : hf_K M) : hf_K M := fun pl st I => match st with
  | .int y :: .int x :: st => if x = y then kf pl st I else kt pl st I
  | _ => none
theorem s_icmpne {kt kf : hf_K M} {off : Int} {tgt : Nat} (hd : decode cc pc = .ok (.if_icmp .ne off, 3)) (ht : (pc : Int) + off = (tgt : Int)) (hkt : hf_S KS Hp cs Qf g l R cc nL own ret tgt kt) (hkf : hf_S KS Hp cs Qf g l R cc nL own ret q kf) (hq : pc + 3 = q) : hf_S KS Hp cs Qf g l R cc nL own ret pc (c_icmpne kt kf) := by
  intro p e s m args below meth c hC H locs pl ls st I r I' hS hH hL he
  subst hq
  unfold c_icmpne at he
  split at he
  · refine lv_icmp_ne hC.1 hC.2.1 hd ht (fun h => hkt p e s m args below meth c hC H locs pl ls _ I r I' hS hH hL (by rw [if_neg h] at he; exact he)) (fun h => hkf p e s m args below meth c hC H locs pl ls _ I r I' hS hH hL (by rw [if_pos h] at he; exact he))
  · cases he
def c_iflt (kt kf : hf_K M) : hf_K M := fun pl st I => match st with
  | .int x :: st => if x < 0 then kt pl st I else kf pl st I
  | _ => none
theorem s_iflt {kt kf : hf_K M} {off : Int} {tgt : Nat} (hd : decode cc pc = .ok (.ifCond .lt off, 3)) (ht : (pc : Int) + off = (tgt : Int)) (hkt : hf_S KS Hp cs Qf g l R cc nL own ret tgt kt) (hkf : hf_S KS Hp cs Qf g l R cc nL own ret q kf) (hq : pc + 3 = q) : hf_S KS Hp cs Qf g l R cc nL own ret pc (c_iflt kt kf) := by
  intro p e s m args below meth c hC H locs pl ls st I r I' hS hH hL he
  subst hq
  unfold c_iflt at he
  split at he
  · refine lv_if_lt hC.1 hC.2.1 hd ht (fun h => hkt p e s m args below meth c hC H locs pl ls _ I r I' hS hH hL (by rw [if_pos h] at he; exact he)) (fun h => hkf p e s m args below meth c hC H locs pl ls _ I r I' hS hH hL (by rw [if_neg h] at he; exact he))
  · cases he
def c_icmplt (kt kf : hf_K M) : hf_K M := fun pl st I => match st with
  | .int y :: .int x :: st => if x < y then kt pl st I else kf pl st I
  | _ => none
theorem s_icmplt {kt kf : hf_K M} {off : Int} {tgt : Nat} (hd : decode cc pc = .ok (.if_icmp .lt off, 3)) (ht : (pc : Int) + off = (tgt : Int)) (hkt : hf_S KS Hp cs Qf g l R cc nL own ret tgt kt) (hkf : hf_S KS Hp cs Qf g l R cc nL own ret q kf) (hq : pc + 3 = q) : hf_S KS Hp cs Qf g l R cc nL own ret pc (c_icmplt kt kf) := by
  intro p e s m args below meth c hC H locs pl ls st I r I' hS hH hL he
  subst hq
  unfold c_icmplt at he
  split at he
  · refine lv_icmp_lt hC.1 hC.2.1 hd ht (fun h => hkt p e s m args below meth c hC H locs pl ls _ I r I' hS hH hL (by rw [if_pos h] at he; exact he)) (fun h => hkf p e s m args below meth c hC H locs pl ls _ I r I' hS hH hL (by rw [if_neg h] at he; exact he))
  · cases he
def c_ifge (kt kf : hf_K M) : hf_K M := fun pl st I => match st with
  | .int x :: st => if 0 ≤ x then kt pl st I else kf pl st I
  | _ => none
theorem s_ifge {kt kf : hf_K M} {off : Int} {tgt : Nat} (hd : decode cc pc = .ok (.ifCond .ge off, 3)) (ht : (pc : Int) + off = (tgt : Int)) (hkt : hf_S KS Hp cs Qf g l R cc nL own ret tgt kt) (hkf : hf_S KS Hp cs Qf g l R cc nL own ret q kf) (hq : pc + 3 = q) : hf_S KS Hp cs Qf g l R cc nL own ret pc (c_ifge kt kf) := by
  intro p e s m args below meth c hC H locs pl ls st I r I' hS hH hL he
  subst hq
  unfold c_ifge at he
  split at he
  · refine lv_if_ge hC.1 hC.2.1 hd ht (fun h => hkt p e s m args below meth c hC H locs pl ls _ I r I' hS hH hL (by rw [if_pos h] at he; exact he)) (fun h => hkf p e s m args below meth c hC H locs pl ls _ I r I' hS hH hL (by rw [if_neg h] at he; exact he))
  · cases he
def c_icmpge (kt kf : hf_K M) : hf_K M := fun pl st I => match st with
  | .int y :: .int x :: st => if y ≤ x then kt pl st I else kf pl st I
  | _ => none
theorem s_icmpge {kt kf : hf_K M} {off : Int} {tgt : Nat} (hd : decode cc pc = .ok (.if_icmp .ge off, 3)) (ht : (pc : Int) + off = (tgt : Int)) (hkt : hf_S KS Hp cs Qf g l R cc nL own ret tgt kt) (hkf : hf_S KS Hp cs Qf g l R cc nL own ret q kf) (hq : pc + 3 = q) : hf_S KS Hp cs Qf g l R cc nL own ret pc (c_icmpge kt kf) := by
  intro p e s m args below meth c hC H locs pl ls st I r I' hS hH hL he
  subst hq
  unfold c_icmpge at he
  split at he
  · refine lv_icmp_ge hC.1 hC.2.1 hd ht (fun h => hkt p e s m args below meth c hC H locs pl ls _ I r I' hS hH hL (by rw [if_pos h] at he; exact he)) (fun h => hkf p e s m args below meth c hC H locs pl ls _ I r I' hS hH hL (by rw [if_neg h] at he; exact he))
  · cases he
def c_ifgt (kt kf : hf_K M) : hf_K M := fun pl st I => match st with
  | .int x :: st => if 0 < x then kt pl st I else kf pl st I
  | _ => none
theorem s_ifgt {kt kf : hf_K M} {off : Int} {tgt : Nat} (hd : decode cc pc = .ok (.ifCond .gt off, 3)) (ht : (pc : Int) + off = (tgt : Int)) (hkt : hf_S KS Hp cs Qf g l R cc nL own ret tgt kt) (hkf : hf_S KS Hp cs Qf g l R cc nL own ret q kf) (hq : pc + 3 = q) : hf_S KS Hp cs Qf g l R cc nL own ret pc (c_ifgt kt kf) := by
  intro p e s m args below meth c hC H locs pl ls st I r I' hS hH hL he
  subst hq
  unfold c_ifgt at he
  split at he
  · refine lv_if_gt hC.1 hC.2.1 hd ht (fun h => hkt p e s m args below meth c hC H locs pl ls _ I r I' hS hH hL (by rw [if_pos h] at he; exact he)) (fun h => hkf p e s m args below meth c hC H locs pl ls _ I r I' hS hH hL (by rw [if_neg h] at he; exact he))
  · cases he
def c_icmpgt (kt kf : hf_K M) : hf_K M := fun pl st I => match st with
  | .int y :: .int x :: st => if y < x then kt pl st I else kf pl st I
  | _ => none
theorem s_icmpgt {kt kf : hf_K M} {off : Int} {tgt : Nat} (hd : decode cc pc = .ok (.if_icmp .gt off, 3)) (ht : (pc : Int) + off = (tgt : Int)) (hkt : hf_S KS Hp cs Qf g l R cc nL own ret tgt kt) (hkf : hf_S KS Hp cs Qf g l R cc nL own ret q kf) (hq : pc + 3 = q) : hf_S KS Hp cs Qf g l R cc nL own ret pc (c_icmpgt kt kf) := by
  intro p e s m args below meth c hC H locs pl ls st I r I' hS hH hL he
  subst hq
  unfold c_icmpgt at he
  split at he
  · refine lv_icmp_gt hC.1 hC.2.1 hd ht (fun h => hkt p e s m args below meth c hC H locs pl ls _ I r I' hS hH hL (by rw [if_pos h] at he; exact he)) (fun h => hkf p e s m args below meth c hC H locs pl ls _ I r I' hS hH hL (by rw [if_neg h] at he; exact he))
  · cases he
def c_ifle (kt kf : hf_K M) : hf_K M := fun pl st I => match st with
  | .int x :: st => if x ≤ 0 then kt pl st I else kf pl st I
  | _ => none
theorem s_ifle {kt kf : hf_K M} {off : Int} {tgt : Nat} (hd : decode cc pc = .ok (.ifCond .le off, 3)) (ht : (pc : Int) + off = (tgt : Int)) (hkt : hf_S KS Hp cs Qf g l R cc nL own ret tgt kt) (hkf : hf_S KS Hp cs Qf g l R cc nL own ret q kf) (hq : pc + 3 = q) : hf_S KS Hp cs Qf g l R cc nL own ret pc (c_ifle kt kf) := by
  intro p e s m args below meth c hC H locs pl ls st I r I' hS hH hL he
  subst hq
  unfold c_ifle at he
  split at he
  · refine lv_if_le hC.1 hC.2.1 hd ht (fun h => hkt p e s m args below meth c hC H locs pl ls _ I r I' hS hH hL (by rw [if_pos h] at he; exact he)) (fun h => hkf p e s m args below meth c hC H locs pl ls _ I r I' hS hH hL (by rw [if_neg h] at he; exact he))
  · cases he
def c_icmple (kt kf : hf_K M) : hf_K M := fun pl st I => match st with
  | .int y :: .int x :: st => if x ≤ y then kt pl st I else kf pl st I
  | _ => none
theorem s_icmple {kt kf : hf_K M} {off : Int} {tgt : Nat} (hd : decode cc pc = .ok (.if_icmp .le off, 3)) (ht : (pc : Int) + off = (tgt : Int)) (hkt : hf_S KS Hp cs Qf g l R cc nL own ret tgt kt) (hkf : hf_S KS Hp cs Qf g l R cc nL own ret q kf) (hq : pc + 3 = q) : hf_S KS Hp cs Qf g l R cc nL own ret pc (c_icmple kt kf) := by
  intro p e s m args below meth c hC H locs pl ls st I r I' hS hH hL he
  subst hq
  unfold c_icmple at he
  split at he
  · refine lv_icmp_le hC.1 hC.2.1 hd ht (fun h => hkt p e s m args below meth c hC H locs pl ls _ I r I' hS hH hL (by rw [if_pos h] at he; exact he)) (fun h => hkf p e s m args below meth c hC H locs pl ls _ I r I' hS hH hL (by rw [if_neg h] at he; exact he))
  · cases he
/-- a switch whose least key is 0: ks the cases in order, kd the default -/
def c_tsw (ks : List (hf_K M)) (kd : hf_K M) : hf_K M := fun pl st I => match st with
  | .int x :: st => if x < 0 then kd pl st I else match ks[x.toNatClampNeg]? with
    | some k => k pl st I
    | none => kd pl st I
  | _ => none
theorem hf_tn {x : Int32} (h : ¬ x < 0) : x.toInt = (x.toNatClampNeg : Int) := by
  obtain ⟨j, hj, rfl⟩ := nI_of h
  rw [nI_toInt hj, nI_clamp hj]
theorem hf_tlt {x : Int32} : x < 0 ↔ x.toInt < 0 := Int32.lt_iff_toInt_lt
theorem s_tsw {ks : List (hf_K M)} {kd : hf_K M} {dflt hi : Int} {offs : Array Int} {len tgtd : Nat} {tg : List Nat} (hd : decode cc pc = .ok (.tableswitch dflt 0 hi offs, len)) (hhi : hi + 1 = (ks.length : Int)) (htd : (pc : Int) + dflt = (tgtd : Int)) (hlen : tg.length = ks.length) (hto : ∀ i, i < ks.length → (offs[i]?).map (fun o => (pc : Int) + o) = (tg[i]?).map Int.ofNat) (hkd : hf_S KS Hp cs Qf g l R cc nL own ret tgtd kd) (hks : ∀ (i : Nat) (k : hf_K M) (t : Nat), ks[i]? = some k → tg[i]? = some t → hf_S KS Hp cs Qf g l R cc nL own ret t k) : hf_S KS Hp cs Qf g l R cc nL own ret pc (c_tsw ks kd) := by
  intro p e s m args below meth c hC H locs pl ls st I r I' hS hH hL he
  unfold c_tsw at he
  split at he
  · rename_i x st
    have kdd := hkd p e s m args below meth c hC H locs pl ls st I r I' hS hH hL
    by_cases hx : x < 0
    · rw [if_pos hx] at he
      exact lv_tableOut hC.1 hC.2.1 hd (Or.inl (hf_tlt.mp hx)) htd (kdd he)
    · rw [if_neg hx] at he
      have hxi := hf_tn hx
      split at he
      · rename_i k hk
        have hlt : x.toNatClampNeg < ks.length := (List.getElem?_eq_some_iff.mp hk).1
        have h0 := hto _ hlt
        have htg : tg[x.toNatClampNeg]? = some (tg[x.toNatClampNeg]'(by omega)) := List.getElem?_eq_getElem (by omega)
        rw [htg] at h0
        cases ho : offs[x.toNatClampNeg]? with
        | none => rw [ho] at h0; cases h0
        | some o =>
          rw [ho] at h0
          have h1 : (pc : Int) + o = ((tg[x.toNatClampNeg]'(by omega) : Nat) : Int) := Option.some.inj h0
          exact lv_tableIn hC.1 hC.2.1 hd (by omega) (by omega) (by rw [hxi]; simpa using ho) h1 (hks _ k _ hk htg p e s m args below meth c hC H locs pl ls st I r I' hS hH hL he)
      · rename_i hk
        have hge : ks.length ≤ x.toNatClampNeg := List.getElem?_eq_none_iff.mp hk
        exact lv_tableOut hC.1 hC.2.1 hd (Or.inr (by omega)) htd (kdd he)
  · cases he
end HF1
