theorem r_iload (i : Nat) {M : Type} (k : hf_K M) (pl st : List Value) (I : M) : c_iload i k pl st I = match pl[i]? with
  | some (.int x) => k pl (.int x :: st) I
  | _ => none := id rfl
theorem r_aload (i : Nat) {M : Type} (k : hf_K M) (pl st : List Value) (I : M) : c_aload i k pl st I = match pl[i]? with
  | some (.ref x) => k pl (.ref x :: st) I
  | _ => none := id rfl
theorem r_istore (i : Nat) (x : Int32) {M : Type} (k : hf_K M) (pl st : List Value) (I : M) : c_istore i k pl (.int x :: st) I = k (pl.set i (.int x)) st I := id rfl
theorem r_astore (i : Nat) (x : Nat) {M : Type} (k : hf_K M) (pl st : List Value) (I : M) : c_astore i k pl (.ref x :: st) I = k (pl.set i (.ref x)) st I := id rfl
theorem r_iinc (i : Nat) (n : Int32) {M : Type} (k : hf_K M) (pl st : List Value) (I : M) : c_iinc i n k pl st I = match pl[i]? with
  | some (.int x) => k (pl.set i (.int (x + n))) st I
  | _ => none := id rfl
theorem r_const (v : Int32) {M : Type} (k : hf_K M) (pl st : List Value) (I : M) : c_const v k pl st I = k pl (.int v :: st) I := id rfl
theorem r_dupi (x : Int32) {M : Type} (k : hf_K M) (pl st : List Value) (I : M) : c_dup k pl (.int x :: st) I = k pl (.int x :: .int x :: st) I := id rfl
theorem r_dupr (x : Nat) {M : Type} (k : hf_K M) (pl st : List Value) (I : M) : c_dup k pl (.ref x :: st) I = k pl (.ref x :: .ref x :: st) I := id rfl
theorem r_dup2 (x : Int32) (y : Nat) {M : Type} (k : hf_K M) (pl st : List Value) (I : M) : c_dup2 k pl (.int x :: .ref y :: st) I = k pl (.int x :: .ref y :: .int x :: .ref y :: st) I := id rfl
theorem r_goto {M : Type} (k : hf_K M) (pl st : List Value) (I : M) : c_goto k pl st I = k pl st I := id rfl
theorem r_iadd (x y : Int32) {M : Type} (k : hf_K M) (pl st : List Value) (I : M) : c_iadd k pl (.int y :: .int x :: st) I = k pl (.int (x + y) :: st) I := id rfl
theorem r_isub (x y : Int32) {M : Type} (k : hf_K M) (pl st : List Value) (I : M) : c_isub k pl (.int y :: .int x :: st) I = k pl (.int (x - y) :: st) I := id rfl
theorem r_imul (x y : Int32) {M : Type} (k : hf_K M) (pl st : List Value) (I : M) : c_imul k pl (.int y :: .int x :: st) I = k pl (.int (x * y) :: st) I := id rfl
theorem r_iand (x y : Int32) {M : Type} (k : hf_K M) (pl st : List Value) (I : M) : c_iand k pl (.int y :: .int x :: st) I = k pl (.int (x &&& y) :: st) I := id rfl
theorem r_ixor (x y : Int32) {M : Type} (k : hf_K M) (pl st : List Value) (I : M) : c_ixor k pl (.int y :: .int x :: st) I = k pl (.int (x ^^^ y) :: st) I := id rfl
theorem r_iushr (x y : Int32) {M : Type} (k : hf_K M) (pl st : List Value) (I : M) : c_iushr k pl (.int y :: .int x :: st) I = k pl (.int (hf_ush x y) :: st) I := id rfl
theorem r_idiv (x y : Int32) {M : Type} (k : hf_K M) (pl st : List Value) (I : M) : c_idiv k pl (.int y :: .int x :: st) I = if y = 0 then none else k pl (.int (x / y) :: st) I := id rfl
theorem r_irem (x y : Int32) {M : Type} (k : hf_K M) (pl st : List Value) (I : M) : c_irem k pl (.int y :: .int x :: st) I = if y = 0 then none else k pl (.int (x - x / y * y) :: st) I := id rfl
theorem r_ifeq (x : Int32) {M : Type} (kt kf : hf_K M) (pl st : List Value) (I : M) : c_ifeq kt kf pl (.int x :: st) I = if x = 0 then kt pl st I else kf pl st I := id rfl
theorem r_icmpeq (x y : Int32) {M : Type} (kt kf : hf_K M) (pl st : List Value) (I : M) : c_icmpeq kt kf pl (.int y :: .int x :: st) I = if x = y then kt pl st I else kf pl st I := id rfl
theorem r_ifne (x : Int32) {M : Type} (kt kf : hf_K M) (pl st : List Value) (I : M) : c_ifne kt kf pl (.int x :: st) I = if x = 0 then kf pl st I else kt pl st I := id rfl
theorem r_icmpne (x y : Int32) {M : Type} (kt kf : hf_K M) (pl st : List Value) (I : M) : c_icmpne kt kf pl (.int y :: .int x :: st) I = if x = y then kf pl st I else kt pl st I := id rfl
theorem r_iflt (x : Int32) {M : Type} (kt kf : hf_K M) (pl st : List Value) (I : M) : c_iflt kt kf pl (.int x :: st) I = if x < 0 then kt pl st I else kf pl st I := id rfl
theorem r_icmplt (x y : Int32) {M : Type} (kt kf : hf_K M) (pl st : List Value) (I : M) : c_icmplt kt kf pl (.int y :: .int x :: st) I = if x < y then kt pl st I else kf pl st I := id rfl
theorem r_ifge (x : Int32) {M : Type} (kt kf : hf_K M) (pl st : List Value) (I : M) : c_ifge kt kf pl (.int x :: st) I = if 0 ≤ x then kt pl st I else kf pl st I := id rfl
theorem r_icmpge (x y : Int32) {M : Type} (kt kf : hf_K M) (pl st : List Value) (I : M) : c_icmpge kt kf pl (.int y :: .int x :: st) I = if y ≤ x then kt pl st I else kf pl st I := id rfl
theorem r_ifgt (x : Int32) {M : Type} (kt kf : hf_K M) (pl st : List Value) (I : M) : c_ifgt kt kf pl (.int x :: st) I = if 0 < x then kt pl st I else kf pl st I := id rfl
theorem r_icmpgt (x y : Int32) {M : Type} (kt kf : hf_K M) (pl st : List Value) (I : M) : c_icmpgt kt kf pl (.int y :: .int x :: st) I = if y < x then kt pl st I else kf pl st I := id rfl
theorem r_ifle (x : Int32) {M : Type} (kt kf : hf_K M) (pl st : List Value) (I : M) : c_ifle kt kf pl (.int x :: st) I = if x ≤ 0 then kt pl st I else kf pl st I := id rfl
theorem r_icmple (x y : Int32) {M : Type} (kt kf : hf_K M) (pl st : List Value) (I : M) : c_icmple kt kf pl (.int y :: .int x :: st) I = if x ≤ y then kt pl st I else kf pl st I := id rfl
theorem r_tsw {M : Type} (ks : List (hf_K M)) (kd : hf_K M) (x : Int32) (pl st : List Value) (I : M) : c_tsw ks kd pl (.int x :: st) I = if x < 0 then kd pl st I else match ks[x.toNatClampNeg]? with
  | some k => k pl st I
  | none => kd pl st I := id rfl
theorem r_getI (ci j c : Nat) (k : hf_K hf_M) (pl st : List Value) (I : hf_M) : c_getI ci j k pl (.ref c :: st) I = if hf_kd c = ci + 3 then k pl (.int (I c j) :: st) I else none := id rfl
theorem r_getR (ci j c : Nat) (k : hf_K hf_M) (pl st : List Value) (I : hf_M) : c_getR ci j k pl (.ref c :: st) I = if hf_kd c = ci + 3 then match hf_rf c j with
  | some r => k pl (.ref r :: st) I
  | none => none
  else none := id rfl
theorem r_putI (ci j c : Nat) (v : Int32) (k : hf_K hf_M) (pl st : List Value) (I : hf_M) : c_putI ci j k pl (.int v :: .ref c :: st) I = if hf_kd c = ci + 3 then k pl st (hf_w I c j v) else none := id rfl
theorem r_putZ (ci j c : Nat) (v : Int32) (k : hf_K hf_M) (pl st : List Value) (I : hf_M) : c_putZ ci j k pl (.int v :: .ref c :: st) I = if hf_kd c = ci + 3 ∧ (v = 0 ∨ v = 1) then k pl st (hf_w I c j v) else none := id rfl
theorem r_iald (i : Int32) (c : Nat) (k : hf_K hf_M) (pl st : List Value) (I : hf_M) : c_iald k pl (.int i :: .ref c :: st) I = if hf_in i (hf_al c) then k pl (.int (hf_rd I c i.toNatClampNeg) :: st) I else none := id rfl
theorem r_iast (v i : Int32) (c : Nat) (k : hf_K hf_M) (pl st : List Value) (I : hf_M) : c_iast k pl (.int v :: .int i :: .ref c :: st) I = if ¬ c < 6 ∧ hf_in i (hf_al c) then k pl st (hf_w I c i.toNatClampNeg v) else none := id rfl
theorem r_aald (i : Int32) (c : Nat) (k : hf_K hf_M) (pl st : List Value) (I : hf_M) : c_aald k pl (.int i :: .ref c :: st) I = if (hf_kd c = 1 ∨ hf_kd c = 2) ∧ hf_in i (hf_ln c) then match hf_rf c i.toNatClampNeg with
  | some r => k pl (.ref r :: st) I
  | none => none
  else none := id rfl
theorem r_gets (t : Nat) (k : hf_K hf_M) (pl st : List Value) (I : hf_M) : c_gets t k pl st I = k pl (.ref t :: st) I := id rfl
theorem r_copy (n dp sp : Int32) (d s : Nat) (k : hf_K hf_M) (pl st : List Value) (I : hf_M) : c_copy k pl (.int n :: .int dp :: .ref d :: .int sp :: .ref s :: st) I = if hf_kd s = 0 ∧ hf_kd d = 0 ∧ ¬ sp < 0 ∧ ¬ dp < 0 ∧ ¬ n < 0 ∧ sp.toNatClampNeg + n.toNatClampNeg ≤ hf_ln s ∧ dp.toNatClampNeg + n.toNatClampNeg ≤ hf_ln d ∧ st = [] then k pl st (hf_cp I d (va_cpy (I s) (I d) sp.toNatClampNeg dp.toNatClampNeg n.toNatClampNeg)) else none := id rfl
theorem r_iret (v : Int32) (pl : List Value) (I : hf_M) : c_iret pl [.int v] I = some (some (.int v), I) := id rfl
theorem r_zret (v : Int32) (pl : List Value) (I : hf_M) : c_zret pl [.int v] I = if v = 0 ∨ v = 1 then some (some (.int v), I) else none := id rfl
theorem r_vret (pl : List Value) (I : hf_M) : c_vret pl [] I = some (none, I) := id rfl
theorem r_mmax {M : Type} (x y : Int32) (k : hf_K M) (pl st : List Value) (I : M) : c_mmax k pl (.int y :: .int x :: st) I = if (st.map fun v => v.category).sum ≤ 8 then k pl (.int (if x < y then y else x) :: st) I else none := id rfl
theorem r_mmin {M : Type} (x y : Int32) (k : hf_K M) (pl st : List Value) (I : M) : c_mmin k pl (.int y :: .int x :: st) I = if (st.map fun v => v.category).sum ≤ 8 then k pl (.int (if y < x then y else x) :: st) I else none := id rfl
theorem r_callV (ci a : Nat) (f : hf_F) (k : hf_K hf_M) (pl st : List Value) (I : hf_M) : c_callV ci a f k pl st I = match hf_pop a st with
  | some (as, .ref c :: rest) => if hf_kd c = ci + 3 ∧ (rest.map fun v => v.category).sum ≤ 8 then match f (.ref c :: as) I with
    | some (v, J) => k pl (v.toList ++ rest) J
    | none => none
    else none
  | _ => none := id rfl
theorem r_callS (a : Nat) (f : hf_F) (k : hf_K hf_M) (pl st : List Value) (I : hf_M) : c_callS a f k pl st I = match hf_pop a st with
  | some (as, rest) => if (rest.map fun v => v.category).sum ≤ 8 then match f as I with
    | some (v, J) => k pl (v.toList ++ rest) J
    | none => none
    else none
  | _ => none := id rfl
theorem r_fn (a n : Nat) (k : hf_K hf_M) (av : List Value) (I : hf_M) : hf_fn a n k av I = if av.length = a ∧ av.all (fun v => v.category == 1) = true then k (av ++ List.replicate (n - a) (.long 0)) [] I else none := id rfl
