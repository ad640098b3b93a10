set_option maxRecDepth 20000 in
theorem tw27 : Cond.methodLink RX2 3 Lib.objectInit ∈ wtb := wtb_mem 27 (by decide +kernel) (by decide +kernel)
set_option maxRecDepth 20000 in
theorem tw20 : Cond.instanceMethod Lib.objectInit ∈ wtb := wtb_mem 20 (by decide +kernel) (by decide +kernel)
set_option maxRecDepth 20000 in
theorem tw21 : Cond.code Lib.objectInit ⟨#[0xb1]⟩ 1 none ∈ wtb := wtb_mem 21 (by decide +kernel) (by decide +kernel)
set_option maxRecDepth 20000 in
theorem tw68 : Cond.arrayClass .int ∈ wtb := wtb_mem 68 (by decide +kernel) (by decide +kernel)
set_option maxRecDepth 20000 in
theorem tw74 : Cond.methodLink RX6 3 Lib.objectInit ∈ wtb := wtb_mem 74 (by decide +kernel) (by decide +kernel)
set_option maxRecDepth 20000 in
theorem tw91 : Cond.methodLink RX3 3 Lib.objectInit ∈ wtb := wtb_mem 91 (by decide +kernel) (by decide +kernel)
set_option maxRecDepth 20000 in
theorem tw108 : Cond.methodLink RX1 3 Lib.objectInit ∈ wtb := wtb_mem 108 (by decide +kernel) (by decide +kernel)
set_option maxRecDepth 20000 in
theorem tw147 : Cond.methodLink RX5 3 Lib.objectInit ∈ wtb := wtb_mem 147 (by decide +kernel) (by decide +kernel)
set_option maxRecDepth 20000 in
theorem tw176 : Cond.methodLink RX0 3 Lib.objectInit ∈ wtb := wtb_mem 176 (by decide +kernel) (by decide +kernel)
set_option maxRecDepth 20000 in
theorem tw140 : Cond.classLink RX4 30 RX0 ∈ wtb := wtb_mem 140 (by decide +kernel) (by decide +kernel)
set_option maxRecDepth 20000 in
theorem tw172 : Cond.instantiable RX0 10 ∈ wtb := wtb_mem 172 (by decide +kernel) (by decide +kernel)
set_option maxRecDepth 20000 in
theorem tw174 : Cond.instanceMethod yX0_init ∈ wtb := wtb_mem 174 (by decide +kernel) (by decide +kernel)
set_option maxRecDepth 20000 in
theorem tw175 : Cond.code yX0_init cX0_init 1 none ∈ wtb := wtb_mem 175 (by decide +kernel) (by decide +kernel)
set_option maxRecDepth 20000 in
theorem tw139 : Cond.methodLink RX4 3 Lib.objectInit ∈ wtb := wtb_mem 139 (by decide +kernel) (by decide +kernel)
set_option maxRecDepth 20000 in
theorem tw142 : Cond.classLink RX4 36 RX5 ∈ wtb := wtb_mem 142 (by decide +kernel) (by decide +kernel)
set_option maxRecDepth 20000 in
theorem tw143 : Cond.instantiable RX5 4 ∈ wtb := wtb_mem 143 (by decide +kernel) (by decide +kernel)
set_option maxRecDepth 20000 in
theorem tw144 : Cond.methodLink RX4 38 yX5_init ∈ wtb := wtb_mem 144 (by decide +kernel) (by decide +kernel)
set_option maxRecDepth 20000 in
theorem tw145 : Cond.instanceMethod yX5_init ∈ wtb := wtb_mem 145 (by decide +kernel) (by decide +kernel)
set_option maxRecDepth 20000 in
theorem tw146 : Cond.code yX5_init cX5_init 1 none ∈ wtb := wtb_mem 146 (by decide +kernel) (by decide +kernel)
set_option maxRecDepth 20000 in
theorem tw169 : Cond.methodLink RX4 65 yJ7_fill_53178 ∈ wtb := wtb_mem 169 (by decide +kernel) (by decide +kernel)
set_option maxRecDepth 20000 in
theorem tw170 : Cond.static yJ7_fill_53178 ∈ wtb := wtb_mem 170 (by decide +kernel) (by decide +kernel)
set_option maxRecDepth 20000 in
theorem tw8 : Cond.initialized RJ7 ∈ wtb := wtb_mem 8 (by decide +kernel) (by decide +kernel)
set_option maxRecDepth 20000 in
theorem tw171 : Cond.code yJ7_fill_53178 cJ7_fill_53178 4 none ∈ wtb := wtb_mem 171 (by decide +kernel) (by decide +kernel)
set_option maxRecDepth 20000 in
theorem tw134 : Cond.classLink RX7 37 RX4 ∈ wtb := wtb_mem 134 (by decide +kernel) (by decide +kernel)
set_option maxRecDepth 20000 in
theorem tw135 : Cond.instantiable RX4 15 ∈ wtb := wtb_mem 135 (by decide +kernel) (by decide +kernel)
set_option maxRecDepth 20000 in
theorem tw136 : Cond.methodLink RX7 39 yX4_init ∈ wtb := wtb_mem 136 (by decide +kernel) (by decide +kernel)
set_option maxRecDepth 20000 in
theorem tw137 : Cond.instanceMethod yX4_init ∈ wtb := wtb_mem 137 (by decide +kernel) (by decide +kernel)
set_option maxRecDepth 20000 in
theorem tw138 : Cond.code yX4_init cX4_init 2 none ∈ wtb := wtb_mem 138 (by decide +kernel) (by decide +kernel)
set_option maxRecDepth 20000 in
theorem tw19 : Cond.methodLink RX7 3 Lib.objectInit ∈ wtb := wtb_mem 19 (by decide +kernel) (by decide +kernel)
set_option maxRecDepth 20000 in
theorem tw22 : Cond.classLink RX7 9 RX2 ∈ wtb := wtb_mem 22 (by decide +kernel) (by decide +kernel)
set_option maxRecDepth 20000 in
theorem tw23 : Cond.instantiable RX2 8 ∈ wtb := wtb_mem 23 (by decide +kernel) (by decide +kernel)
set_option maxRecDepth 20000 in
theorem tw25 : Cond.instanceMethod yX2_init ∈ wtb := wtb_mem 25 (by decide +kernel) (by decide +kernel)
set_option maxRecDepth 20000 in
theorem tw26 : Cond.code yX2_init cX2_init 1 none ∈ wtb := wtb_mem 26 (by decide +kernel) (by decide +kernel)
set_option maxRecDepth 20000 in
theorem tw69 : Cond.classLink RX7 16 RX6 ∈ wtb := wtb_mem 69 (by decide +kernel) (by decide +kernel)
set_option maxRecDepth 20000 in
theorem tw70 : Cond.instantiable RX6 3 ∈ wtb := wtb_mem 70 (by decide +kernel) (by decide +kernel)
set_option maxRecDepth 20000 in
theorem tw72 : Cond.instanceMethod yX6_init ∈ wtb := wtb_mem 72 (by decide +kernel) (by decide +kernel)
set_option maxRecDepth 20000 in
theorem tw73 : Cond.code yX6_init cX6_init 1 none ∈ wtb := wtb_mem 73 (by decide +kernel) (by decide +kernel)
set_option maxRecDepth 20000 in
theorem tw86 : Cond.classLink RX7 23 RX3 ∈ wtb := wtb_mem 86 (by decide +kernel) (by decide +kernel)
set_option maxRecDepth 20000 in
theorem tw87 : Cond.instantiable RX3 3 ∈ wtb := wtb_mem 87 (by decide +kernel) (by decide +kernel)
set_option maxRecDepth 20000 in
theorem tw89 : Cond.instanceMethod yX3_init ∈ wtb := wtb_mem 89 (by decide +kernel) (by decide +kernel)
set_option maxRecDepth 20000 in
theorem tw90 : Cond.code yX3_init cX3_init 1 none ∈ wtb := wtb_mem 90 (by decide +kernel) (by decide +kernel)
set_option maxRecDepth 20000 in
theorem tw103 : Cond.classLink RX7 30 RX1 ∈ wtb := wtb_mem 103 (by decide +kernel) (by decide +kernel)
set_option maxRecDepth 20000 in
theorem tw104 : Cond.instantiable RX1 8 ∈ wtb := wtb_mem 104 (by decide +kernel) (by decide +kernel)
set_option maxRecDepth 20000 in
theorem tw106 : Cond.instanceMethod yX1_init ∈ wtb := wtb_mem 106 (by decide +kernel) (by decide +kernel)
set_option maxRecDepth 20000 in
theorem tw107 : Cond.code yX1_init cX1_init 1 none ∈ wtb := wtb_mem 107 (by decide +kernel) (by decide +kernel)
set_option maxRecDepth 20000 in
theorem tw679 : Cond.methodLink RX8 1 Lib.objectInit ∈ wtb := wtb_mem 679 (by decide +kernel) (by decide +kernel)
theorem dv_0 : hg_dv 0 10 tyX0 := by
  unfold hg_dv
  decide +kernel
theorem hdy_X0_init : yX0_init.cls ≠ "java/lang/invoke/MethodHandle" ∧ yX0_init.cls ≠ "java/lang/invoke/VarHandle" ∧ (parseMethodDescriptor yX0_init.desc).map (fun d => d.parameters.length) = some 0 := by decide +kernel
theorem dv_5 : hg_dv 5 4 tyX5 := by
  unfold hg_dv
  decide +kernel
theorem hdy_X5_init : yX5_init.cls ≠ "java/lang/invoke/MethodHandle" ∧ yX5_init.cls ≠ "java/lang/invoke/VarHandle" ∧ (parseMethodDescriptor yX5_init.desc).map (fun d => d.parameters.length) = some 0 := by decide +kernel
theorem hdy_J7_fill_53178 : yJ7_fill_53178.cls ≠ "java/lang/invoke/MethodHandle" ∧ yJ7_fill_53178.cls ≠ "java/lang/invoke/VarHandle" ∧ (parseMethodDescriptor yJ7_fill_53178.desc).map (fun d => d.parameters.length) = some 2 := by decide +kernel
theorem dv_4 : hg_dv 4 15 tyX4 := by
  unfold hg_dv
  decide +kernel
theorem hdy_X4_init : yX4_init.cls ≠ "java/lang/invoke/MethodHandle" ∧ yX4_init.cls ≠ "java/lang/invoke/VarHandle" ∧ (parseMethodDescriptor yX4_init.desc).map (fun d => d.parameters.length) = some 0 := by decide +kernel
theorem dv_2 : hg_dv 2 8 tyX2 := by
  unfold hg_dv
  decide +kernel
theorem hdy_X2_init : yX2_init.cls ≠ "java/lang/invoke/MethodHandle" ∧ yX2_init.cls ≠ "java/lang/invoke/VarHandle" ∧ (parseMethodDescriptor yX2_init.desc).map (fun d => d.parameters.length) = some 0 := by decide +kernel
theorem dv_6 : hg_dv 6 3 tyX6 := by
  unfold hg_dv
  decide +kernel
theorem hdy_X6_init : yX6_init.cls ≠ "java/lang/invoke/MethodHandle" ∧ yX6_init.cls ≠ "java/lang/invoke/VarHandle" ∧ (parseMethodDescriptor yX6_init.desc).map (fun d => d.parameters.length) = some 0 := by decide +kernel
theorem dv_3 : hg_dv 3 3 tyX3 := by
  unfold hg_dv
  decide +kernel
theorem hdy_X3_init : yX3_init.cls ≠ "java/lang/invoke/MethodHandle" ∧ yX3_init.cls ≠ "java/lang/invoke/VarHandle" ∧ (parseMethodDescriptor yX3_init.desc).map (fun d => d.parameters.length) = some 0 := by decide +kernel
theorem dv_1 : hg_dv 1 8 tyX1 := by
  unfold hg_dv
  decide +kernel
theorem hdy_X1_init : yX1_init.cls ≠ "java/lang/invoke/MethodHandle" ∧ yX1_init.cls ≠ "java/lang/invoke/VarHandle" ∧ (parseMethodDescriptor yX1_init.desc).map (fun d => d.parameters.length) = some 0 := by decide +kernel
def BJ7_fill_53178_5 (N lim : Nat) : Nat → hf_K hg_M
  | 0 => c_none
  | n + 1 => (c_iload 2 (c_iload 3 (c_icmpge (d_vret lim) (c_aload 0 (c_iload 2 (c_iload 1 (d_iast (c_iinc 2 (1) (c_goto (BJ7_fill_53178_5 N lim n))))))))))
def EJ7_fill_53178 (N lim : Nat) : hf_K hg_M := (c_const (0) (c_istore 2 (c_aload 0 (d_alen (c_istore 3 (BJ7_fill_53178_5 N lim N))))))
def gJ7_fill_53178 (N : Nat) : hg_F := hg_fn 2 4 0 0 (EJ7_fill_53178 N)
def EX2_init (N lim : Nat) : hf_K hg_M := (c_aload 0 (d_objI (c_aload 0 (c_const (256) (d_newa lim (d_putR 2 0 (c_aload 0 (c_const (256) (d_newa lim (d_putR 2 1 (c_aload 0 (c_const (256) (d_newa lim (d_putR 2 2 (c_aload 0 (c_const (256) (d_newa lim (d_putR 2 3 (c_aload 0 (c_const (2) (d_putI 2 4 (c_aload 0 (c_const (2) (d_putI 2 5 (c_aload 0 (c_const (4) (d_putI 2 6 (c_aload 0 (c_const (0) (d_putI 2 7 (d_vret lim)))))))))))))))))))))))))))))))
def gX2_init (N : Nat) : hg_F := hg_fn 1 1 4 1024 (EX2_init N)
def EX6_init (N lim : Nat) : hf_K hg_M := (c_aload 0 (d_objI (c_aload 0 (c_const (16) (d_newa lim (d_putR 6 0 (c_aload 0 (c_const (48) (d_newa lim (d_putR 6 1 (c_aload 0 (c_const (0) (d_putI 6 2 (d_vret lim))))))))))))))
def gX6_init (N : Nat) : hg_F := hg_fn 1 1 2 64 (EX6_init N)
def EX3_init (N lim : Nat) : hf_K hg_M := (c_aload 0 (d_objI (c_aload 0 (c_const (20) (d_newa lim (d_putR 3 0 (c_aload 0 (c_const (20) (d_newa lim (d_putR 3 1 (c_aload 0 (c_const (0) (d_putI 3 2 (d_vret lim))))))))))))))
def gX3_init (N : Nat) : hg_F := hg_fn 1 1 2 40 (EX3_init N)
def EX1_init (N lim : Nat) : hf_K hg_M := (c_aload 0 (d_objI (c_aload 0 (c_const (256) (d_newa lim (d_putR 1 0 (c_aload 0 (c_const (256) (d_newa lim (d_putR 1 1 (c_aload 0 (c_const (256) (d_newa lim (d_putR 1 2 (c_aload 0 (c_const (0) (d_putI 1 3 (c_aload 0 (c_const (0) (d_putI 1 4 (c_aload 0 (c_const (0) (d_putI 1 5 (c_aload 0 (c_const (0) (d_putI 1 6 (c_aload 0 (c_const (0) (d_putI 1 7 (d_vret lim))))))))))))))))))))))))))))))
def gX1_init (N : Nat) : hg_F := hg_fn 1 1 3 768 (EX1_init N)
def EX5_init (N lim : Nat) : hf_K hg_M := (c_aload 0 (d_objI (c_aload 0 (c_const (8) (d_newa lim (d_putR 5 0 (c_aload 0 (c_const (8) (d_newa lim (d_putR 5 1 (c_aload 0 (c_const (8) (d_newa lim (d_putR 5 2 (c_aload 0 (c_const (1) (d_putI 5 3 (c_aload 0 (d_getR 5 1 (c_const (0) (c_const (1) (d_iast (d_vret lim)))))))))))))))))))))))
def gX5_init (N : Nat) : hg_F := hg_fn 1 1 3 24 (EX5_init N)
def EX0_init (N lim : Nat) : hf_K hg_M := (c_aload 0 (d_objI (c_aload 0 (c_const (12) (d_newa lim (d_putR 0 0 (c_aload 0 (c_const (12) (d_newa lim (d_putR 0 1 (c_aload 0 (c_const (0) (d_putI 0 2 (c_aload 0 (c_const (0) (d_putI 0 3 (c_aload 0 (c_const (0) (d_putI 0 4 (c_aload 0 (c_const (0) (d_putI 0 5 (c_aload 0 (c_const (0) (d_putI 0 6 (c_aload 0 (c_const (0) (d_putI 0 7 (c_aload 0 (c_const (0) (d_putI 0 8 (c_aload 0 (c_const (0) (d_putZ 0 9 (d_vret lim)))))))))))))))))))))))))))))))))))
def gX0_init (N : Nat) : hg_F := hg_fn 1 1 2 24 (EX0_init N)
def BX4_init_124 (N lim : Nat) : Nat → hf_K hg_M
  | 0 => c_none
  | n + 1 => (c_iload 1 (c_const (8) (c_icmpge (d_vret lim) (c_aload 0 (d_getR 4 6 (c_iload 1 (d_new 0 lim (c_dup (d_callI 0 lim (gX0_init N) (d_aast 2 0 (c_iinc 1 (1) (c_goto (BX4_init_124 N lim n)))))))))))))
def EX4_init (N lim : Nat) : hf_K hg_M := (c_aload 0 (d_objI (c_aload 0 (c_const (256) (d_newa lim (d_putR 4 0 (c_aload 0 (c_const (256) (d_newa lim (d_putR 4 1 (c_aload 0 (c_const (256) (d_newa lim (d_putR 4 2 (c_aload 0 (c_const (256) (d_newa lim (d_putR 4 3 (c_aload 0 (c_const (256) (d_newa lim (d_putR 4 4 (c_aload 0 (c_const (256) (d_newa lim (d_putR 4 5 (c_aload 0 (c_const (8) (d_newq 2 lim (d_putR 4 6 (c_aload 0 (d_new 5 lim (c_dup (d_callI 0 lim (gX5_init N) (d_putR 4 7 (c_aload 0 (c_const (0) (d_putI 4 8 (c_aload 0 (c_const (0) (d_putI 4 9 (c_aload 0 (c_const (0) (d_putI 4 10 (c_aload 0 (c_const (0) (d_putI 4 11 (c_aload 0 (c_const (0) (d_putI 4 12 (c_aload 0 (c_const (0) (d_putI 4 13 (c_aload 0 (c_const (0) (d_putI 4 14 (c_aload 0 (d_getR 4 5 (c_const (-6) (d_callS 2 lim (gJ7_fill_53178 N) (c_const (0) (c_istore 1 (BX4_init_124 N lim N)))))))))))))))))))))))))))))))))))))))))))))))))))))))))))))))
def gX4_init (N : Nat) : hg_F := hg_fn 1 2 35 1844 (EX4_init N)
def BX7_init_97 (N lim : Nat) : Nat → hf_K hg_M
  | 0 => c_none
  | n + 1 => (c_iload 1 (c_const (3) (c_icmpge (d_vret lim) (c_aload 0 (d_getR 7 6 (c_iload 1 (d_new 4 lim (c_dup (d_callI 0 lim (gX4_init N) (d_aast 1 4 (c_aload 0 (d_getR 7 7 (c_iload 1 (c_const (-6) (d_iast (c_iinc 1 (1) (c_goto (BX7_init_97 N lim n))))))))))))))))))
def EX7_init (N lim : Nat) : hf_K hg_M := (c_aload 0 (d_objI (c_aload 0 (d_new 2 lim (c_dup (d_callI 0 lim (gX2_init N) (d_putR 7 0 (c_aload 0 (d_new 6 lim (c_dup (d_callI 0 lim (gX6_init N) (d_putR 7 1 (c_aload 0 (d_new 3 lim (c_dup (d_callI 0 lim (gX3_init N) (d_putR 7 2 (c_aload 0 (d_new 1 lim (c_dup (d_callI 0 lim (gX1_init N) (d_putR 7 3 (c_aload 0 (d_new 4 lim (c_dup (d_callI 0 lim (gX4_init N) (d_putR 7 4 (c_aload 0 (d_new 4 lim (c_dup (d_callI 0 lim (gX4_init N) (d_putR 7 5 (c_aload 0 (c_const (3) (d_newq 1 lim (d_putR 7 6 (c_aload 0 (c_const (3) (d_newa lim (d_putR 7 7 (c_aload 0 (c_const (0) (d_putI 7 8 (c_aload 0 (c_const (0) (d_putZ 7 9 (c_const (0) (c_istore 1 (BX7_init_97 N lim N)))))))))))))))))))))))))))))))))))))))))))))))))
def gX7_init (N : Nat) : hg_F := hg_fn 1 2 197 11219 (EX7_init N)
def EX8_init (N lim : Nat) : hf_K hg_M := (c_aload 0 (d_objI (c_aload 0 (c_const (2) (d_putI 8 0 (c_aload 0 (c_const (2) (d_putI 8 1 (c_aload 0 (c_const (4) (d_putI 8 2 (c_aload 0 (c_const (256) (d_newa lim (d_putR 8 3 (c_aload 0 (c_const (256) (d_newa lim (d_putR 8 4 (c_aload 0 (c_const (256) (d_newa lim (d_putR 8 5 (c_aload 0 (c_const (256) (d_newa lim (d_putR 8 6 (c_aload 0 (c_const (16) (d_newa lim (d_putR 8 8 (c_aload 0 (c_const (16) (d_newa lim (d_putR 8 9 (c_aload 0 (c_const (16) (d_newa lim (d_putR 8 10 (c_aload 0 (c_const (16) (d_newa lim (d_putR 8 11 (c_aload 0 (c_const (20) (d_newa lim (d_putR 8 14 (c_aload 0 (c_const (20) (d_newa lim (d_putR 8 15 (c_aload 0 (c_const (1824) (d_newa lim (d_putR 8 17 (c_aload 0 (c_const (7296) (d_newa lim (d_putR 8 18 (c_aload 0 (c_const (3) (d_newa lim (d_putR 8 19 (c_aload 0 (c_const (1) (d_putI 8 20 (c_aload 0 (c_const (256) (d_newa lim (d_putR 8 21 (c_aload 0 (c_const (256) (d_newa lim (d_putR 8 22 (c_aload 0 (c_const (256) (d_newa lim (d_putR 8 23 (c_aload 0 (d_beg lim (fX8_begin N) (d_vret lim)))))))))))))))))))))))))))))))))))))))))))))))))))))))))))))))))))))))))))))))))
def gX8_init (N : Nat) : hg_F := hg_fn 1 1 16 11019 (EX8_init N)
