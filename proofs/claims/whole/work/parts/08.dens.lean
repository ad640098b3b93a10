abbrev rmJ6_compare_7cf53 : Room := { frames := 0, cells := 0, slots := 0, locals := 0 }
abbrev SJ6_compare_7cf53 (g : hf_G) (l : Launch) (pc : Nat) (k : hf_K hf_M) : Prop := hf_S hf_KS (hf_H g) hf_c0 (hf_Qm g) g l rmJ6_compare_7cf53 cJ6_compare_7cf53 2 RJ6 (some .int) pc k
def EJ6_compare_7cf53 (N : Nat) : hf_K hf_M := (c_iload 0 (c_iload 1 (c_icmpge (c_iload 0 (c_iload 1 (c_icmpne (c_const (1) c_iret) (c_const (0) (c_goto c_iret))))) (c_const (-1) (c_goto c_iret)))))
def fJ6_compare_7cf53 (N : Nat) : hf_F := hf_fn 2 2 (EJ6_compare_7cf53 N)
abbrev rmX0_endAct : Room := { frames := 0, cells := 0, slots := 0, locals := 0 }
abbrev SX0_endAct (g : hf_G) (l : Launch) (pc : Nat) (k : hf_K hf_M) : Prop := hf_S hf_KS (hf_H g) hf_c0 (hf_Qm g) g l rmX0_endAct cX0_endAct 2 RX0 none pc k
def BX0_endAct_2 (N : Nat) : Nat → hf_K hf_M
  | 0 => c_none
  | n + 1 => (c_iload 1 (c_aload 0 (c_getI 0 2 (c_icmpge (c_aload 0 (c_dup (c_getI 0 2 (c_const (1) (c_isub (c_putI 0 2 (c_aload 0 (c_const (0) (c_putI 0 3 c_vret))))))))) (c_aload 0 (c_getR 0 0 (c_iload 1 (c_const (1) (c_isub (c_aload 0 (c_getR 0 0 (c_iload 1 (c_iald (c_iast (c_aload 0 (c_getR 0 1 (c_iload 1 (c_const (1) (c_isub (c_aload 0 (c_getR 0 1 (c_iload 1 (c_iald (c_iast (c_iinc 1 (1) (c_goto (BX0_endAct_2 N n)))))))))))))))))))))))))))
def EX0_endAct (N : Nat) : hf_K hf_M := (c_const (1) (c_istore 1 (BX0_endAct_2 N N)))
def fX0_endAct (N : Nat) : hf_F := hf_fn 1 2 (EX0_endAct N)
abbrev rmX0_cutOn : Room := { frames := 0, cells := 0, slots := 0, locals := 0 }
abbrev SX0_cutOn (g : hf_G) (l : Launch) (pc : Nat) (k : hf_K hf_M) : Prop := hf_S hf_KS (hf_H g) hf_c0 (hf_Qm g) g l rmX0_cutOn cX0_cutOn 2 RX0 (some .boolean) pc k
def EX0_cutOn (N : Nat) : hf_K hf_M := (c_aload 1 (c_getR 4 0 (c_aload 0 (c_getI 0 4 (c_iald (c_const (1) (c_icmpeq (c_aload 0 (c_getI 0 3 (c_const (2) (c_icmpge (c_aload 1 (c_getR 4 0 (c_aload 0 (c_getI 0 4 (c_const (4) (c_iast (c_aload 1 (c_getR 4 1 (c_aload 0 (c_getI 0 4 (c_const (0) (c_iast (c_aload 0 (c_dup (c_getI 0 7 (c_const (1) (c_iadd (c_putI 0 7 (c_const (1) c_zret))))))))))))))))))) (c_const (0) c_zret))))) (c_const (1) c_zret))))))))
def fX0_cutOn (N : Nat) : hf_F := hf_fn 2 2 (EX0_cutOn N)
abbrev rmX2_off : Room := { frames := 0, cells := 0, slots := 0, locals := 0 }
abbrev SX2_off (g : hf_G) (l : Launch) (pc : Nat) (k : hf_K hf_M) : Prop := hf_S hf_KS (hf_H g) hf_c0 (hf_Qm g) g l rmX2_off cX2_off 6 RX2 (some .int) pc k
def EX2_off (N : Nat) : hf_K hf_M := (c_iload 1 (c_aload 0 (c_getI 2 5 (c_idiv (c_iload 3 (c_gets 1 (c_iload 2 (c_iald (c_imul (c_iadd (c_istore 4 (c_iload 1 (c_aload 0 (c_getI 2 5 (c_irem (c_iload 3 (c_gets 2 (c_iload 2 (c_iald (c_imul (c_iadd (c_istore 5 (c_iload 4 (c_iflt (c_const (-1) c_iret) (c_iload 4 (c_aload 0 (c_getI 2 4 (c_icmpge (c_const (-1) c_iret) (c_iload 5 (c_iflt (c_const (-1) c_iret) (c_iload 5 (c_aload 0 (c_getI 2 5 (c_icmplt (c_iload 4 (c_aload 0 (c_getI 2 5 (c_imul (c_iload 5 (c_iadd c_iret)))))) (c_const (-1) c_iret)))))))))))))))))))))))))))))))))))
def fX2_off (N : Nat) : hf_F := hf_fn 4 6 (EX2_off N)
abbrev rmX0_hottestAbout : Room := { frames := 1, cells := 0, slots := 0, locals := 25 }
abbrev SX0_hottestAbout (g : hf_G) (l : Launch) (pc : Nat) (k : hf_K hf_M) : Prop := hf_S hf_KS (hf_H g) hf_c0 (hf_Qm g) g l rmX0_hottestAbout cX0_hottestAbout 7 RX0 (some .int) pc k
def BX0_hottestAbout_88 (N : Nat) (k5 : hf_K hf_M) : hf_K hf_M := (c_istore 6 (c_iload 6 (c_ifeq (c_iload 3 (c_istore 3 (c_iinc 4 (1) (c_goto k5)))) (c_iload 5 (c_goto (c_istore 3 (c_iinc 4 (1) (c_goto k5))))))))
def BX0_hottestAbout_87 (N : Nat) (k5 : hf_K hf_M) : hf_K hf_M := (c_const (0) (BX0_hottestAbout_88 N k5))
def BX0_hottestAbout_83 (N : Nat) (k5 : hf_K hf_M) : hf_K hf_M := (c_const (1) (c_goto (BX0_hottestAbout_88 N k5)))
def BX0_hottestAbout_5 (N : Nat) : Nat → hf_K hf_M
  | 0 => c_none
  | n + 1 => (c_iload 4 (c_const (8) (c_icmpge (c_iload 3 c_iret) (c_aload 2 (c_aload 0 (c_getI 0 4 (c_iload 4 (c_const (1) (c_callV 2 3 (fX2_off N) (c_istore 5 (c_iload 5 (c_iflt (c_iinc 4 (1) (c_goto (BX0_hottestAbout_5 N n))) (c_aload 1 (c_getR 4 0 (c_iload 5 (c_iald (c_const (2) (c_icmpne (c_iinc 4 (1) (c_goto (BX0_hottestAbout_5 N n))) (c_iload 3 (c_iflt (BX0_hottestAbout_83 N (BX0_hottestAbout_5 N n)) (c_aload 1 (c_getR 4 3 (c_iload 5 (c_iald (c_aload 1 (c_getR 4 3 (c_iload 3 (c_iald (c_icmpgt (BX0_hottestAbout_83 N (BX0_hottestAbout_5 N n)) (c_aload 1 (c_getR 4 3 (c_iload 5 (c_iald (c_aload 1 (c_getR 4 3 (c_iload 3 (c_iald (c_icmpne (BX0_hottestAbout_87 N (BX0_hottestAbout_5 N n)) (c_iload 5 (c_iload 3 (c_icmpge (BX0_hottestAbout_87 N (BX0_hottestAbout_5 N n)) (BX0_hottestAbout_83 N (BX0_hottestAbout_5 N n)))))))))))))))))))))))))))))))))))))))))))
def EX0_hottestAbout (N : Nat) : hf_K hf_M := (c_const (-1) (c_istore 3 (c_const (0) (c_istore 4 (BX0_hottestAbout_5 N N)))))
def fX0_hottestAbout (N : Nat) : hf_F := hf_fn 3 7 (EX0_hottestAbout N)
abbrev rmX0_douse : Room := { frames := 2, cells := 0, slots := 0, locals := 51 }
abbrev SX0_douse (g : hf_G) (l : Launch) (pc : Nat) (k : hf_K hf_M) : Prop := hf_S hf_KS (hf_H g) hf_c0 (hf_Qm g) g l rmX0_douse cX0_douse 4 RX0 none pc k
def EX0_douse (N : Nat) : hf_K hf_M := (c_aload 0 (c_getI 0 5 (c_ifgt (c_aload 0 (c_aload 1 (c_aload 2 (c_callV 0 2 (fX0_hottestAbout N) (c_istore 3 (c_iload 3 (c_ifge (c_aload 1 (c_getR 4 0 (c_iload 3 (c_const (5) (c_iast (c_aload 1 (c_getR 4 3 (c_iload 3 (c_const (0) (c_iast (c_aload 0 (c_dup (c_getI 0 5 (c_const (1) (c_isub (c_putI 0 5 (c_aload 0 (c_dup (c_getI 0 8 (c_const (1) (c_iadd (c_putI 0 8 c_vret)))))))))))))))))))))) c_vret))))))) c_vret)))
def fX0_douse (N : Nat) : hf_F := hf_fn 3 4 (EX0_douse N)
abbrev rmX0_fill : Room := { frames := 1, cells := 0, slots := 0, locals := 25 }
abbrev SX0_fill (g : hf_G) (l : Launch) (pc : Nat) (k : hf_K hf_M) : Prop := hf_S hf_KS (hf_H g) hf_c0 (hf_Qm g) g l rmX0_fill cX0_fill 5 RX0 none pc k
def BX0_fill_20 (N : Nat) : Nat → hf_K hf_M
  | 0 => c_none
  | n + 1 => (c_iload 3 (c_const (8) (c_icmpge (c_aload 0 (c_iload 2 (c_ifeq (c_aload 0 (c_getI 0 5 (c_putI 0 5 c_vret))) (c_const (40) (c_goto (c_putI 0 5 c_vret)))))) (c_aload 1 (c_aload 0 (c_getI 0 4 (c_iload 3 (c_const (1) (c_callV 2 3 (fX2_off N) (c_istore 4 (c_iload 2 (c_ifne (c_const (1) (c_goto (c_istore 2 (c_iinc 3 (1) (c_goto (BX0_fill_20 N n)))))) (c_iload 4 (c_iflt (c_const (0) (c_istore 2 (c_iinc 3 (1) (c_goto (BX0_fill_20 N n))))) (c_aload 1 (c_getR 2 0 (c_iload 4 (c_iald (c_ifne (c_const (0) (c_istore 2 (c_iinc 3 (1) (c_goto (BX0_fill_20 N n))))) (c_const (1) (c_goto (c_istore 2 (c_iinc 3 (1) (c_goto (BX0_fill_20 N n)))))))))))))))))))))))))
def BX0_fill_17 (N : Nat) : hf_K hf_M := (c_istore 2 (c_const (0) (c_istore 3 (BX0_fill_20 N N))))
def EX0_fill (N : Nat) : hf_K hf_M := (c_aload 1 (c_getR 2 0 (c_aload 0 (c_getI 0 4 (c_iald (c_ifne (c_const (0) (BX0_fill_17 N)) (c_const (1) (c_goto (BX0_fill_17 N)))))))))
def fX0_fill (N : Nat) : hf_F := hf_fn 2 5 (EX0_fill N)
abbrev rmX2_nearer : Room := { frames := 1, cells := 0, slots := 0, locals := 21 }
abbrev SX2_nearer (g : hf_G) (l : Launch) (pc : Nat) (k : hf_K hf_M) : Prop := hf_S hf_KS (hf_H g) hf_c0 (hf_Qm g) g l rmX2_nearer cX2_nearer 5 RX2 (some .int) pc k
def EX2_nearer (N : Nat) : hf_K hf_M := (c_iload 1 (c_aload 0 (c_getI 2 5 (c_idiv (c_istore 3 (c_iload 1 (c_aload 0 (c_getI 2 5 (c_irem (c_istore 4 (c_iload 3 (c_iload 2 (c_aload 0 (c_getI 2 5 (c_idiv (c_iload 3 (c_callS 2 (fJ6_compare_7cf53 N) (c_iadd (c_istore 3 (c_iload 4 (c_iload 2 (c_aload 0 (c_getI 2 5 (c_irem (c_iload 4 (c_callS 2 (fJ6_compare_7cf53 N) (c_iadd (c_istore 4 (c_iload 3 (c_aload 0 (c_getI 2 5 (c_imul (c_iload 4 (c_iadd c_iret))))))))))))))))))))))))))))))))))
def fX2_nearer (N : Nat) : hf_F := hf_fn 3 5 (EX2_nearer N)
abbrev rmX0_goOn : Room := { frames := 2, cells := 0, slots := 0, locals := 45 }
abbrev SX0_goOn (g : hf_G) (l : Launch) (pc : Nat) (k : hf_K hf_M) : Prop := hf_S hf_KS (hf_H g) hf_c0 (hf_Qm g) g l rmX0_goOn cX0_goOn 4 RX0 (some .boolean) pc k
def BX0_goOn_44 (N : Nat) : hf_K hf_M := (c_aload 0 (c_dup (c_getI 0 6 (c_const (1) (c_iadd (c_putI 0 6 (c_const (1) c_zret)))))))
def EX0_goOn (N : Nat) : hf_K hf_M := (c_aload 2 (c_aload 0 (c_getI 0 4 (c_aload 0 (c_getR 0 1 (c_const (0) (c_iald (c_callV 2 2 (fX2_nearer N) (c_istore 3 (c_iload 3 (c_aload 0 (c_getI 0 4 (c_icmpne (c_aload 1 (c_getR 4 0 (c_iload 3 (c_iald (c_const (2) (c_icmpeq (BX0_goOn_44 N) (c_aload 2 (c_getR 2 0 (c_iload 3 (c_iald (c_ifne (c_aload 0 (c_iload 3 (c_putI 0 4 (c_aload 0 (c_getI 0 4 (c_aload 0 (c_getR 0 1 (c_const (0) (c_iald (c_icmpne (c_const (0) c_zret) (c_const (1) (c_goto c_zret)))))))))))) (BX0_goOn_44 N)))))))))))) (c_const (1) c_zret))))))))))))))
def fX0_goOn (N : Nat) : hf_F := hf_fn 3 4 (EX0_goOn N)
abbrev rmX4_kindle : Room := { frames := 0, cells := 0, slots := 0, locals := 0 }
abbrev SX4_kindle (g : hf_G) (l : Launch) (pc : Nat) (k : hf_K hf_M) : Prop := hf_S hf_KS (hf_H g) hf_c0 (hf_Qm g) g l rmX4_kindle cX4_kindle 2 RX4 none pc k
def EX4_kindle (N : Nat) : hf_K hf_M := (c_aload 0 (c_getR 4 0 (c_iload 1 (c_iald (c_const (1) (c_icmpne c_vret (c_aload 0 (c_getR 4 0 (c_iload 1 (c_const (2) (c_iast (c_aload 0 (c_getR 4 5 (c_iload 1 (c_aload 0 (c_getI 4 9 (c_iast c_vret)))))))))))))))))
def fX4_kindle (N : Nat) : hf_F := hf_fn 2 2 (EX4_kindle N)
abbrev rmX0_isOver : Room := { frames := 3, cells := 0, slots := 0, locals := 74 }
abbrev SX0_isOver (g : hf_G) (l : Launch) (pc : Nat) (k : hf_K hf_M) : Prop := hf_S hf_KS (hf_H g) hf_c0 (hf_Qm g) g l rmX0_isOver cX0_isOver 3 RX0 (some .boolean) pc k
def EX0_isOver (N : Nat) : hf_K hf_M := (c_aload 0 (c_getR 0 0 (c_const (0) (c_iald (c_tsw [(c_aload 0 (c_getI 0 3 (c_aload 0 (c_getR 0 1 (c_const (0) (c_iald (c_icmplt (c_const (0) c_zret) (c_const (1) (c_goto c_zret))))))))), (c_aload 0 (c_aload 1 (c_aload 2 (c_callV 0 2 (fX0_goOn N) c_zret)))), (c_aload 0 (c_aload 1 (c_callV 0 1 (fX0_cutOn N) c_zret))), (c_aload 0 (c_aload 1 (c_aload 2 (c_callV 0 2 (fX0_douse N) (c_const (1) c_zret))))), (c_aload 0 (c_aload 2 (c_callV 0 1 (fX0_fill N) (c_const (1) c_zret))))] (c_aload 1 (c_aload 0 (c_getI 0 4 (c_callV 4 1 (fX4_kindle N) (c_const (1) c_zret))))))))))
def fX0_isOver (N : Nat) : hf_F := hf_fn 3 3 (EX0_isOver N)
abbrev rmX0_act : Room := { frames := 4, cells := 0, slots := 0, locals := 96 }
abbrev SX0_act (g : hf_G) (l : Launch) (pc : Nat) (k : hf_K hf_M) : Prop := hf_S hf_KS (hf_H g) hf_c0 (hf_Qm g) g l rmX0_act cX0_act 3 RX0 none pc k
def EX0_act (N : Nat) : hf_K hf_M := (c_aload 0 (c_getI 0 2 (c_ifne (c_aload 0 (c_dup (c_getI 0 3 (c_const (1) (c_iadd (c_putI 0 3 (c_aload 0 (c_aload 1 (c_aload 2 (c_callV 0 2 (fX0_isOver N) (c_ifeq c_vret (c_aload 0 (c_callV 0 0 (fX0_endAct N) c_vret))))))))))))) c_vret)))
def fX0_act (N : Nat) : hf_F := hf_fn 3 3 (EX0_act N)
abbrev rmX0_addAct : Room := { frames := 0, cells := 0, slots := 0, locals := 0 }
abbrev SX0_addAct (g : hf_G) (l : Launch) (pc : Nat) (k : hf_K hf_M) : Prop := hf_S hf_KS (hf_H g) hf_c0 (hf_Qm g) g l rmX0_addAct cX0_addAct 3 RX0 none pc k
def EX0_addAct (N : Nat) : hf_K hf_M := (c_aload 0 (c_getR 0 0 (c_aload 0 (c_getI 0 2 (c_iload 1 (c_iast (c_aload 0 (c_getR 0 1 (c_aload 0 (c_getI 0 2 (c_iload 2 (c_iast (c_aload 0 (c_dup (c_getI 0 2 (c_const (1) (c_iadd (c_putI 0 2 c_vret))))))))))))))))))
def fX0_addAct (N : Nat) : hf_F := hf_fn 3 3 (EX0_addAct N)
abbrev rmX0_dropPlan : Room := { frames := 0, cells := 0, slots := 0, locals := 0 }
abbrev SX0_dropPlan (g : hf_G) (l : Launch) (pc : Nat) (k : hf_K hf_M) : Prop := hf_S hf_KS (hf_H g) hf_c0 (hf_Qm g) g l rmX0_dropPlan cX0_dropPlan 1 RX0 none pc k
def EX0_dropPlan (N : Nat) : hf_K hf_M := (c_aload 0 (c_const (0) (c_putI 0 2 (c_aload 0 (c_const (0) (c_putI 0 3 c_vret))))))
def fX0_dropPlan (N : Nat) : hf_F := hf_fn 1 1 (EX0_dropPlan N)
abbrev rmX0_begin : Room := { frames := 1, cells := 0, slots := 0, locals := 20 }
abbrev SX0_begin (g : hf_G) (l : Launch) (pc : Nat) (k : hf_K hf_M) : Prop := hf_S hf_KS (hf_H g) hf_c0 (hf_Qm g) g l rmX0_begin cX0_begin 2 RX0 none pc k
def EX0_begin (N : Nat) : hf_K hf_M := (c_aload 0 (c_callV 0 0 (fX0_dropPlan N) (c_aload 0 (c_iload 1 (c_putI 0 4 (c_aload 0 (c_const (10) (c_putI 0 5 (c_aload 0 (c_const (0) (c_putI 0 6 (c_aload 0 (c_const (0) (c_putI 0 7 (c_aload 0 (c_const (0) (c_putI 0 8 (c_aload 0 (c_const (0) (c_putZ 0 9 c_vret))))))))))))))))))))
def fX0_begin (N : Nat) : hf_F := hf_fn 2 2 (EX0_begin N)
abbrev rmX0_copyFrom : Room := { frames := 1, cells := 0, slots := 0, locals := 60 }
abbrev SX0_copyFrom (g : hf_G) (l : Launch) (pc : Nat) (k : hf_K hf_M) : Prop := hf_S hf_KS (hf_H g) hf_c0 (hf_Qm g) g l rmX0_copyFrom cX0_copyFrom 2 RX0 none pc k
def EX0_copyFrom (N : Nat) : hf_K hf_M := (c_aload 1 (c_getR 0 0 (c_const (0) (c_aload 0 (c_getR 0 0 (c_const (0) (c_const (12) (c_copy (c_aload 1 (c_getR 0 1 (c_const (0) (c_aload 0 (c_getR 0 1 (c_const (0) (c_const (12) (c_copy (c_aload 0 (c_aload 1 (c_getI 0 2 (c_putI 0 2 (c_aload 0 (c_aload 1 (c_getI 0 3 (c_putI 0 3 (c_aload 0 (c_aload 1 (c_getI 0 4 (c_putI 0 4 (c_aload 0 (c_aload 1 (c_getI 0 5 (c_putI 0 5 (c_aload 0 (c_aload 1 (c_getI 0 6 (c_putI 0 6 (c_aload 0 (c_aload 1 (c_getI 0 7 (c_putI 0 7 (c_aload 0 (c_aload 1 (c_getI 0 8 (c_putI 0 8 (c_aload 0 (c_aload 1 (c_getI 0 9 (c_putZ 0 9 c_vret))))))))))))))))))))))))))))))))))))))))))))))))
def fX0_copyFrom (N : Nat) : hf_F := hf_fn 2 2 (EX0_copyFrom N)
abbrev rmX1_blowStrip : Room := { frames := 1, cells := 0, slots := 0, locals := 25 }
abbrev SX1_blowStrip (g : hf_G) (l : Launch) (pc : Nat) (k : hf_K hf_M) : Prop := hf_S hf_KS (hf_H g) hf_c0 (hf_Qm g) g l rmX1_blowStrip cX1_blowStrip 11 RX1 none pc k
def BX1_blowStrip_123 (N : Nat) (k38 : hf_K hf_M) : hf_K hf_M := (c_istore 10 (c_iload 10 (c_iflt (c_iinc 6 (1) (c_goto k38)) (c_aload 0 (c_getR 1 2 (c_iload 10 (c_dup2 (c_iald (c_iload 8 (c_iadd (c_iast (c_aload 1 (c_dup (c_getI 4 12 (c_iload 10 (c_iload 4 (c_icmplt (c_const (1) (c_goto (c_iadd (c_putI 4 12 (c_iinc 6 (1) (c_goto k38)))))) (c_iload 10 (c_iload 5 (c_icmplt (c_const (0) (c_iadd (c_putI 4 12 (c_iinc 6 (1) (c_goto k38))))) (c_const (1) (c_goto (c_iadd (c_putI 4 12 (c_iinc 6 (1) (c_goto k38))))))))))))))))))))))))))
def BX1_blowStrip_77 (N : Nat) (k38 : hf_K hf_M) : hf_K hf_M := (c_istore 8 (c_iload 7 (c_iload 8 (c_isub (c_istore 9 (c_aload 0 (c_getR 1 2 (c_iload 6 (c_dup2 (c_iald (c_iload 9 (c_iload 9 (c_const (4) (c_idiv (c_isub (c_iadd (c_iast (c_iload 8 (c_ifle (c_const (-1) (BX1_blowStrip_123 N k38)) (c_aload 2 (c_iload 6 (c_aload 0 (c_getI 1 5 (c_const (1) (c_callV 2 3 (fX2_off N) (c_goto (BX1_blowStrip_123 N k38)))))))))))))))))))))))))))
def BX1_blowStrip_38 (N : Nat) : Nat → hf_K hf_M
  | 0 => c_none
  | n + 1 => (c_iload 6 (c_iload 5 (c_icmpge c_vret (c_aload 1 (c_getR 4 4 (c_iload 6 (c_iald (c_aload 0 (c_getR 1 0 (c_iload 6 (c_iald (c_iadd (c_istore 7 (c_aload 0 (c_getI 1 6 (c_ifle (c_const (0) (BX1_blowStrip_77 N (BX1_blowStrip_38 N n))) (c_iload 7 (c_const (2) (c_idiv (c_goto (BX1_blowStrip_77 N (BX1_blowStrip_38 N n))))))))))))))))))))))
def EX1_blowStrip (N : Nat) : hf_K hf_M := (c_aload 1 (c_getR 4 7 (c_getR 5 0 (c_iload 3 (c_iald (c_aload 2 (c_getI 2 5 (c_imul (c_istore 4 (c_aload 1 (c_getR 4 7 (c_getR 5 1 (c_iload 3 (c_iald (c_const (1) (c_iadd (c_aload 2 (c_getI 2 5 (c_imul (c_istore 5 (c_iload 4 (c_istore 6 (BX1_blowStrip_38 N N)))))))))))))))))))))))
def fX1_blowStrip (N : Nat) : hf_F := hf_fn 4 11 (EX1_blowStrip N)
abbrev rmX1_lot : Room := { frames := 0, cells := 0, slots := 0, locals := 0 }
abbrev SX1_lot (g : hf_G) (l : Launch) (pc : Nat) (k : hf_K hf_M) : Prop := hf_S hf_KS (hf_H g) hf_c0 (hf_Qm g) g l rmX1_lot cX1_lot 4 RX1 (some .int) pc k
def EX1_lot (N : Nat) : hf_K hf_M := (c_aload 0 (c_getI 1 4 (c_const (69069) (c_imul (c_aload 0 (c_getI 1 3 (c_const (40503) (c_imul (c_iadd (c_iload 1 (c_const (2654435) (c_imul (c_iadd (c_iload 2 (c_const (9973) (c_imul (c_iadd (c_istore 3 (c_iload 3 (c_iload 3 (c_const (15) (c_iushr (c_ixor (c_const (739982445) (c_imul (c_istore 3 (c_iload 3 (c_iload 3 (c_const (15) (c_iushr (c_ixor (c_const (739982445) (c_imul (c_istore 3 (c_iload 3 (c_const (16) (c_iushr c_iret)))))))))))))))))))))))))))))))))))))
def fX1_lot (N : Nat) : hf_F := hf_fn 3 4 (EX1_lot N)
abbrev rmX1_burnDown : Room := { frames := 1, cells := 0, slots := 0, locals := 23 }
abbrev SX1_burnDown (g : hf_G) (l : Launch) (pc : Nat) (k : hf_K hf_M) : Prop := hf_S hf_KS (hf_H g) hf_c0 (hf_Qm g) g l rmX1_burnDown cX1_burnDown 3 RX1 none pc k
def EX1_burnDown (N : Nat) : hf_K hf_M := (c_aload 1 (c_getR 4 1 (c_iload 2 (c_dup2 (c_iald (c_aload 0 (c_getR 1 0 (c_iload 2 (c_iald (c_isub (c_iast (c_aload 1 (c_getR 4 1 (c_iload 2 (c_iald (c_ifne (c_aload 0 (c_getI 1 7 (c_aload 0 (c_getR 1 0 (c_iload 2 (c_iald (c_icmple c_vret (c_aload 0 (c_iload 2 (c_const (2) (c_callV 1 2 (fX1_lot N) (c_const (10) (c_irem (c_aload 0 (c_getI 1 7 (c_icmpge c_vret (c_aload 1 (c_getR 4 0 (c_iload 2 (c_const (5) (c_iast c_vret))))))))))))))))))))) (c_aload 1 (c_getR 4 0 (c_iload 2 (c_const (3) (c_iast (c_goto c_vret))))))))))))))))))))))
def fX1_burnDown (N : Nat) : hf_F := hf_fn 3 3 (EX1_burnDown N)
abbrev rmX1_giveHeat : Room := { frames := 1, cells := 0, slots := 0, locals := 60 }
abbrev SX1_giveHeat (g : hf_G) (l : Launch) (pc : Nat) (k : hf_K hf_M) : Prop := hf_S hf_KS (hf_H g) hf_c0 (hf_Qm g) g l rmX1_giveHeat cX1_giveHeat 11 RX1 (some .int) pc k
def BX1_giveHeat_6 (N : Nat) : Nat → hf_K hf_M
  | 0 => c_none
  | n + 1 => (c_iload 6 (c_const (8) (c_icmpge (c_iload 5 c_iret) (c_aload 1 (c_iload 2 (c_iload 6 (c_const (1) (c_callV 2 3 (fX2_off N) (c_istore 7 (c_iload 7 (c_iflt (c_iinc 6 (1) (c_goto (BX1_giveHeat_6 N n))) (c_const (-6) (c_const (6) (c_aload 1 (c_getR 2 3 (c_iload 7 (c_iald (c_aload 1 (c_getR 2 3 (c_iload 2 (c_iald (c_isub (c_mmin (c_mmax (c_istore 8 (c_aload 0 (c_getI 1 6 (c_gets 3 (c_iload 6 (c_aload 0 (c_getI 1 5 (c_isub (c_const (7) (c_iand (c_iald (c_imul (c_istore 9 (c_aload 0 (c_getR 1 0 (c_iload 2 (c_iald (c_const (8) (c_iload 9 (c_iadd (c_iload 8 (c_iadd (c_imul (c_const (8) (c_idiv (c_istore 10 (c_iload 10 (c_ifle (c_iinc 6 (1) (c_goto (BX1_giveHeat_6 N n))) (c_aload 0 (c_getR 1 1 (c_iload 7 (c_dup2 (c_iald (c_iload 10 (c_iadd (c_iast (c_iload 5 (c_iload 7 (c_iload 3 (c_icmplt (c_const (1) (c_goto (c_iadd (c_istore 5 (c_iinc 6 (1) (c_goto (BX1_giveHeat_6 N n))))))) (c_iload 7 (c_iload 4 (c_icmplt (c_const (0) (c_iadd (c_istore 5 (c_iinc 6 (1) (c_goto (BX1_giveHeat_6 N n)))))) (c_const (1) (c_goto (c_iadd (c_istore 5 (c_iinc 6 (1) (c_goto (BX1_giveHeat_6 N n))))))))))))))))))))))))))))))))))))))))))))))))))))))))))))))))))))))))))
def EX1_giveHeat (N : Nat) : hf_K hf_M := (c_const (0) (c_istore 5 (c_const (0) (c_istore 6 (BX1_giveHeat_6 N N)))))
def fX1_giveHeat (N : Nat) : hf_F := hf_fn 5 11 (EX1_giveHeat N)
abbrev rmX1_throwEmber : Room := { frames := 1, cells := 0, slots := 0, locals := 25 }
abbrev SX1_throwEmber (g : hf_G) (l : Launch) (pc : Nat) (k : hf_K hf_M) : Prop := hf_S hf_KS (hf_H g) hf_c0 (hf_Qm g) g l rmX1_throwEmber cX1_throwEmber 7 RX1 (some .int) pc k
def EX1_throwEmber (N : Nat) : hf_K hf_M := (c_aload 2 (c_getR 2 0 (c_iload 3 (c_iald (c_const (3) (c_icmpne (c_const (0) c_iret) (c_aload 0 (c_getI 1 6 (c_const (2) (c_icmplt (c_const (0) c_iret) (c_aload 0 (c_iload 3 (c_const (0) (c_callV 1 2 (fX1_lot N) (c_const (100) (c_irem (c_const (6) (c_aload 0 (c_getI 1 6 (c_imul (c_icmplt (c_aload 2 (c_iload 3 (c_aload 0 (c_getI 1 5 (c_const (2) (c_aload 0 (c_iload 3 (c_const (1) (c_callV 1 2 (fX1_lot N) (c_const (3) (c_irem (c_iadd (c_callV 2 3 (fX2_off N) (c_istore 6 (c_iload 6 (c_ifge (c_aload 0 (c_getR 1 1 (c_iload 6 (c_dup2 (c_iald (c_const (40) (c_iadd (c_iast (c_aload 1 (c_dup (c_getI 4 10 (c_const (1) (c_iadd (c_putI 4 10 (c_iload 6 (c_iload 4 (c_icmplt (c_const (1) (c_goto c_iret)) (c_iload 6 (c_iload 5 (c_icmplt (c_const (0) c_iret) (c_const (1) (c_goto c_iret)))))))))))))))))))))) (c_const (0) c_iret))))))))))))))))) (c_const (0) c_iret))))))))))))))))))))))
def fX1_throwEmber (N : Nat) : hf_F := hf_fn 6 7 (EX1_throwEmber N)
abbrev rmX1_burnStrip : Room := { frames := 2, cells := 0, slots := 0, locals := 90 }
abbrev SX1_burnStrip (g : hf_G) (l : Launch) (pc : Nat) (k : hf_K hf_M) : Prop := hf_S hf_KS (hf_H g) hf_c0 (hf_Qm g) g l rmX1_burnStrip cX1_burnStrip 7 RX1 none pc k
def BX1_burnStrip_38 (N : Nat) : Nat → hf_K hf_M
  | 0 => c_none
  | n + 1 => (c_iload 6 (c_iload 5 (c_icmpge c_vret (c_aload 0 (c_getR 1 0 (c_iload 6 (c_const (0) (c_iast (c_aload 1 (c_getR 4 0 (c_iload 6 (c_iald (c_const (2) (c_icmpne (c_iinc 6 (1) (c_goto (BX1_burnStrip_38 N n))) (c_aload 1 (c_getR 4 7 (c_getR 5 2 (c_iload 3 (c_dup2 (c_iald (c_const (4) (c_iadd (c_iast (c_aload 0 (c_getR 1 0 (c_iload 6 (c_gets 4 (c_aload 2 (c_getR 2 0 (c_iload 6 (c_iald (c_iald (c_aload 1 (c_getR 4 1 (c_iload 6 (c_iald (c_mmin (c_iast (c_aload 1 (c_dup (c_getI 4 11 (c_aload 0 (c_getR 1 0 (c_iload 6 (c_iald (c_iadd (c_putI 4 11 (c_aload 1 (c_dup (c_getI 4 12 (c_aload 0 (c_aload 2 (c_iload 6 (c_iload 4 (c_iload 5 (c_callV 1 4 (fX1_giveHeat N) (c_aload 0 (c_aload 1 (c_aload 2 (c_iload 6 (c_iload 4 (c_iload 5 (c_callV 1 5 (fX1_throwEmber N) (c_iadd (c_iadd (c_putI 4 12 (c_iinc 6 (1) (c_goto (BX1_burnStrip_38 N n)))))))))))))))))))))))))))))))))))))))))))))))))))))))))))))))))))))
def EX1_burnStrip (N : Nat) : hf_K hf_M := (c_aload 1 (c_getR 4 7 (c_getR 5 0 (c_iload 3 (c_iald (c_aload 2 (c_getI 2 5 (c_imul (c_istore 4 (c_aload 1 (c_getR 4 7 (c_getR 5 1 (c_iload 3 (c_iald (c_const (1) (c_iadd (c_aload 2 (c_getI 2 5 (c_imul (c_istore 5 (c_iload 4 (c_istore 6 (BX1_burnStrip_38 N N)))))))))))))))))))))))
def fX1_burnStrip (N : Nat) : hf_F := hf_fn 4 7 (EX1_burnStrip N)
abbrev rmX1_dryAndCatch : Room := { frames := 1, cells := 0, slots := 0, locals := 60 }
abbrev SX1_dryAndCatch (g : hf_G) (l : Launch) (pc : Nat) (k : hf_K hf_M) : Prop := hf_S hf_KS (hf_H g) hf_c0 (hf_Qm g) g l rmX1_dryAndCatch cX1_dryAndCatch 5 RX1 none pc k
def EX1_dryAndCatch (N : Nat) : hf_K hf_M := (c_const (0) (c_aload 1 (c_getR 4 2 (c_iload 3 (c_iald (c_aload 0 (c_getR 1 1 (c_iload 3 (c_iald (c_const (4) (c_idiv (c_isub (c_mmax (c_istore 4 (c_aload 1 (c_getR 4 2 (c_iload 3 (c_const (100) (c_iload 4 (c_const (3) (c_aload 0 (c_getI 1 7 (c_imul (c_iadd (c_mmin (c_iast (c_aload 1 (c_getR 4 3 (c_iload 3 (c_iald (c_gets 5 (c_aload 2 (c_getR 2 0 (c_iload 3 (c_iald (c_iald (c_aload 1 (c_getR 4 2 (c_iload 3 (c_iald (c_iadd (c_icmplt c_vret (c_aload 1 (c_iload 3 (c_callV 4 1 (fX4_kindle N) c_vret)))))))))))))))))))))))))))))))))))))))))))))
def fX1_dryAndCatch (N : Nat) : hf_F := hf_fn 4 5 (EX1_dryAndCatch N)
abbrev rmX1_layDownSmoke : Room := { frames := 0, cells := 0, slots := 0, locals := 0 }
abbrev SX1_layDownSmoke (g : hf_G) (l : Launch) (pc : Nat) (k : hf_K hf_M) : Prop := hf_S hf_KS (hf_H g) hf_c0 (hf_Qm g) g l rmX1_layDownSmoke cX1_layDownSmoke 4 RX1 none pc k
def BX1_layDownSmoke_2 (N : Nat) : Nat → hf_K hf_M
  | 0 => c_none
  | n + 1 => (c_iload 3 (c_aload 2 (c_getI 2 6 (c_icmpge c_vret (c_aload 1 (c_getR 4 4 (c_iload 3 (c_aload 0 (c_getR 1 2 (c_iload 3 (c_iald (c_iast (c_aload 0 (c_getR 1 2 (c_iload 3 (c_const (0) (c_iast (c_iinc 3 (1) (c_goto (BX1_layDownSmoke_2 N n))))))))))))))))))))
def EX1_layDownSmoke (N : Nat) : hf_K hf_M := (c_const (0) (c_istore 3 (BX1_layDownSmoke_2 N N)))
def fX1_layDownSmoke (N : Nat) : hf_F := hf_fn 3 4 (EX1_layDownSmoke N)
abbrev rmX6_entryOf : Room := { frames := 0, cells := 0, slots := 0, locals := 0 }
abbrev SX6_entryOf (g : hf_G) (l : Launch) (pc : Nat) (k : hf_K hf_M) : Prop := hf_S hf_KS (hf_H g) hf_c0 (hf_Qm g) g l rmX6_entryOf cX6_entryOf 4 RX6 (some .int) pc k
def BX6_entryOf_5 (N : Nat) : Nat → hf_K hf_M
  | 0 => c_none
  | n + 1 => (c_iload 3 (c_aload 0 (c_getI 6 2 (c_icmpge (c_iload 2 c_iret) (c_aload 0 (c_getR 6 0 (c_iload 3 (c_iald (c_iload 1 (c_icmpgt (c_iinc 3 (1) (c_goto (BX6_entryOf_5 N n))) (c_iload 2 (c_const (-6) (c_icmpeq (c_iload 3 (c_istore 2 (c_iinc 3 (1) (c_goto (BX6_entryOf_5 N n))))) (c_aload 0 (c_getR 6 0 (c_iload 3 (c_iald (c_aload 0 (c_getR 6 0 (c_iload 2 (c_iald (c_icmplt (c_iinc 3 (1) (c_goto (BX6_entryOf_5 N n))) (c_iload 3 (c_istore 2 (c_iinc 3 (1) (c_goto (BX6_entryOf_5 N n)))))))))))))))))))))))))))
def EX6_entryOf (N : Nat) : hf_K hf_M := (c_const (-6) (c_istore 2 (c_const (0) (c_istore 3 (BX6_entryOf_5 N N)))))
def fX6_entryOf (N : Nat) : hf_F := hf_fn 2 4 (EX6_entryOf N)
abbrev rmX6_read : Room := { frames := 0, cells := 0, slots := 0, locals := 0 }
abbrev SX6_read (g : hf_G) (l : Launch) (pc : Nat) (k : hf_K hf_M) : Prop := hf_S hf_KS (hf_H g) hf_c0 (hf_Qm g) g l rmX6_read cX6_read 3 RX6 (some .int) pc k
def EX6_read (N : Nat) : hf_K hf_M := (c_iload 1 (c_const (-6) (c_icmpne (c_aload 0 (c_getR 6 1 (c_iload 1 (c_const (3) (c_imul (c_iload 2 (c_iadd (c_iald c_iret)))))))) (c_const (0) (c_goto c_iret)))))
def fX6_read (N : Nat) : hf_F := hf_fn 3 3 (EX6_read N)
abbrev rmX1_setOut : Room := { frames := 1, cells := 0, slots := 0, locals := 23 }
abbrev SX1_setOut (g : hf_G) (l : Launch) (pc : Nat) (k : hf_K hf_M) : Prop := hf_S hf_KS (hf_H g) hf_c0 (hf_Qm g) g l rmX1_setOut cX1_setOut 5 RX1 none pc k
def EX1_setOut (N : Nat) : hf_K hf_M := (c_aload 1 (c_iload 2 (c_callV 6 1 (fX6_entryOf N) (c_istore 4 (c_aload 0 (c_iload 2 (c_putI 1 3 (c_aload 0 (c_iload 3 (c_putI 1 4 (c_aload 0 (c_aload 1 (c_iload 4 (c_const (0) (c_callV 6 2 (fX6_read N) (c_putI 1 5 (c_aload 0 (c_aload 1 (c_iload 4 (c_const (1) (c_callV 6 2 (fX6_read N) (c_putI 1 6 (c_aload 0 (c_aload 1 (c_iload 4 (c_const (2) (c_callV 6 2 (fX6_read N) (c_putI 1 7 c_vret))))))))))))))))))))))))))))
def fX1_setOut (N : Nat) : hf_F := hf_fn 4 5 (EX1_setOut N)
abbrev rmX1_settle : Room := { frames := 2, cells := 0, slots := 0, locals := 84 }
abbrev SX1_settle (g : hf_G) (l : Launch) (pc : Nat) (k : hf_K hf_M) : Prop := hf_S hf_KS (hf_H g) hf_c0 (hf_Qm g) g l rmX1_settle cX1_settle 4 RX1 none pc k
def BX1_settle_67 (N : Nat) (k2 : hf_K hf_M) : hf_K hf_M := (c_aload 0 (c_getR 1 1 (c_iload 3 (c_const (0) (c_iast (c_iinc 3 (1) (c_goto k2)))))))
def BX1_settle_2 (N : Nat) : Nat → hf_K hf_M
  | 0 => c_none
  | n + 1 => (c_iload 3 (c_aload 2 (c_getI 2 6 (c_icmpge c_vret (c_aload 1 (c_getR 4 3 (c_iload 3 (c_aload 0 (c_getR 1 1 (c_iload 3 (c_iald (c_aload 1 (c_getR 4 3 (c_iload 3 (c_iald (c_const (2) (c_idiv (c_iadd (c_iast (c_aload 1 (c_getR 4 0 (c_iload 3 (c_iald (c_const (1) (c_icmpne (c_aload 1 (c_getR 4 0 (c_iload 3 (c_iald (c_const (2) (c_icmpne (BX1_settle_67 N (BX1_settle_2 N n)) (c_aload 0 (c_aload 1 (c_iload 3 (c_callV 1 2 (fX1_burnDown N) (BX1_settle_67 N (BX1_settle_2 N n)))))))))))) (c_aload 0 (c_aload 1 (c_aload 2 (c_iload 3 (c_callV 1 3 (fX1_dryAndCatch N) (c_goto (BX1_settle_67 N (BX1_settle_2 N n)))))))))))))))))))))))))))))))))
def EX1_settle (N : Nat) : hf_K hf_M := (c_const (0) (c_istore 3 (BX1_settle_2 N N)))
def fX1_settle (N : Nat) : hf_F := hf_fn 3 4 (EX1_settle N)
abbrev rmX2_has : Room := { frames := 0, cells := 0, slots := 0, locals := 0 }
abbrev SX2_has (g : hf_G) (l : Launch) (pc : Nat) (k : hf_K hf_M) : Prop := hf_S hf_KS (hf_H g) hf_c0 (hf_Qm g) g l rmX2_has cX2_has 2 RX2 (some .boolean) pc k
def EX2_has (N : Nat) : hf_K hf_M := (c_iload 1 (c_iflt (c_const (0) c_zret) (c_iload 1 (c_aload 0 (c_getI 2 6 (c_icmpge (c_const (0) c_zret) (c_const (1) (c_goto c_zret))))))))
def fX2_has (N : Nat) : hf_F := hf_fn 2 2 (EX2_has N)
abbrev rmX2_tell : Room := { frames := 0, cells := 0, slots := 0, locals := 0 }
abbrev SX2_tell (g : hf_G) (l : Launch) (pc : Nat) (k : hf_K hf_M) : Prop := hf_S hf_KS (hf_H g) hf_c0 (hf_Qm g) g l rmX2_tell cX2_tell 6 RX2 none pc k
def EX2_tell (N : Nat) : hf_K hf_M := (c_aload 0 (c_getR 2 0 (c_iload 1 (c_iload 2 (c_iast (c_aload 0 (c_getR 2 1 (c_iload 1 (c_iload 3 (c_iast (c_aload 0 (c_getR 2 2 (c_iload 1 (c_iload 4 (c_iast (c_aload 0 (c_getR 2 3 (c_iload 1 (c_iload 5 (c_iast (c_aload 0 (c_dup (c_getI 2 7 (c_const (1) (c_iadd (c_putI 2 7 c_vret))))))))))))))))))))))))))
def fX2_tell (N : Nat) : hf_F := hf_fn 6 6 (EX2_tell N)
abbrev rmX2_layOut : Room := { frames := 1, cells := 0, slots := 0, locals := 25 }
abbrev SX2_layOut (g : hf_G) (l : Launch) (pc : Nat) (k : hf_K hf_M) : Prop := hf_S hf_KS (hf_H g) hf_c0 (hf_Qm g) g l rmX2_layOut cX2_layOut 4 RX2 none pc k
def BX2_layOut_19 (N : Nat) : Nat → hf_K hf_M
  | 0 => c_none
  | n + 1 => (c_iload 3 (c_aload 0 (c_getI 2 6 (c_icmpge c_vret (c_aload 0 (c_iload 3 (c_const (0) (c_const (0) (c_const (0) (c_const (0) (c_callV 2 5 (fX2_tell N) (c_iinc 3 (1) (c_goto (BX2_layOut_19 N n))))))))))))))
def EX2_layOut (N : Nat) : hf_K hf_M := (c_aload 0 (c_iload 1 (c_putI 2 4 (c_aload 0 (c_iload 2 (c_putI 2 5 (c_aload 0 (c_iload 1 (c_iload 2 (c_imul (c_putI 2 6 (c_const (0) (c_istore 3 (BX2_layOut_19 N N))))))))))))))
def fX2_layOut (N : Nat) : hf_F := hf_fn 3 4 (EX2_layOut N)
abbrev rmX3_add : Room := { frames := 0, cells := 0, slots := 0, locals := 0 }
abbrev SX3_add (g : hf_G) (l : Launch) (pc : Nat) (k : hf_K hf_M) : Prop := hf_S hf_KS (hf_H g) hf_c0 (hf_Qm g) g l rmX3_add cX3_add 3 RX3 none pc k
def EX3_add (N : Nat) : hf_K hf_M := (c_aload 0 (c_getR 3 0 (c_aload 0 (c_getI 3 2 (c_iload 1 (c_iast (c_aload 0 (c_getR 3 1 (c_aload 0 (c_getI 3 2 (c_iload 2 (c_iast (c_aload 0 (c_dup (c_getI 3 2 (c_const (1) (c_iadd (c_putI 3 2 c_vret))))))))))))))))))
def fX3_add (N : Nat) : hf_F := hf_fn 3 3 (EX3_add N)
abbrev rmX3_kindle : Room := { frames := 1, cells := 0, slots := 0, locals := 21 }
abbrev SX3_kindle (g : hf_G) (l : Launch) (pc : Nat) (k : hf_K hf_M) : Prop := hf_S hf_KS (hf_H g) hf_c0 (hf_Qm g) g l rmX3_kindle cX3_kindle 3 RX3 none pc k
def BX3_kindle_2 (N : Nat) : Nat → hf_K hf_M
  | 0 => c_none
  | n + 1 => (c_iload 2 (c_aload 0 (c_getI 3 2 (c_icmpge c_vret (c_aload 0 (c_getR 3 1 (c_iload 2 (c_iald (c_aload 1 (c_getI 4 9 (c_icmpne (c_iinc 2 (1) (c_goto (BX3_kindle_2 N n))) (c_aload 1 (c_aload 0 (c_getR 3 0 (c_iload 2 (c_iald (c_callV 4 1 (fX4_kindle N) (c_iinc 2 (1) (c_goto (BX3_kindle_2 N n))))))))))))))))))))
def EX3_kindle (N : Nat) : hf_K hf_M := (c_const (0) (c_istore 2 (BX3_kindle_2 N N)))
def fX3_kindle (N : Nat) : hf_F := hf_fn 2 3 (EX3_kindle N)
abbrev rmX5_move : Room := { frames := 0, cells := 0, slots := 0, locals := 0 }
abbrev SX5_move (g : hf_G) (l : Launch) (pc : Nat) (k : hf_K hf_M) : Prop := hf_S hf_KS (hf_H g) hf_c0 (hf_Qm g) g l rmX5_move cX5_move 3 RX5 none pc k
def EX5_move (N : Nat) : hf_K hf_M := (c_aload 0 (c_getR 5 0 (c_iload 2 (c_aload 0 (c_getR 5 0 (c_iload 1 (c_iald (c_iast (c_aload 0 (c_getR 5 1 (c_iload 2 (c_aload 0 (c_getR 5 1 (c_iload 1 (c_iald (c_iast (c_aload 0 (c_getR 5 2 (c_iload 2 (c_aload 0 (c_getR 5 2 (c_iload 1 (c_iald (c_iast c_vret))))))))))))))))))))))))
def fX5_move (N : Nat) : hf_F := hf_fn 3 3 (EX5_move N)
abbrev rmX5_join : Room := { frames := 1, cells := 0, slots := 0, locals := 22 }
abbrev SX5_join (g : hf_G) (l : Launch) (pc : Nat) (k : hf_K hf_M) : Prop := hf_S hf_KS (hf_H g) hf_c0 (hf_Qm g) g l rmX5_join cX5_join 3 RX5 none pc k
def BX5_join_25 (N : Nat) : Nat → hf_K hf_M
  | 0 => c_none
  | n + 1 => (c_iload 2 (c_aload 0 (c_getI 5 3 (c_icmpge (c_aload 0 (c_dup (c_getI 5 3 (c_const (1) (c_isub (c_putI 5 3 c_vret)))))) (c_aload 0 (c_iload 2 (c_iload 2 (c_const (1) (c_isub (c_callV 5 2 (fX5_move N) (c_iinc 2 (1) (c_goto (BX5_join_25 N n)))))))))))))
def EX5_join (N : Nat) : hf_K hf_M := (c_aload 0 (c_getR 5 1 (c_iload 1 (c_aload 0 (c_getR 5 1 (c_iload 1 (c_const (1) (c_iadd (c_iald (c_iast (c_aload 0 (c_getR 5 2 (c_iload 1 (c_const (0) (c_iast (c_iload 1 (c_const (2) (c_iadd (c_istore 2 (BX5_join_25 N N))))))))))))))))))))
def fX5_join (N : Nat) : hf_F := hf_fn 2 3 (EX5_join N)
abbrev rmX7_sum : Room := { frames := 0, cells := 0, slots := 0, locals := 0 }
abbrev SX7_sum (g : hf_G) (l : Launch) (pc : Nat) (k : hf_K hf_M) : Prop := hf_S hf_KS (hf_H g) hf_c0 (hf_Qm g) g l rmX7_sum cX7_sum 4 RX7 (some .int) pc k
def BX7_sum_4 (N : Nat) : Nat → hf_K hf_M
  | 0 => c_none
  | n + 1 => (c_iload 3 (c_iload 1 (c_icmpge (c_iload 2 c_iret) (c_iload 2 (c_aload 0 (c_iload 3 (c_iald (c_iadd (c_istore 2 (c_iinc 3 (1) (c_goto (BX7_sum_4 N n))))))))))))
def EX7_sum (N : Nat) : hf_K hf_M := (c_const (0) (c_istore 2 (c_const (0) (c_istore 3 (BX7_sum_4 N N)))))
def fX7_sum (N : Nat) : hf_F := hf_fn 2 4 (EX7_sum N)
abbrev rmX5_meanWork : Room := { frames := 1, cells := 0, slots := 0, locals := 23 }
abbrev SX5_meanWork (g : hf_G) (l : Launch) (pc : Nat) (k : hf_K hf_M) : Prop := hf_S hf_KS (hf_H g) hf_c0 (hf_Qm g) g l rmX5_meanWork cX5_meanWork 1 RX5 (some .int) pc k
def EX5_meanWork (N : Nat) : hf_K hf_M := (c_aload 0 (c_getR 5 2 (c_aload 0 (c_getI 5 3 (c_callS 2 (fX7_sum N) (c_aload 0 (c_getI 5 3 (c_idiv c_iret))))))))
def fX5_meanWork (N : Nat) : hf_F := hf_fn 1 1 (EX5_meanWork N)
abbrev rmX5_joinIdle : Room := { frames := 2, cells := 0, slots := 0, locals := 44 }
abbrev SX5_joinIdle (g : hf_G) (l : Launch) (pc : Nat) (k : hf_K hf_M) : Prop := hf_S hf_KS (hf_H g) hf_c0 (hf_Qm g) g l rmX5_joinIdle cX5_joinIdle 3 RX5 (some .boolean) pc k
def BX5_joinIdle_9 (N : Nat) : Nat → hf_K hf_M
  | 0 => c_none
  | n + 1 => (c_iload 2 (c_const (1) (c_iadd (c_aload 0 (c_getI 5 3 (c_icmpge (c_const (0) c_zret) (c_aload 0 (c_getR 5 2 (c_iload 2 (c_iald (c_aload 0 (c_getR 5 2 (c_iload 2 (c_const (1) (c_iadd (c_iald (c_iadd (c_iload 1 (c_icmpge (c_iinc 2 (1) (c_goto (BX5_joinIdle_9 N n))) (c_aload 0 (c_iload 2 (c_callV 5 1 (fX5_join N) (c_const (1) c_zret)))))))))))))))))))))))
def EX5_joinIdle (N : Nat) : hf_K hf_M := (c_aload 0 (c_callV 5 0 (fX5_meanWork N) (c_const (2) (c_idiv (c_istore 1 (c_const (0) (c_istore 2 (BX5_joinIdle_9 N N))))))))
def fX5_joinIdle (N : Nat) : hf_F := hf_fn 1 3 (EX5_joinIdle N)
abbrev rmX5_rowsOf : Room := { frames := 0, cells := 0, slots := 0, locals := 0 }
abbrev SX5_rowsOf (g : hf_G) (l : Launch) (pc : Nat) (k : hf_K hf_M) : Prop := hf_S hf_KS (hf_H g) hf_c0 (hf_Qm g) g l rmX5_rowsOf cX5_rowsOf 2 RX5 (some .int) pc k
def EX5_rowsOf (N : Nat) : hf_K hf_M := (c_aload 0 (c_getR 5 1 (c_iload 1 (c_iald (c_aload 0 (c_getR 5 0 (c_iload 1 (c_iald (c_isub (c_const (1) (c_iadd c_iret)))))))))))
def fX5_rowsOf (N : Nat) : hf_F := hf_fn 2 2 (EX5_rowsOf N)
abbrev rmX5_split : Room := { frames := 1, cells := 0, slots := 0, locals := 22 }
abbrev SX5_split (g : hf_G) (l : Launch) (pc : Nat) (k : hf_K hf_M) : Prop := hf_S hf_KS (hf_H g) hf_c0 (hf_Qm g) g l rmX5_split cX5_split 3 RX5 none pc k
def BX5_split_5 (N : Nat) : Nat → hf_K hf_M
  | 0 => c_none
  | n + 1 => (c_iload 2 (c_iload 1 (c_icmple (c_aload 0 (c_dup (c_getI 5 3 (c_const (1) (c_iadd (c_putI 5 3 (c_aload 0 (c_getR 5 1 (c_iload 1 (c_aload 0 (c_getR 5 0 (c_iload 1 (c_iald (c_aload 0 (c_iload 1 (c_callV 5 1 (fX5_rowsOf N) (c_const (2) (c_idiv (c_iadd (c_const (1) (c_isub (c_iast (c_aload 0 (c_getR 5 0 (c_iload 1 (c_const (1) (c_iadd (c_aload 0 (c_getR 5 1 (c_iload 1 (c_iald (c_const (1) (c_iadd (c_iast (c_aload 0 (c_getR 5 2 (c_iload 1 (c_const (0) (c_iast (c_aload 0 (c_getR 5 2 (c_iload 1 (c_const (1) (c_iadd (c_const (0) (c_iast c_vret)))))))))))))))))))))))))))))))))))))))))))))) (c_aload 0 (c_iload 2 (c_const (1) (c_isub (c_iload 2 (c_callV 5 2 (fX5_move N) (c_iinc 2 (-1) (c_goto (BX5_split_5 N n))))))))))))
def EX5_split (N : Nat) : hf_K hf_M := (c_aload 0 (c_getI 5 3 (c_istore 2 (BX5_split_5 N N))))
def fX5_split (N : Nat) : hf_F := hf_fn 2 3 (EX5_split N)
abbrev rmX5_splitBusiest : Room := { frames := 2, cells := 0, slots := 0, locals := 44 }
abbrev SX5_splitBusiest (g : hf_G) (l : Launch) (pc : Nat) (k : hf_K hf_M) : Prop := hf_S hf_KS (hf_H g) hf_c0 (hf_Qm g) g l rmX5_splitBusiest cX5_splitBusiest 3 RX5 (some .boolean) pc k
def BX5_splitBusiest_4 (N : Nat) : Nat → hf_K hf_M
  | 0 => c_none
  | n + 1 => (c_iload 2 (c_aload 0 (c_getI 5 3 (c_icmpge (c_aload 0 (c_getR 5 2 (c_iload 1 (c_iald (c_const (2) (c_aload 0 (c_callV 5 0 (fX5_meanWork N) (c_imul (c_icmple (c_const (0) c_zret) (c_aload 0 (c_iload 1 (c_callV 5 1 (fX5_rowsOf N) (c_const (2) (c_icmplt (c_const (0) c_zret) (c_aload 0 (c_getI 5 3 (c_const (8) (c_icmplt (c_aload 0 (c_iload 1 (c_callV 5 1 (fX5_split N) (c_const (1) c_zret)))) (c_const (0) c_zret))))))))))))))))))) (c_aload 0 (c_getR 5 2 (c_iload 2 (c_iald (c_aload 0 (c_getR 5 2 (c_iload 1 (c_iald (c_icmple (c_iinc 2 (1) (c_goto (BX5_splitBusiest_4 N n))) (c_iload 2 (c_istore 1 (c_iinc 2 (1) (c_goto (BX5_splitBusiest_4 N n))))))))))))))))))
def EX5_splitBusiest (N : Nat) : hf_K hf_M := (c_const (0) (c_istore 1 (c_const (1) (c_istore 2 (BX5_splitBusiest_4 N N)))))
def fX5_splitBusiest (N : Nat) : hf_F := hf_fn 1 3 (EX5_splitBusiest N)
abbrev rmX4_balance : Room := { frames := 3, cells := 0, slots := 0, locals := 66 }
abbrev SX4_balance (g : hf_G) (l : Launch) (pc : Nat) (k : hf_K hf_M) : Prop := hf_S hf_KS (hf_H g) hf_c0 (hf_Qm g) g l rmX4_balance cX4_balance 1 RX4 none pc k
def EX4_balance (N : Nat) : hf_K hf_M := (c_aload 0 (c_getR 4 7 (c_getI 5 3 (c_const (2) (c_icmpge (c_aload 0 (c_getR 4 7 (c_callV 5 0 (fX5_splitBusiest N) (c_ifeq (c_aload 0 (c_getR 4 7 (c_callV 5 0 (fX5_joinIdle N) (c_ifeq c_vret (c_aload 0 (c_dup (c_getI 4 14 (c_const (1) (c_iadd (c_putI 4 14 c_vret)))))))))) (c_aload 0 (c_dup (c_getI 4 13 (c_const (1) (c_iadd (c_putI 4 13 (c_goto c_vret))))))))))) c_vret)))))
def fX4_balance (N : Nat) : hf_F := hf_fn 1 1 (EX4_balance N)
abbrev rmX4_beginCell : Room := { frames := 0, cells := 0, slots := 0, locals := 0 }
abbrev SX4_beginCell (g : hf_G) (l : Launch) (pc : Nat) (k : hf_K hf_M) : Prop := hf_S hf_KS (hf_H g) hf_c0 (hf_Qm g) g l rmX4_beginCell cX4_beginCell 3 RX4 none pc k
def BX4_beginCell_19 (N : Nat) : hf_K hf_M := (c_iast (c_aload 0 (c_getR 4 1 (c_iload 2 (c_aload 1 (c_getR 2 1 (c_iload 2 (c_iald (c_iast (c_aload 0 (c_getR 4 2 (c_iload 2 (c_aload 1 (c_getR 2 2 (c_iload 2 (c_iald (c_iast (c_aload 0 (c_getR 4 3 (c_iload 2 (c_const (0) (c_iast (c_aload 0 (c_getR 4 4 (c_iload 2 (c_const (0) (c_iast (c_aload 0 (c_getR 4 5 (c_iload 2 (c_const (-6) (c_iast c_vret))))))))))))))))))))))))))))))))
def EX4_beginCell (N : Nat) : hf_K hf_M := (c_aload 0 (c_getR 4 0 (c_iload 2 (c_aload 1 (c_getR 2 1 (c_iload 2 (c_iald (c_ifle (c_const (0) (BX4_beginCell_19 N)) (c_const (1) (c_goto (BX4_beginCell_19 N)))))))))))
def fX4_beginCell (N : Nat) : hf_F := hf_fn 3 3 (EX4_beginCell N)
abbrev rmX5_part : Room := { frames := 0, cells := 0, slots := 0, locals := 0 }
abbrev SX5_part (g : hf_G) (l : Launch) (pc : Nat) (k : hf_K hf_M) : Prop := hf_S hf_KS (hf_H g) hf_c0 (hf_Qm g) g l rmX5_part cX5_part 6 RX5 none pc k
def BX5_part_24 (N : Nat) (k5 : hf_K hf_M) : hf_K hf_M := (c_istore 5 (c_aload 0 (c_getR 5 0 (c_iload 4 (c_iload 3 (c_iast (c_iload 3 (c_iload 1 (c_iload 2 (c_idiv (c_iload 5 (c_iadd (c_iadd (c_istore 3 (c_aload 0 (c_getR 5 1 (c_iload 4 (c_iload 3 (c_const (1) (c_isub (c_iast (c_aload 0 (c_getR 5 2 (c_iload 4 (c_const (0) (c_iast (c_iinc 4 (1) (c_goto k5))))))))))))))))))))))))))))
def BX5_part_5 (N : Nat) : Nat → hf_K hf_M
  | 0 => c_none
  | n + 1 => (c_iload 4 (c_iload 2 (c_icmpge (c_aload 0 (c_iload 2 (c_putI 5 3 c_vret))) (c_iload 4 (c_iload 1 (c_iload 2 (c_irem (c_icmpge (c_const (0) (BX5_part_24 N (BX5_part_5 N n))) (c_const (1) (c_goto (BX5_part_24 N (BX5_part_5 N n))))))))))))
def EX5_part (N : Nat) : hf_K hf_M := (c_const (0) (c_istore 3 (c_const (0) (c_istore 4 (BX5_part_5 N N)))))
def fX5_part (N : Nat) : hf_F := hf_fn 3 6 (EX5_part N)
abbrev rmX4_begin : Room := { frames := 1, cells := 0, slots := 0, locals := 25 }
abbrev SX4_begin (g : hf_G) (l : Launch) (pc : Nat) (k : hf_K hf_M) : Prop := hf_S hf_KS (hf_H g) hf_c0 (hf_Qm g) g l rmX4_begin cX4_begin 3 RX4 none pc k
def BX4_begin_2 (N : Nat) : Nat → hf_K hf_M
  | 0 => c_none
  | n + 1 => (c_iload 2 (c_aload 1 (c_getI 2 6 (c_icmpge (c_aload 0 (c_getR 4 7 (c_aload 1 (c_getI 2 4 (c_const (1) (c_callV 5 2 (fX5_part N) (c_aload 0 (c_const (0) (c_putI 4 8 (c_aload 0 (c_const (0) (c_putI 4 9 (c_aload 0 (c_const (0) (c_putI 4 10 (c_aload 0 (c_const (0) (c_putI 4 11 (c_aload 0 (c_const (0) (c_putI 4 12 (c_aload 0 (c_const (0) (c_putI 4 13 (c_aload 0 (c_const (0) (c_putI 4 14 c_vret))))))))))))))))))))))))))) (c_aload 0 (c_aload 1 (c_iload 2 (c_callV 4 2 (fX4_beginCell N) (c_iinc 2 (1) (c_goto (BX4_begin_2 N n)))))))))))
def EX4_begin (N : Nat) : hf_K hf_M := (c_const (0) (c_istore 2 (BX4_begin_2 N N)))
def fX4_begin (N : Nat) : hf_F := hf_fn 2 3 (EX4_begin N)
abbrev rmX5_copyFrom : Room := { frames := 1, cells := 0, slots := 0, locals := 60 }
abbrev SX5_copyFrom (g : hf_G) (l : Launch) (pc : Nat) (k : hf_K hf_M) : Prop := hf_S hf_KS (hf_H g) hf_c0 (hf_Qm g) g l rmX5_copyFrom cX5_copyFrom 2 RX5 none pc k
def EX5_copyFrom (N : Nat) : hf_K hf_M := (c_aload 1 (c_getR 5 0 (c_const (0) (c_aload 0 (c_getR 5 0 (c_const (0) (c_const (8) (c_copy (c_aload 1 (c_getR 5 1 (c_const (0) (c_aload 0 (c_getR 5 1 (c_const (0) (c_const (8) (c_copy (c_aload 1 (c_getR 5 2 (c_const (0) (c_aload 0 (c_getR 5 2 (c_const (0) (c_const (8) (c_copy (c_aload 0 (c_aload 1 (c_getI 5 3 (c_putI 5 3 c_vret))))))))))))))))))))))))))))
def fX5_copyFrom (N : Nat) : hf_F := hf_fn 2 2 (EX5_copyFrom N)
abbrev rmX4_copyFrom : Room := { frames := 2, cells := 0, slots := 0, locals := 81 }
abbrev SX4_copyFrom (g : hf_G) (l : Launch) (pc : Nat) (k : hf_K hf_M) : Prop := hf_S hf_KS (hf_H g) hf_c0 (hf_Qm g) g l rmX4_copyFrom cX4_copyFrom 3 RX4 none pc k
def BX4_copyFrom_98 (N : Nat) : Nat → hf_K hf_M
  | 0 => c_none
  | n + 1 => (c_iload 2 (c_aload 1 (c_getI 4 8 (c_icmpge (c_aload 0 (c_getR 4 7 (c_aload 1 (c_getR 4 7 (c_callV 5 1 (fX5_copyFrom N) (c_aload 0 (c_aload 1 (c_getI 4 8 (c_putI 4 8 (c_aload 0 (c_aload 1 (c_getI 4 9 (c_putI 4 9 (c_aload 0 (c_aload 1 (c_getI 4 10 (c_putI 4 10 (c_aload 0 (c_aload 1 (c_getI 4 11 (c_putI 4 11 (c_aload 0 (c_aload 1 (c_getI 4 12 (c_putI 4 12 (c_aload 0 (c_aload 1 (c_getI 4 13 (c_putI 4 13 (c_aload 0 (c_aload 1 (c_getI 4 14 (c_putI 4 14 c_vret))))))))))))))))))))))))))))))))) (c_aload 0 (c_getR 4 6 (c_iload 2 (c_aald (c_aload 1 (c_getR 4 6 (c_iload 2 (c_aald (c_callV 0 1 (fX0_copyFrom N) (c_iinc 2 (1) (c_goto (BX4_copyFrom_98 N n))))))))))))))))
def EX4_copyFrom (N : Nat) : hf_K hf_M := (c_aload 1 (c_getR 4 0 (c_const (0) (c_aload 0 (c_getR 4 0 (c_const (0) (c_const (256) (c_copy (c_aload 1 (c_getR 4 1 (c_const (0) (c_aload 0 (c_getR 4 1 (c_const (0) (c_const (256) (c_copy (c_aload 1 (c_getR 4 2 (c_const (0) (c_aload 0 (c_getR 4 2 (c_const (0) (c_const (256) (c_copy (c_aload 1 (c_getR 4 3 (c_const (0) (c_aload 0 (c_getR 4 3 (c_const (0) (c_const (256) (c_copy (c_aload 1 (c_getR 4 4 (c_const (0) (c_aload 0 (c_getR 4 4 (c_const (0) (c_const (256) (c_copy (c_aload 1 (c_getR 4 5 (c_const (0) (c_aload 0 (c_getR 4 5 (c_const (0) (c_const (256) (c_copy (c_const (0) (c_istore 2 (BX4_copyFrom_98 N N)))))))))))))))))))))))))))))))))))))))))))))))))))
def fX4_copyFrom (N : Nat) : hf_F := hf_fn 2 3 (EX4_copyFrom N)
abbrev rmX4_isAlikeAt : Room := { frames := 0, cells := 0, slots := 0, locals := 0 }
abbrev SX4_isAlikeAt (g : hf_G) (l : Launch) (pc : Nat) (k : hf_K hf_M) : Prop := hf_S hf_KS (hf_H g) hf_c0 (hf_Qm g) g l rmX4_isAlikeAt cX4_isAlikeAt 3 RX4 (some .boolean) pc k
def EX4_isAlikeAt (N : Nat) : hf_K hf_M := (c_aload 0 (c_getR 4 0 (c_iload 1 (c_iald (c_aload 2 (c_getR 4 0 (c_iload 1 (c_iald (c_icmpne (c_const (0) c_zret) (c_aload 0 (c_getR 4 1 (c_iload 1 (c_iald (c_aload 2 (c_getR 4 1 (c_iload 1 (c_iald (c_icmpne (c_const (0) c_zret) (c_aload 0 (c_getR 4 2 (c_iload 1 (c_iald (c_aload 2 (c_getR 4 2 (c_iload 1 (c_iald (c_icmpne (c_const (0) c_zret) (c_aload 0 (c_getR 4 3 (c_iload 1 (c_iald (c_aload 2 (c_getR 4 3 (c_iload 1 (c_iald (c_icmpne (c_const (0) c_zret) (c_aload 0 (c_getR 4 4 (c_iload 1 (c_iald (c_aload 2 (c_getR 4 4 (c_iload 1 (c_iald (c_icmpne (c_const (0) c_zret) (c_const (1) (c_goto c_zret)))))))))))))))))))))))))))))))))))))))))))))))
def fX4_isAlikeAt (N : Nat) : hf_F := hf_fn 3 3 (EX4_isAlikeAt N)
abbrev rmX4_loseCrews : Room := { frames := 1, cells := 0, slots := 0, locals := 20 }
abbrev SX4_loseCrews (g : hf_G) (l : Launch) (pc : Nat) (k : hf_K hf_M) : Prop := hf_S hf_KS (hf_H g) hf_c0 (hf_Qm g) g l rmX4_loseCrews cX4_loseCrews 2 RX4 none pc k
def BX4_loseCrews_2 (N : Nat) : Nat → hf_K hf_M
  | 0 => c_none
  | n + 1 => (c_iload 1 (c_aload 0 (c_getI 4 8 (c_icmpge c_vret (c_aload 0 (c_getR 4 0 (c_aload 0 (c_getR 4 6 (c_iload 1 (c_aald (c_getI 0 4 (c_iald (c_const (2) (c_icmpne (c_iinc 1 (1) (c_goto (BX4_loseCrews_2 N n))) (c_aload 0 (c_getR 4 6 (c_iload 1 (c_aald (c_const (1) (c_putZ 0 9 (c_aload 0 (c_getR 4 6 (c_iload 1 (c_aald (c_callV 0 0 (fX0_dropPlan N) (c_iinc 1 (1) (c_goto (BX4_loseCrews_2 N n))))))))))))))))))))))))))))
def EX4_loseCrews (N : Nat) : hf_K hf_M := (c_const (0) (c_istore 1 (BX4_loseCrews_2 N N)))
def fX4_loseCrews (N : Nat) : hf_F := hf_fn 1 2 (EX4_loseCrews N)
abbrev rmX5_beginWork : Room := { frames := 1, cells := 0, slots := 0, locals := 21 }
abbrev SX5_beginWork (g : hf_G) (l : Launch) (pc : Nat) (k : hf_K hf_M) : Prop := hf_S hf_KS (hf_H g) hf_c0 (hf_Qm g) g l rmX5_beginWork cX5_beginWork 3 RX5 none pc k
def BX5_beginWork_2 (N : Nat) : Nat → hf_K hf_M
  | 0 => c_none
  | n + 1 => (c_iload 2 (c_aload 0 (c_getI 5 3 (c_icmpge c_vret (c_aload 0 (c_getR 5 2 (c_iload 2 (c_aload 0 (c_iload 2 (c_callV 5 1 (fX5_rowsOf N) (c_iload 1 (c_imul (c_iast (c_iinc 2 (1) (c_goto (BX5_beginWork_2 N n))))))))))))))))
def EX5_beginWork (N : Nat) : hf_K hf_M := (c_const (0) (c_istore 2 (BX5_beginWork_2 N N)))
def fX5_beginWork (N : Nat) : hf_F := hf_fn 2 3 (EX5_beginWork N)
abbrev rmX6_add : Room := { frames := 0, cells := 0, slots := 0, locals := 0 }
abbrev SX6_add (g : hf_G) (l : Launch) (pc : Nat) (k : hf_K hf_M) : Prop := hf_S hf_KS (hf_H g) hf_c0 (hf_Qm g) g l rmX6_add cX6_add 6 RX6 none pc k
def EX6_add (N : Nat) : hf_K hf_M := (c_aload 0 (c_getR 6 0 (c_aload 0 (c_getI 6 2 (c_iload 1 (c_iast (c_aload 0 (c_getI 6 2 (c_const (3) (c_imul (c_istore 5 (c_aload 0 (c_getR 6 1 (c_iload 5 (c_const (0) (c_iadd (c_iload 2 (c_iast (c_aload 0 (c_getR 6 1 (c_iload 5 (c_const (1) (c_iadd (c_iload 3 (c_iast (c_aload 0 (c_getR 6 1 (c_iload 5 (c_const (2) (c_iadd (c_iload 4 (c_iast (c_aload 0 (c_dup (c_getI 6 2 (c_const (1) (c_iadd (c_putI 6 2 c_vret))))))))))))))))))))))))))))))))))))))
def fX6_add (N : Nat) : hf_F := hf_fn 5 6 (EX6_add N)
abbrev rmX7_about : Room := { frames := 1, cells := 0, slots := 0, locals := 21 }
abbrev SX7_about (g : hf_G) (l : Launch) (pc : Nat) (k : hf_K hf_M) : Prop := hf_S hf_KS (hf_H g) hf_c0 (hf_Qm g) g l rmX7_about cX7_about 3 RX7 (some .int) pc k
def EX7_about (N : Nat) : hf_K hf_M := (c_aload 0 (c_getR 7 0 (c_iload 1 (c_callV 2 1 (fX2_has N) (c_ifne (c_iload 2 (c_tsw [(c_aload 0 (c_getR 7 4 (c_getR 4 0 (c_iload 1 (c_iald c_iret))))), (c_aload 0 (c_getR 7 4 (c_getR 4 1 (c_iload 1 (c_iald c_iret))))), (c_aload 0 (c_getR 7 4 (c_getR 4 2 (c_iload 1 (c_iald c_iret))))), (c_aload 0 (c_getR 7 4 (c_getR 4 3 (c_iload 1 (c_iald c_iret))))), (c_aload 0 (c_getR 7 4 (c_getR 4 4 (c_iload 1 (c_iald c_iret))))), (c_aload 0 (c_getR 7 0 (c_getR 2 0 (c_iload 1 (c_iald c_iret))))), (c_aload 0 (c_getR 7 0 (c_getR 2 3 (c_iload 1 (c_iald c_iret))))), (c_aload 0 (c_getR 7 4 (c_getR 4 5 (c_iload 1 (c_iald c_iret)))))] (c_const (-2) c_iret))) (c_const (-1) c_iret))))))
def fX7_about (N : Nat) : hf_F := hf_fn 3 3 (EX7_about N)
abbrev rmX7_isWithin : Room := { frames := 0, cells := 0, slots := 0, locals := 0 }
abbrev SX7_isWithin (g : hf_G) (l : Launch) (pc : Nat) (k : hf_K hf_M) : Prop := hf_S hf_KS (hf_H g) hf_c0 (hf_Qm g) g l rmX7_isWithin cX7_isWithin 3 RX7 (some .boolean) pc k
def EX7_isWithin (N : Nat) : hf_K hf_M := (c_iload 0 (c_iload 1 (c_icmplt (c_const (0) c_zret) (c_iload 0 (c_iload 2 (c_icmpgt (c_const (0) c_zret) (c_const (1) (c_goto c_zret))))))))
def fX7_isWithin (N : Nat) : hf_F := hf_fn 3 3 (EX7_isWithin N)
abbrev rmX7_work : Room := { frames := 5, cells := 0, slots := 0, locals := 118 }
abbrev SX7_work (g : hf_G) (l : Launch) (pc : Nat) (k : hf_K hf_M) : Prop := hf_S hf_KS (hf_H g) hf_c0 (hf_Qm g) g l rmX7_work cX7_work 3 RX7 none pc k
def BX7_work_121 (N : Nat) : Nat → hf_K hf_M
  | 0 => c_none
  | n + 1 => (c_iload 2 (c_aload 1 (c_getR 4 7 (c_getI 5 3 (c_icmpge (c_aload 0 (c_getR 7 3 (c_aload 1 (c_aload 0 (c_getR 7 0 (c_callV 1 2 (fX1_layDownSmoke N) (c_aload 1 (c_dup (c_getI 4 9 (c_const (1) (c_iadd (c_putI 4 9 (c_aload 0 (c_getI 7 9 (c_ifeq c_vret (c_aload 1 (c_callV 4 0 (fX4_balance N) c_vret))))))))))))))))) (c_aload 0 (c_getR 7 3 (c_aload 1 (c_aload 0 (c_getR 7 0 (c_iload 2 (c_callV 1 3 (fX1_blowStrip N) (c_iinc 2 (1) (c_goto (BX7_work_121 N n)))))))))))))))
def BX7_work_77 (N : Nat) : Nat → hf_K hf_M
  | 0 => c_none
  | n + 1 => (c_iload 2 (c_aload 1 (c_getR 4 7 (c_getI 5 3 (c_icmpge (c_aload 0 (c_getR 7 3 (c_aload 1 (c_aload 0 (c_getR 7 0 (c_callV 1 2 (fX1_settle N) (c_const (0) (c_istore 2 (BX7_work_121 N N))))))))) (c_aload 0 (c_getR 7 3 (c_aload 1 (c_aload 0 (c_getR 7 0 (c_iload 2 (c_callV 1 3 (fX1_burnStrip N) (c_iinc 2 (1) (c_goto (BX7_work_77 N n)))))))))))))))
def BX7_work_29 (N : Nat) : Nat → hf_K hf_M
  | 0 => c_none
  | n + 1 => (c_iload 2 (c_aload 1 (c_getI 4 8 (c_icmpge (c_aload 1 (c_callV 4 0 (fX4_loseCrews N) (c_aload 1 (c_getR 4 7 (c_aload 0 (c_getR 7 0 (c_getI 2 5 (c_callV 5 1 (fX5_beginWork N) (c_const (0) (c_istore 2 (BX7_work_77 N N))))))))))) (c_aload 1 (c_getR 4 6 (c_iload 2 (c_aald (c_aload 1 (c_aload 0 (c_getR 7 0 (c_callV 0 2 (fX0_act N) (c_iinc 2 (1) (c_goto (BX7_work_29 N n)))))))))))))))
def EX7_work (N : Nat) : hf_K hf_M := (c_aload 0 (c_getR 7 3 (c_aload 0 (c_getR 7 1 (c_aload 1 (c_getI 4 9 (c_aload 0 (c_getI 7 8 (c_callV 1 3 (fX1_setOut N) (c_aload 0 (c_getR 7 2 (c_aload 1 (c_callV 3 1 (fX3_kindle N) (c_const (0) (c_istore 2 (BX7_work_29 N N))))))))))))))))
def fX7_work (N : Nat) : hf_F := hf_fn 2 3 (EX7_work N)
abbrev rmX7_ahead : Room := { frames := 6, cells := 0, slots := 0, locals := 140 }
abbrev SX7_ahead (g : hf_G) (l : Launch) (pc : Nat) (k : hf_K hf_M) : Prop := hf_S hf_KS (hf_H g) hf_c0 (hf_Qm g) g l rmX7_ahead cX7_ahead 4 RX7 (some .int) pc k
def BX7_ahead_57 (N : Nat) : Nat → hf_K hf_M
  | 0 => c_none
  | n + 1 => (c_iload 3 (c_iload 2 (c_icmpge (c_aload 0 (c_getR 7 5 (c_getR 4 5 (c_iload 1 (c_iald c_iret))))) (c_aload 0 (c_getR 7 5 (c_getR 4 5 (c_iload 1 (c_iald (c_const (-6) (c_icmpne (c_aload 0 (c_getR 7 5 (c_getR 4 5 (c_iload 1 (c_iald c_iret))))) (c_aload 0 (c_aload 0 (c_getR 7 5 (c_callV 7 1 (fX7_work N) (c_iinc 3 (1) (c_goto (BX7_ahead_57 N n)))))))))))))))))
def EX7_ahead (N : Nat) : hf_K hf_M := (c_aload 0 (c_getR 7 0 (c_iload 1 (c_callV 2 1 (fX2_has N) (c_ifne (c_iload 2 (c_const (0) (c_const (200) (c_callS 3 (fX7_isWithin N) (c_ifne (c_aload 0 (c_getR 7 4 (c_getR 4 5 (c_iload 1 (c_iald (c_const (-6) (c_icmpeq (c_aload 0 (c_getR 7 5 (c_aload 0 (c_getR 7 4 (c_callV 4 1 (fX4_copyFrom N) (c_const (0) (c_istore 3 (BX7_ahead_57 N N)))))))) (c_const (-6) c_iret)))))))) (c_const (-2) c_iret)))))) (c_const (-1) c_iret))))))
def fX7_ahead (N : Nat) : hf_F := hf_fn 3 4 (EX7_ahead N)
abbrev rmX7_isPlace : Room := { frames := 0, cells := 0, slots := 0, locals := 0 }
abbrev SX7_isPlace (g : hf_G) (l : Launch) (pc : Nat) (k : hf_K hf_M) : Prop := hf_S hf_KS (hf_H g) hf_c0 (hf_Qm g) g l rmX7_isPlace cX7_isPlace 1 RX7 (some .boolean) pc k
def EX7_isPlace (N : Nat) : hf_K hf_M := (c_iload 0 (c_iflt (c_const (0) c_zret) (c_iload 0 (c_const (3) (c_icmpge (c_const (0) c_zret) (c_const (1) (c_goto c_zret)))))))
def fX7_isPlace (N : Nat) : hf_F := hf_fn 1 1 (EX7_isPlace N)
abbrev rmX7_back : Room := { frames := 3, cells := 0, slots := 0, locals := 103 }
abbrev SX7_back (g : hf_G) (l : Launch) (pc : Nat) (k : hf_K hf_M) : Prop := hf_S hf_KS (hf_H g) hf_c0 (hf_Qm g) g l rmX7_back cX7_back 2 RX7 (some .int) pc k
def EX7_back (N : Nat) : hf_K hf_M := (c_iload 1 (c_callS 1 (fX7_isPlace N) (c_ifeq (c_const (-1) c_iret) (c_aload 0 (c_getR 7 7 (c_iload 1 (c_iald (c_const (-6) (c_icmpne (c_aload 0 (c_getR 7 7 (c_iload 1 (c_iald (c_aload 0 (c_getR 7 0 (c_getI 2 7 (c_icmpeq (c_aload 0 (c_getR 7 4 (c_aload 0 (c_getR 7 6 (c_iload 1 (c_aald (c_callV 4 1 (fX4_copyFrom N) (c_aload 0 (c_getR 7 4 (c_getI 4 9 c_iret)))))))))) (c_const (-3) c_iret))))))))) (c_const (-1) c_iret))))))))))
def fX7_back (N : Nat) : hf_F := hf_fn 2 2 (EX7_back N)
abbrev rmX7_balanced : Room := { frames := 0, cells := 0, slots := 0, locals := 0 }
abbrev SX7_balanced (g : hf_G) (l : Launch) (pc : Nat) (k : hf_K hf_M) : Prop := hf_S hf_KS (hf_H g) hf_c0 (hf_Qm g) g l rmX7_balanced cX7_balanced 3 RX7 (some .int) pc k
def EX7_balanced (N : Nat) : hf_K hf_M := (c_aload 0 (c_getI 7 9 (c_ifeq (c_const (0) (c_istore 2 (c_aload 0 (c_iload 1 (c_putZ 7 9 (c_iload 2 c_iret)))))) (c_const (1) (c_goto (c_istore 2 (c_aload 0 (c_iload 1 (c_putZ 7 9 (c_iload 2 c_iret))))))))))
def fX7_balanced (N : Nat) : hf_F := hf_fn 2 3 (EX7_balanced N)
abbrev rmX7_cell : Room := { frames := 1, cells := 0, slots := 0, locals := 25 }
abbrev SX7_cell (g : hf_G) (l : Launch) (pc : Nat) (k : hf_K hf_M) : Prop := hf_S hf_KS (hf_H g) hf_c0 (hf_Qm g) g l rmX7_cell cX7_cell 6 RX7 (some .int) pc k
def BX7_cell_71 (N : Nat) : hf_K hf_M := (c_aload 0 (c_getR 7 4 (c_getI 4 9 (c_ifle (c_aload 0 (c_getR 7 0 (c_iload 1 (c_iload 2 (c_iload 3 (c_iload 4 (c_iload 5 (c_callV 2 5 (fX2_tell N) (c_aload 0 (c_getR 7 4 (c_aload 0 (c_getR 7 0 (c_iload 1 (c_callV 4 2 (fX4_beginCell N) (c_const (1) c_iret))))))))))))))) (c_const (-3) c_iret)))))
def EX7_cell (N : Nat) : hf_K hf_M := (c_aload 0 (c_getR 7 0 (c_iload 1 (c_callV 2 1 (fX2_has N) (c_ifne (c_iload 2 (c_const (0) (c_const (5) (c_callS 3 (fX7_isWithin N) (c_ifeq (c_const (-2) c_iret) (c_iload 3 (c_const (0) (c_const (200) (c_callS 3 (fX7_isWithin N) (c_ifeq (c_const (-2) c_iret) (c_iload 4 (c_const (0) (c_const (100) (c_callS 3 (fX7_isWithin N) (c_ifeq (c_const (-2) c_iret) (c_iload 5 (c_const (0) (c_const (50) (c_callS 3 (fX7_isWithin N) (c_ifeq (c_const (-2) c_iret) (c_iload 3 (c_ifeq (BX7_cell_71 N) (c_iload 2 (c_ifeq (c_const (-2) c_iret) (c_iload 2 (c_const (5) (c_icmpne (BX7_cell_71 N) (c_const (-2) c_iret)))))))))))))))))))))))))))) (c_const (-1) c_iret))))))
def fX7_cell (N : Nat) : hf_F := hf_fn 6 6 (EX7_cell N)
abbrev rmX7_clear : Room := { frames := 2, cells := 0, slots := 0, locals := 47 }
abbrev SX7_clear (g : hf_G) (l : Launch) (pc : Nat) (k : hf_K hf_M) : Prop := hf_S hf_KS (hf_H g) hf_c0 (hf_Qm g) g l rmX7_clear cX7_clear 2 RX7 (some .int) pc k
def EX7_clear (N : Nat) : hf_K hf_M := (c_aload 0 (c_getR 7 4 (c_getI 4 9 (c_istore 1 (c_aload 0 (c_getR 7 4 (c_aload 0 (c_getR 7 0 (c_callV 4 1 (fX4_begin N) (c_iload 1 c_iret))))))))))
def fX7_clear (N : Nat) : hf_F := hf_fn 1 2 (EX7_clear N)
abbrev rmX7_crew : Room := { frames := 2, cells := 0, slots := 0, locals := 41 }
abbrev SX7_crew (g : hf_G) (l : Launch) (pc : Nat) (k : hf_K hf_M) : Prop := hf_S hf_KS (hf_H g) hf_c0 (hf_Qm g) g l rmX7_crew cX7_crew 2 RX7 (some .int) pc k
def EX7_crew (N : Nat) : hf_K hf_M := (c_aload 0 (c_getR 7 0 (c_iload 1 (c_callV 2 1 (fX2_has N) (c_ifne (c_aload 0 (c_getR 7 4 (c_getI 4 8 (c_const (8) (c_icmplt (c_aload 0 (c_getR 7 0 (c_getR 2 0 (c_iload 1 (c_iald (c_ifeq (c_const (-5) c_iret) (c_aload 0 (c_getR 7 4 (c_getR 4 0 (c_iload 1 (c_iald (c_const (2) (c_icmpne (c_aload 0 (c_getR 7 4 (c_getR 4 6 (c_aload 0 (c_getR 7 4 (c_getI 4 8 (c_aald (c_iload 1 (c_callV 0 1 (fX0_begin N) (c_aload 0 (c_getR 7 4 (c_dup (c_getI 4 8 (c_const (1) (c_iadd (c_putI 4 8 (c_aload 0 (c_getR 7 4 (c_getI 4 8 (c_const (1) (c_isub c_iret))))))))))))))))))))) (c_const (-5) c_iret)))))))))))))) (c_const (-4) c_iret)))))) (c_const (-1) c_iret))))))
def fX7_crew (N : Nat) : hf_F := hf_fn 2 2 (EX7_crew N)
abbrev rmX7_differs : Room := { frames := 1, cells := 0, slots := 0, locals := 22 }
abbrev SX7_differs (g : hf_G) (l : Launch) (pc : Nat) (k : hf_K hf_M) : Prop := hf_S hf_KS (hf_H g) hf_c0 (hf_Qm g) g l rmX7_differs cX7_differs 4 RX7 (some .int) pc k
def BX7_differs_43 (N : Nat) : Nat → hf_K hf_M
  | 0 => c_none
  | n + 1 => (c_iload 3 (c_aload 0 (c_getR 7 0 (c_getI 2 6 (c_icmpge (c_iload 2 c_iret) (c_aload 0 (c_getR 7 4 (c_iload 3 (c_aload 0 (c_getR 7 6 (c_iload 1 (c_aald (c_callV 4 2 (fX4_isAlikeAt N) (c_ifne (c_iinc 3 (1) (c_goto (BX7_differs_43 N n))) (c_iinc 2 (1) (c_iinc 3 (1) (c_goto (BX7_differs_43 N n))))))))))))))))))
def EX7_differs (N : Nat) : hf_K hf_M := (c_iload 1 (c_callS 1 (fX7_isPlace N) (c_ifeq (c_const (-1) c_iret) (c_aload 0 (c_getR 7 7 (c_iload 1 (c_iald (c_const (-6) (c_icmpne (c_aload 0 (c_getR 7 7 (c_iload 1 (c_iald (c_aload 0 (c_getR 7 0 (c_getI 2 7 (c_icmpeq (c_const (0) (c_istore 2 (c_const (0) (c_istore 3 (BX7_differs_43 N N))))) (c_const (-3) c_iret))))))))) (c_const (-1) c_iret))))))))))
def fX7_differs (N : Nat) : hf_F := hf_fn 2 4 (EX7_differs N)
abbrev rmX7_hasAlightNeighbour : Room := { frames := 1, cells := 0, slots := 0, locals := 25 }
abbrev SX7_hasAlightNeighbour (g : hf_G) (l : Launch) (pc : Nat) (k : hf_K hf_M) : Prop := hf_S hf_KS (hf_H g) hf_c0 (hf_Qm g) g l rmX7_hasAlightNeighbour cX7_hasAlightNeighbour 4 RX7 (some .boolean) pc k
def BX7_hasAlightNeighbour_2 (N : Nat) : Nat → hf_K hf_M
  | 0 => c_none
  | n + 1 => (c_iload 2 (c_const (8) (c_icmpge (c_const (0) c_zret) (c_aload 0 (c_getR 7 0 (c_iload 1 (c_iload 2 (c_const (1) (c_callV 2 3 (fX2_off N) (c_istore 3 (c_iload 3 (c_iflt (c_iinc 2 (1) (c_goto (BX7_hasAlightNeighbour_2 N n))) (c_aload 0 (c_getR 7 4 (c_getR 4 0 (c_iload 3 (c_iald (c_const (2) (c_icmpne (c_iinc 2 (1) (c_goto (BX7_hasAlightNeighbour_2 N n))) (c_const (1) c_zret))))))))))))))))))))
def EX7_hasAlightNeighbour (N : Nat) : hf_K hf_M := (c_const (0) (c_istore 2 (BX7_hasAlightNeighbour_2 N N)))
def fX7_hasAlightNeighbour (N : Nat) : hf_F := hf_fn 2 4 (EX7_hasAlightNeighbour N)
abbrev rmX7_front : Room := { frames := 2, cells := 0, slots := 0, locals := 48 }
abbrev SX7_front (g : hf_G) (l : Launch) (pc : Nat) (k : hf_K hf_M) : Prop := hf_S hf_KS (hf_H g) hf_c0 (hf_Qm g) g l rmX7_front cX7_front 4 RX7 (some .int) pc k
def BX7_front_4 (N : Nat) : Nat → hf_K hf_M
  | 0 => c_none
  | n + 1 => (c_iload 3 (c_aload 0 (c_getR 7 0 (c_getI 2 6 (c_icmpge (c_const (-6) c_iret) (c_aload 0 (c_getR 7 4 (c_getR 4 0 (c_iload 3 (c_iald (c_const (1) (c_icmpne (c_iinc 3 (1) (c_goto (BX7_front_4 N n))) (c_aload 0 (c_iload 3 (c_callV 7 1 (fX7_hasAlightNeighbour N) (c_ifeq (c_iinc 3 (1) (c_goto (BX7_front_4 N n))) (c_iload 2 (c_iload 1 (c_icmpne (c_iinc 2 (1) (c_iinc 3 (1) (c_goto (BX7_front_4 N n)))) (c_iload 3 c_iret))))))))))))))))))))
def EX7_front (N : Nat) : hf_K hf_M := (c_const (0) (c_istore 2 (c_const (0) (c_istore 3 (BX7_front_4 N N)))))
def fX7_front (N : Nat) : hf_F := hf_fn 2 4 (EX7_front N)
abbrev rmX7_grid : Room := { frames := 2, cells := 0, slots := 0, locals := 48 }
abbrev SX7_grid (g : hf_G) (l : Launch) (pc : Nat) (k : hf_K hf_M) : Prop := hf_S hf_KS (hf_H g) hf_c0 (hf_Qm g) g l rmX7_grid cX7_grid 3 RX7 (some .int) pc k
def EX7_grid (N : Nat) : hf_K hf_M := (c_iload 1 (c_const (2) (c_const (16) (c_callS 3 (fX7_isWithin N) (c_ifeq (c_const (-2) c_iret) (c_iload 2 (c_const (2) (c_const (16) (c_callS 3 (fX7_isWithin N) (c_ifne (c_aload 0 (c_getR 7 4 (c_getI 4 9 (c_ifle (c_aload 0 (c_getR 7 0 (c_iload 1 (c_iload 2 (c_callV 2 2 (fX2_layOut N) (c_aload 0 (c_getR 7 1 (c_const (0) (c_putI 6 2 (c_aload 0 (c_getR 7 2 (c_const (0) (c_putI 3 2 (c_aload 0 (c_getR 7 4 (c_aload 0 (c_getR 7 0 (c_callV 4 1 (fX4_begin N) (c_aload 0 (c_getR 7 0 (c_getI 2 6 c_iret))))))))))))))))))))) (c_const (-3) c_iret))))) (c_const (-2) c_iret)))))))))))
def fX7_grid (N : Nat) : hf_F := hf_fn 3 3 (EX7_grid N)
abbrev rmX7_hasCrew : Room := { frames := 0, cells := 0, slots := 0, locals := 0 }
abbrev SX7_hasCrew (g : hf_G) (l : Launch) (pc : Nat) (k : hf_K hf_M) : Prop := hf_S hf_KS (hf_H g) hf_c0 (hf_Qm g) g l rmX7_hasCrew cX7_hasCrew 2 RX7 (some .boolean) pc k
def EX7_hasCrew (N : Nat) : hf_K hf_M := (c_iload 1 (c_iflt (c_const (0) c_zret) (c_iload 1 (c_aload 0 (c_getR 7 4 (c_getI 4 8 (c_icmpge (c_const (0) c_zret) (c_const (1) (c_goto c_zret)))))))))
def fX7_hasCrew (N : Nat) : hf_F := hf_fn 2 2 (EX7_hasCrew N)
abbrev rmX7_halt : Room := { frames := 1, cells := 0, slots := 0, locals := 21 }
abbrev SX7_halt (g : hf_G) (l : Launch) (pc : Nat) (k : hf_K hf_M) : Prop := hf_S hf_KS (hf_H g) hf_c0 (hf_Qm g) g l rmX7_halt cX7_halt 4 RX7 (some .int) pc k
def EX7_halt (N : Nat) : hf_K hf_M := (c_aload 0 (c_iload 1 (c_callV 7 1 (fX7_hasCrew N) (c_ifne (c_aload 0 (c_getR 7 4 (c_getR 4 6 (c_iload 1 (c_aald (c_astore 2 (c_aload 2 (c_getI 0 9 (c_ifeq (c_aload 2 (c_getI 0 2 (c_istore 3 (c_aload 2 (c_callV 0 0 (fX0_dropPlan N) (c_iload 3 c_iret)))))) (c_const (-3) c_iret)))))))))) (c_const (-1) c_iret)))))
def fX7_halt (N : Nat) : hf_F := hf_fn 2 4 (EX7_halt N)
abbrev rmX7_keep : Room := { frames := 3, cells := 0, slots := 0, locals := 103 }
abbrev SX7_keep (g : hf_G) (l : Launch) (pc : Nat) (k : hf_K hf_M) : Prop := hf_S hf_KS (hf_H g) hf_c0 (hf_Qm g) g l rmX7_keep cX7_keep 2 RX7 (some .int) pc k
def EX7_keep (N : Nat) : hf_K hf_M := (c_iload 1 (c_callS 1 (fX7_isPlace N) (c_ifne (c_aload 0 (c_getR 7 6 (c_iload 1 (c_aald (c_aload 0 (c_getR 7 4 (c_callV 4 1 (fX4_copyFrom N) (c_aload 0 (c_getR 7 7 (c_iload 1 (c_aload 0 (c_getR 7 0 (c_getI 2 7 (c_iast (c_aload 0 (c_getR 7 4 (c_getI 4 9 c_iret))))))))))))))))) (c_const (-1) c_iret))))
def fX7_keep (N : Nat) : hf_F := hf_fn 2 2 (EX7_keep N)
abbrev rmX7_light : Room := { frames := 1, cells := 0, slots := 0, locals := 22 }
abbrev SX7_light (g : hf_G) (l : Launch) (pc : Nat) (k : hf_K hf_M) : Prop := hf_S hf_KS (hf_H g) hf_c0 (hf_Qm g) g l rmX7_light cX7_light 3 RX7 (some .int) pc k
def EX7_light (N : Nat) : hf_K hf_M := (c_aload 0 (c_getR 7 0 (c_iload 1 (c_callV 2 1 (fX2_has N) (c_ifne (c_iload 2 (c_const (0) (c_const (10000) (c_callS 3 (fX7_isWithin N) (c_ifne (c_aload 0 (c_getR 7 2 (c_getI 3 2 (c_const (20) (c_icmplt (c_aload 0 (c_getR 7 2 (c_iload 1 (c_iload 2 (c_callV 3 2 (fX3_add N) (c_aload 0 (c_getR 7 2 (c_getI 3 2 c_iret)))))))) (c_const (-4) c_iret)))))) (c_const (-2) c_iret)))))) (c_const (-1) c_iret))))))
def fX7_light (N : Nat) : hf_F := hf_fn 3 3 (EX7_light N)
abbrev rmX7_many : Room := { frames := 1, cells := 0, slots := 0, locals := 22 }
abbrev SX7_many (g : hf_G) (l : Launch) (pc : Nat) (k : hf_K hf_M) : Prop := hf_S hf_KS (hf_H g) hf_c0 (hf_Qm g) g l rmX7_many cX7_many 4 RX7 (some .int) pc k
def BX7_many_16 (N : Nat) : Nat → hf_K hf_M
  | 0 => c_none
  | n + 1 => (c_iload 3 (c_aload 0 (c_getR 7 0 (c_getI 2 6 (c_icmpge (c_iload 2 c_iret) (c_aload 0 (c_getR 7 4 (c_getR 4 0 (c_iload 3 (c_iald (c_iload 1 (c_icmpne (c_iinc 3 (1) (c_goto (BX7_many_16 N n))) (c_iinc 2 (1) (c_iinc 3 (1) (c_goto (BX7_many_16 N n))))))))))))))))
def EX7_many (N : Nat) : hf_K hf_M := (c_iload 1 (c_const (0) (c_const (5) (c_callS 3 (fX7_isWithin N) (c_ifne (c_const (0) (c_istore 2 (c_const (0) (c_istore 3 (BX7_many_16 N N))))) (c_const (-2) c_iret))))))
def fX7_many (N : Nat) : hf_F := hf_fn 2 4 (EX7_many N)
abbrev rmX7_ofCrew : Room := { frames := 1, cells := 0, slots := 0, locals := 21 }
abbrev SX7_ofCrew (g : hf_G) (l : Launch) (pc : Nat) (k : hf_K hf_M) : Prop := hf_S hf_KS (hf_H g) hf_c0 (hf_Qm g) g l rmX7_ofCrew cX7_ofCrew 4 RX7 (some .int) pc k
def EX7_ofCrew (N : Nat) : hf_K hf_M := (c_aload 0 (c_iload 1 (c_callV 7 1 (fX7_hasCrew N) (c_ifne (c_aload 0 (c_getR 7 4 (c_getR 4 6 (c_iload 1 (c_aald (c_astore 3 (c_iload 2 (c_tsw [(c_aload 3 (c_getI 0 4 c_iret)), (c_aload 3 (c_getI 0 5 c_iret)), (c_aload 3 (c_getI 0 2 (c_ifle (c_const (-6) c_iret) (c_aload 3 (c_getR 0 0 (c_const (0) (c_iald (c_goto c_iret)))))))), (c_aload 3 (c_getI 0 2 c_iret)), (c_aload 3 (c_getI 0 9 (c_ifeq (c_const (0) c_iret) (c_const (1) (c_goto c_iret))))), (c_aload 3 (c_getI 0 6 c_iret)), (c_aload 3 (c_getI 0 7 c_iret)), (c_aload 3 (c_getI 0 8 c_iret))] (c_const (-2) c_iret))))))))) (c_const (-1) c_iret)))))
def fX7_ofCrew (N : Nat) : hf_F := hf_fn 3 4 (EX7_ofCrew N)
abbrev rmX7_plan : Room := { frames := 1, cells := 0, slots := 0, locals := 22 }
abbrev SX7_plan (g : hf_G) (l : Launch) (pc : Nat) (k : hf_K hf_M) : Prop := hf_S hf_KS (hf_H g) hf_c0 (hf_Qm g) g l rmX7_plan cX7_plan 5 RX7 (some .int) pc k
def BX7_plan_52 (N : Nat) : hf_K hf_M := (c_aload 0 (c_getR 7 4 (c_getR 4 6 (c_iload 1 (c_aald (c_astore 4 (c_aload 4 (c_getI 0 9 (c_ifeq (c_aload 4 (c_getI 0 2 (c_const (12) (c_icmplt (c_aload 4 (c_iload 2 (c_iload 3 (c_callV 0 2 (fX0_addAct N) (c_aload 4 (c_getI 0 2 c_iret)))))) (c_const (-4) c_iret))))) (c_const (-3) c_iret))))))))))
def BX7_plan_26 (N : Nat) : hf_K hf_M := (c_iload 2 (c_const (0) (c_const (5) (c_callS 3 (fX7_isWithin N) (c_ifeq (c_const (-2) c_iret) (c_iload 2 (c_ifne (BX7_plan_52 N) (c_iload 3 (c_const (1) (c_const (100) (c_callS 3 (fX7_isWithin N) (c_ifne (BX7_plan_52 N) (c_const (-2) c_iret)))))))))))))
def EX7_plan (N : Nat) : hf_K hf_M := (c_aload 0 (c_iload 1 (c_callV 7 1 (fX7_hasCrew N) (c_ifeq (c_const (-1) c_iret) (c_iload 2 (c_const (1) (c_icmpne (BX7_plan_26 N) (c_aload 0 (c_getR 7 0 (c_iload 3 (c_callV 2 1 (fX2_has N) (c_ifne (BX7_plan_26 N) (c_const (-1) c_iret)))))))))))))
def fX7_plan (N : Nat) : hf_F := hf_fn 4 5 (EX7_plan N)
abbrev rmX7_seed : Room := { frames := 0, cells := 0, slots := 0, locals := 0 }
abbrev SX7_seed (g : hf_G) (l : Launch) (pc : Nat) (k : hf_K hf_M) : Prop := hf_S hf_KS (hf_H g) hf_c0 (hf_Qm g) g l rmX7_seed cX7_seed 3 RX7 (some .int) pc k
def EX7_seed (N : Nat) : hf_K hf_M := (c_aload 0 (c_getI 7 8 (c_istore 2 (c_aload 0 (c_iload 1 (c_putI 7 8 (c_iload 2 c_iret)))))))
def fX7_seed (N : Nat) : hf_F := hf_fn 2 3 (EX7_seed N)
abbrev rmX7_sky : Room := { frames := 1, cells := 0, slots := 0, locals := 23 }
abbrev SX7_sky (g : hf_G) (l : Launch) (pc : Nat) (k : hf_K hf_M) : Prop := hf_S hf_KS (hf_H g) hf_c0 (hf_Qm g) g l rmX7_sky cX7_sky 3 RX7 (some .int) pc k
def EX7_sky (N : Nat) : hf_K hf_M := (c_iload 1 (c_iflt (c_const (-2) c_iret) (c_iload 2 (c_const (0) (c_const (2) (c_callS 3 (fX7_isWithin N) (c_ifne (c_aload 0 (c_getR 7 1 (c_aload 0 (c_getR 7 1 (c_iload 1 (c_callV 6 1 (fX6_entryOf N) (c_iload 2 (c_callV 6 2 (fX6_read N) c_iret)))))))) (c_const (-2) c_iret))))))))
def fX7_sky (N : Nat) : hf_F := hf_fn 3 3 (EX7_sky N)
abbrev rmX7_step : Room := { frames := 6, cells := 0, slots := 0, locals := 140 }
abbrev SX7_step (g : hf_G) (l : Launch) (pc : Nat) (k : hf_K hf_M) : Prop := hf_S hf_KS (hf_H g) hf_c0 (hf_Qm g) g l rmX7_step cX7_step 3 RX7 (some .int) pc k
def BX7_step_16 (N : Nat) : Nat → hf_K hf_M
  | 0 => c_none
  | n + 1 => (c_iload 2 (c_iload 1 (c_icmpge (c_aload 0 (c_getR 7 4 (c_getI 4 9 c_iret))) (c_aload 0 (c_aload 0 (c_getR 7 4 (c_callV 7 1 (fX7_work N) (c_iinc 2 (1) (c_goto (BX7_step_16 N n))))))))))
def EX7_step (N : Nat) : hf_K hf_M := (c_iload 1 (c_const (0) (c_const (500) (c_callS 3 (fX7_isWithin N) (c_ifne (c_const (0) (c_istore 2 (BX7_step_16 N N))) (c_const (-2) c_iret))))))
def fX7_step (N : Nat) : hf_F := hf_fn 2 3 (EX7_step N)
abbrev rmX7_strip : Room := { frames := 0, cells := 0, slots := 0, locals := 0 }
abbrev SX7_strip (g : hf_G) (l : Launch) (pc : Nat) (k : hf_K hf_M) : Prop := hf_S hf_KS (hf_H g) hf_c0 (hf_Qm g) g l rmX7_strip cX7_strip 3 RX7 (some .int) pc k
def EX7_strip (N : Nat) : hf_K hf_M := (c_iload 1 (c_iflt (c_const (-1) c_iret) (c_iload 1 (c_aload 0 (c_getR 7 4 (c_getR 4 7 (c_getI 5 3 (c_icmplt (c_iload 2 (c_tsw [(c_aload 0 (c_getR 7 4 (c_getR 4 7 (c_getR 5 0 (c_iload 1 (c_iald c_iret)))))), (c_aload 0 (c_getR 7 4 (c_getR 4 7 (c_getR 5 1 (c_iload 1 (c_iald c_iret)))))), (c_aload 0 (c_getR 7 4 (c_getR 4 7 (c_getR 5 2 (c_iload 1 (c_iald c_iret))))))] (c_const (-2) c_iret))) (c_const (-1) c_iret)))))))))
def fX7_strip (N : Nat) : hf_F := hf_fn 3 3 (EX7_strip N)
abbrev rmX7_strips : Room := { frames := 1, cells := 0, slots := 0, locals := 25 }
abbrev SX7_strips (g : hf_G) (l : Launch) (pc : Nat) (k : hf_K hf_M) : Prop := hf_S hf_KS (hf_H g) hf_c0 (hf_Qm g) g l rmX7_strips cX7_strips 2 RX7 (some .int) pc k
def EX7_strips (N : Nat) : hf_K hf_M := (c_iload 1 (c_const (1) (c_const (8) (c_callS 3 (fX7_isWithin N) (c_ifeq (c_const (-2) c_iret) (c_iload 1 (c_aload 0 (c_getR 7 0 (c_getI 2 4 (c_icmple (c_aload 0 (c_getR 7 4 (c_getR 4 7 (c_aload 0 (c_getR 7 0 (c_getI 2 4 (c_iload 1 (c_callV 5 2 (fX5_part N) (c_aload 0 (c_getR 7 4 (c_getR 4 7 (c_const (0) (c_callV 5 1 (fX5_rowsOf N) c_iret))))))))))))) (c_const (-2) c_iret)))))))))))
def fX7_strips (N : Nat) : hf_F := hf_fn 2 2 (EX7_strips N)
abbrev rmX7_told : Room := { frames := 1, cells := 0, slots := 0, locals := 23 }
abbrev SX7_told (g : hf_G) (l : Launch) (pc : Nat) (k : hf_K hf_M) : Prop := hf_S hf_KS (hf_H g) hf_c0 (hf_Qm g) g l rmX7_told cX7_told 2 RX7 (some .int) pc k
def EX7_told (N : Nat) : hf_K hf_M := (c_iload 1 (c_tsw [(c_aload 0 (c_getR 7 0 (c_getI 2 4 c_iret))), (c_aload 0 (c_getR 7 0 (c_getI 2 5 c_iret))), (c_aload 0 (c_getR 7 4 (c_getI 4 9 c_iret))), (c_aload 0 (c_getR 7 1 (c_getI 6 2 c_iret))), (c_aload 0 (c_getR 7 4 (c_getI 4 8 c_iret))), (c_aload 0 (c_getR 7 4 (c_getR 4 7 (c_getI 5 3 c_iret)))), (c_aload 0 (c_getR 7 4 (c_getR 4 1 (c_aload 0 (c_getR 7 0 (c_getI 2 6 (c_callS 2 (fX7_sum N) c_iret))))))), (c_aload 0 (c_getR 7 4 (c_getR 4 3 (c_aload 0 (c_getR 7 0 (c_getI 2 6 (c_callS 2 (fX7_sum N) c_iret))))))), (c_aload 0 (c_getR 7 4 (c_getR 4 4 (c_aload 0 (c_getR 7 0 (c_getI 2 6 (c_callS 2 (fX7_sum N) c_iret))))))), (c_aload 0 (c_getR 7 4 (c_getI 4 10 c_iret))), (c_aload 0 (c_getR 7 4 (c_getI 4 11 c_iret))), (c_aload 0 (c_getR 7 4 (c_getI 4 12 c_iret))), (c_aload 0 (c_getR 7 4 (c_getI 4 13 c_iret))), (c_aload 0 (c_getR 7 4 (c_getI 4 14 c_iret)))] (c_const (-2) c_iret)))
def fX7_told (N : Nat) : hf_F := hf_fn 2 2 (EX7_told N)
abbrev rmX7_weather : Room := { frames := 1, cells := 0, slots := 0, locals := 25 }
abbrev SX7_weather (g : hf_G) (l : Launch) (pc : Nat) (k : hf_K hf_M) : Prop := hf_S hf_KS (hf_H g) hf_c0 (hf_Qm g) g l rmX7_weather cX7_weather 5 RX7 (some .int) pc k
def EX7_weather (N : Nat) : hf_K hf_M := (c_iload 1 (c_const (0) (c_const (10000) (c_callS 3 (fX7_isWithin N) (c_ifeq (c_const (-2) c_iret) (c_iload 2 (c_const (0) (c_const (7) (c_callS 3 (fX7_isWithin N) (c_ifeq (c_const (-2) c_iret) (c_iload 3 (c_const (0) (c_const (4) (c_callS 3 (fX7_isWithin N) (c_ifeq (c_const (-2) c_iret) (c_iload 4 (c_const (0) (c_const (9) (c_callS 3 (fX7_isWithin N) (c_ifne (c_aload 0 (c_getR 7 1 (c_getI 6 2 (c_const (16) (c_icmplt (c_aload 0 (c_getR 7 1 (c_iload 1 (c_iload 2 (c_iload 3 (c_iload 4 (c_callV 6 4 (fX6_add N) (c_aload 0 (c_getR 7 1 (c_getI 6 2 c_iret)))))))))) (c_const (-4) c_iret)))))) (c_const (-2) c_iret)))))))))))))))))))))
def fX7_weather (N : Nat) : hf_F := hf_fn 5 5 (EX7_weather N)
abbrev rmX8_in : Room := { frames := 0, cells := 0, slots := 0, locals := 0 }
abbrev SX8_in (g : hf_G) (l : Launch) (pc : Nat) (k : hf_K hf_M) : Prop := hf_S hf_KS (hf_H g) hf_c0 (hf_Qm g) g l rmX8_in cX8_in 3 RX8 (some .boolean) pc k
def EX8_in (N : Nat) : hf_K hf_M := (c_iload 0 (c_iload 1 (c_icmplt (c_const (0) c_zret) (c_iload 0 (c_iload 2 (c_icmpgt (c_const (0) c_zret) (c_const (1) (c_goto c_zret))))))))
def fX8_in (N : Nat) : hf_F := hf_fn 3 3 (EX8_in N)
abbrev rmX8_isCell : Room := { frames := 1, cells := 0, slots := 0, locals := 22 }
abbrev SX8_isCell (g : hf_G) (l : Launch) (pc : Nat) (k : hf_K hf_M) : Prop := hf_S hf_KS (hf_H g) hf_c0 (hf_Qm g) g l rmX8_isCell cX8_isCell 2 RX8 (some .boolean) pc k
def EX8_isCell (N : Nat) : hf_K hf_M := (c_iload 1 (c_const (0) (c_aload 0 (c_getI 8 2 (c_const (1) (c_isub (c_callS 3 (fX8_in N) c_zret)))))))
def fX8_isCell (N : Nat) : hf_F := hf_fn 2 2 (EX8_isCell N)
abbrev rmX8_about : Room := { frames := 2, cells := 0, slots := 0, locals := 43 }
abbrev SX8_about (g : hf_G) (l : Launch) (pc : Nat) (k : hf_K hf_M) : Prop := hf_S hf_KS (hf_H g) hf_c0 (hf_Qm g) g l rmX8_about cX8_about 3 RX8 (some .int) pc k
def EX8_about (N : Nat) : hf_K hf_M := (c_aload 0 (c_iload 1 (c_callV 8 1 (fX8_isCell N) (c_ifne (c_iload 2 (c_tsw [(c_aload 0 (c_getR 8 17 (c_const (0) (c_iload 1 (c_iadd (c_iald c_iret)))))), (c_aload 0 (c_getR 8 17 (c_const (256) (c_iload 1 (c_iadd (c_iald c_iret)))))), (c_aload 0 (c_getR 8 17 (c_const (512) (c_iload 1 (c_iadd (c_iald c_iret)))))), (c_aload 0 (c_getR 8 17 (c_const (768) (c_iload 1 (c_iadd (c_iald c_iret)))))), (c_aload 0 (c_getR 8 17 (c_const (1024) (c_iload 1 (c_iadd (c_iald c_iret)))))), (c_aload 0 (c_getR 8 3 (c_iload 1 (c_iald c_iret)))), (c_aload 0 (c_getR 8 4 (c_iload 1 (c_iald c_iret)))), (c_aload 0 (c_getR 8 17 (c_const (1280) (c_iload 1 (c_iadd (c_iald c_iret))))))] (c_const (-2) c_iret))) (c_const (-1) c_iret)))))
def fX8_about (N : Nat) : hf_F := hf_fn 3 3 (EX8_about N)
abbrev rmX8_isAbout : Room := { frames := 1, cells := 0, slots := 0, locals := 22 }
abbrev SX8_isAbout (g : hf_G) (l : Launch) (pc : Nat) (k : hf_K hf_M) : Prop := hf_S hf_KS (hf_H g) hf_c0 (hf_Qm g) g l rmX8_isAbout cX8_isAbout 5 RX8 (some .boolean) pc k
def EX8_isAbout (N : Nat) : hf_K hf_M := (c_iload 1 (c_aload 0 (c_getI 8 1 (c_idiv (c_iload 2 (c_aload 0 (c_getI 8 1 (c_idiv (c_isub (c_istore 3 (c_iload 1 (c_aload 0 (c_getI 8 1 (c_irem (c_iload 2 (c_aload 0 (c_getI 8 1 (c_irem (c_isub (c_istore 4 (c_iload 1 (c_iload 2 (c_icmpeq (c_const (0) c_zret) (c_iload 3 (c_const (-1) (c_const (1) (c_callS 3 (fX8_in N) (c_ifeq (c_const (0) c_zret) (c_iload 4 (c_const (-1) (c_const (1) (c_callS 3 (fX8_in N) (c_ifeq (c_const (0) c_zret) (c_const (1) (c_goto c_zret)))))))))))))))))))))))))))))))))))
def fX8_isAbout (N : Nat) : hf_F := hf_fn 3 5 (EX8_isAbout N)
abbrev rmX8_over : Room := { frames := 0, cells := 0, slots := 0, locals := 0 }
abbrev SX8_over (g : hf_G) (l : Launch) (pc : Nat) (k : hf_K hf_M) : Prop := hf_S hf_KS (hf_H g) hf_c0 (hf_Qm g) g l rmX8_over cX8_over 4 RX8 none pc k
def BX8_over_33 (N : Nat) : Nat → hf_K hf_M
  | 0 => c_none
  | n + 1 => (c_iload 3 (c_const (2) (c_aload 0 (c_getR 8 17 (c_iload 2 (c_const (2) (c_iadd (c_iald (c_imul (c_icmpge c_vret (c_aload 0 (c_getR 8 17 (c_const (1600) (c_const (24) (c_iload 1 (c_imul (c_iadd (c_iload 3 (c_iadd (c_aload 0 (c_getR 8 17 (c_const (1600) (c_const (24) (c_iload 1 (c_imul (c_iadd (c_const (2) (c_iadd (c_iload 3 (c_iadd (c_iald (c_iast (c_iinc 3 (1) (c_goto (BX8_over_33 N n)))))))))))))))))))))))))))))))))))
def EX8_over (N : Nat) : hf_K hf_M := (c_const (1536) (c_const (8) (c_iload 1 (c_imul (c_iadd (c_istore 2 (c_aload 0 (c_getR 8 17 (c_iload 2 (c_const (2) (c_iadd (c_dup2 (c_iald (c_const (1) (c_isub (c_iast (c_aload 0 (c_getR 8 17 (c_iload 2 (c_const (7) (c_iadd (c_const (0) (c_iast (c_const (0) (c_istore 3 (BX8_over_33 N N))))))))))))))))))))))))))
def fX8_over (N : Nat) : hf_F := hf_fn 2 4 (EX8_over N)
abbrev rmX8_douses : Room := { frames := 2, cells := 0, slots := 0, locals := 46 }
abbrev SX8_douses (g : hf_G) (l : Launch) (pc : Nat) (k : hf_K hf_M) : Prop := hf_S hf_KS (hf_H g) hf_c0 (hf_Qm g) g l rmX8_douses cX8_douses 6 RX8 none pc k
def BX8_douses_116 (N : Nat) : hf_K hf_M := (c_iload 3 (c_iflt (c_aload 0 (c_iload 1 (c_callV 8 1 (fX8_over N) c_vret))) (c_aload 0 (c_getR 8 17 (c_const (0) (c_iload 3 (c_iadd (c_const (5) (c_iast (c_aload 0 (c_getR 8 17 (c_const (768) (c_iload 3 (c_iadd (c_const (0) (c_iast (c_aload 0 (c_getR 8 17 (c_iload 2 (c_const (1) (c_iadd (c_dup2 (c_iald (c_const (1) (c_isub (c_iast (c_aload 0 (c_getR 8 17 (c_iload 2 (c_const (6) (c_iadd (c_dup2 (c_iald (c_const (1) (c_iadd (c_iast (c_aload 0 (c_iload 1 (c_callV 8 1 (fX8_over N) c_vret)))))))))))))))))))))))))))))))))))))))
def BX8_douses_68 (N : Nat) (k15 : hf_K hf_M) : hf_K hf_M := (c_istore 5 (c_iload 5 (c_ifeq (c_iload 3 (c_istore 3 (c_iinc 4 (1) (c_goto k15)))) (c_iload 3 (c_iflt (c_iload 4 (c_goto (c_istore 3 (c_iinc 4 (1) (c_goto k15))))) (c_aload 0 (c_getR 8 17 (c_const (768) (c_iload 4 (c_iadd (c_iald (c_aload 0 (c_getR 8 17 (c_const (768) (c_iload 3 (c_iadd (c_iald (c_icmple (c_iload 3 (c_istore 3 (c_iinc 4 (1) (c_goto k15)))) (c_iload 4 (c_goto (c_istore 3 (c_iinc 4 (1) (c_goto k15)))))))))))))))))))))))
def BX8_douses_67 (N : Nat) (k15 : hf_K hf_M) : hf_K hf_M := (c_const (0) (BX8_douses_68 N k15))
def BX8_douses_15 (N : Nat) : Nat → hf_K hf_M
  | 0 => c_none
  | n + 1 => (c_iload 4 (c_aload 0 (c_getI 8 2 (c_icmpge (BX8_douses_116 N) (c_aload 0 (c_getR 8 17 (c_iload 2 (c_const (1) (c_iadd (c_iald (c_ifle (BX8_douses_116 N) (c_aload 0 (c_getR 8 17 (c_const (0) (c_iload 4 (c_iadd (c_iald (c_const (2) (c_icmpne (BX8_douses_67 N (BX8_douses_15 N n)) (c_aload 0 (c_aload 0 (c_getR 8 17 (c_iload 2 (c_iald (c_iload 4 (c_callV 8 2 (fX8_isAbout N) (c_ifeq (BX8_douses_67 N (BX8_douses_15 N n)) (c_const (1) (c_goto (BX8_douses_68 N (BX8_douses_15 N n)))))))))))))))))))))))))))))))
def EX8_douses (N : Nat) : hf_K hf_M := (c_const (1536) (c_const (8) (c_iload 1 (c_imul (c_iadd (c_istore 2 (c_const (-6) (c_istore 3 (c_const (0) (c_istore 4 (BX8_douses_15 N N)))))))))))
def fX8_douses (N : Nat) : hf_F := hf_fn 2 6 (EX8_douses N)
abbrev rmX8_fills : Room := { frames := 2, cells := 0, slots := 0, locals := 46 }
abbrev SX8_fills (g : hf_G) (l : Launch) (pc : Nat) (k : hf_K hf_M) : Prop := hf_S hf_KS (hf_H g) hf_c0 (hf_Qm g) g l rmX8_fills cX8_fills 5 RX8 none pc k
def BX8_fills_32 (N : Nat) : Nat → hf_K hf_M
  | 0 => c_none
  | n + 1 => (c_iload 4 (c_aload 0 (c_getI 8 2 (c_icmpge (c_aload 0 (c_getR 8 17 (c_iload 2 (c_const (1) (c_iadd (c_iload 3 (c_ifeq (c_aload 0 (c_getR 8 17 (c_iload 2 (c_const (1) (c_iadd (c_iald (c_iast (c_aload 0 (c_iload 1 (c_callV 8 1 (fX8_over N) c_vret)))))))))) (c_const (40) (c_goto (c_iast (c_aload 0 (c_iload 1 (c_callV 8 1 (fX8_over N) c_vret))))))))))))) (c_iload 3 (c_ifne (c_const (1) (c_goto (c_istore 3 (c_iinc 4 (1) (c_goto (BX8_fills_32 N n)))))) (c_aload 0 (c_getR 8 3 (c_iload 4 (c_iald (c_ifne (c_const (0) (c_istore 3 (c_iinc 4 (1) (c_goto (BX8_fills_32 N n))))) (c_aload 0 (c_aload 0 (c_getR 8 17 (c_iload 2 (c_iald (c_iload 4 (c_callV 8 2 (fX8_isAbout N) (c_ifeq (c_const (0) (c_istore 3 (c_iinc 4 (1) (c_goto (BX8_fills_32 N n))))) (c_const (1) (c_goto (c_istore 3 (c_iinc 4 (1) (c_goto (BX8_fills_32 N n)))))))))))))))))))))))))
def BX8_fills_28 (N : Nat) : hf_K hf_M := (c_istore 3 (c_const (0) (c_istore 4 (BX8_fills_32 N N))))
def EX8_fills (N : Nat) : hf_K hf_M := (c_const (1536) (c_const (8) (c_iload 1 (c_imul (c_iadd (c_istore 2 (c_aload 0 (c_getR 8 3 (c_aload 0 (c_getR 8 17 (c_iload 2 (c_iald (c_iald (c_ifne (c_const (0) (BX8_fills_28 N)) (c_const (1) (c_goto (BX8_fills_28 N)))))))))))))))))
def fX8_fills (N : Nat) : hf_F := hf_fn 2 5 (EX8_fills N)
abbrev rmX8_goes : Room := { frames := 1, cells := 0, slots := 0, locals := 23 }
abbrev SX8_goes (g : hf_G) (l : Launch) (pc : Nat) (k : hf_K hf_M) : Prop := hf_S hf_KS (hf_H g) hf_c0 (hf_Qm g) g l rmX8_goes cX8_goes 8 RX8 none pc k
def BX8_goes_154 (N : Nat) : hf_K hf_M := (c_aload 0 (c_getR 8 17 (c_iload 3 (c_const (4) (c_iadd (c_dup2 (c_iald (c_const (1) (c_iadd (c_iast (c_aload 0 (c_iload 1 (c_callV 8 1 (fX8_over N) c_vret)))))))))))))
def BX8_goes_116 (N : Nat) : hf_K hf_M := (c_iadd (c_istore 6 (c_iload 5 (c_aload 0 (c_getI 8 1 (c_imul (c_iload 6 (c_iadd (c_istore 7 (c_aload 0 (c_getR 8 17 (c_const (0) (c_iload 7 (c_iadd (c_iald (c_const (2) (c_icmpeq (BX8_goes_154 N) (c_aload 0 (c_getR 8 3 (c_iload 7 (c_iald (c_ifne (c_aload 0 (c_getR 8 17 (c_iload 3 (c_iload 7 (c_iast (c_iload 7 (c_iload 2 (c_icmpne c_vret (c_aload 0 (c_iload 1 (c_callV 8 1 (fX8_over N) c_vret))))))))))) (BX8_goes_154 N)))))))))))))))))))))))
def BX8_goes_80 (N : Nat) : hf_K hf_M := (c_iadd (c_istore 5 (c_iload 6 (c_iload 2 (c_aload 0 (c_getI 8 1 (c_irem (c_iload 6 (c_icmple (c_iload 2 (c_aload 0 (c_getI 8 1 (c_irem (c_iload 6 (c_icmpge (c_const (0) (BX8_goes_116 N)) (c_const (-1) (c_goto (BX8_goes_116 N))))))))) (c_const (1) (c_goto (BX8_goes_116 N))))))))))))
def EX8_goes (N : Nat) : hf_K hf_M := (c_const (1536) (c_const (8) (c_iload 1 (c_imul (c_iadd (c_istore 3 (c_aload 0 (c_getR 8 17 (c_iload 3 (c_iald (c_istore 4 (c_iload 4 (c_iload 2 (c_icmpne (c_iload 4 (c_aload 0 (c_getI 8 1 (c_idiv (c_istore 5 (c_iload 4 (c_aload 0 (c_getI 8 1 (c_irem (c_istore 6 (c_iload 5 (c_iload 2 (c_aload 0 (c_getI 8 1 (c_idiv (c_iload 5 (c_icmple (c_iload 2 (c_aload 0 (c_getI 8 1 (c_idiv (c_iload 5 (c_icmpge (c_const (0) (BX8_goes_80 N)) (c_const (-1) (c_goto (BX8_goes_80 N))))))))) (c_const (1) (c_goto (BX8_goes_80 N)))))))))))))))))))) (c_aload 0 (c_iload 1 (c_callV 8 1 (fX8_over N) c_vret)))))))))))))))))
def fX8_goes (N : Nat) : hf_F := hf_fn 3 8 (EX8_goes N)
abbrev rmX8_kindle : Room := { frames := 0, cells := 0, slots := 0, locals := 0 }
abbrev SX8_kindle (g : hf_G) (l : Launch) (pc : Nat) (k : hf_K hf_M) : Prop := hf_S hf_KS (hf_H g) hf_c0 (hf_Qm g) g l rmX8_kindle cX8_kindle 2 RX8 none pc k
def EX8_kindle (N : Nat) : hf_K hf_M := (c_aload 0 (c_getR 8 17 (c_const (0) (c_iload 1 (c_iadd (c_iald (c_const (1) (c_icmpne c_vret (c_aload 0 (c_getR 8 17 (c_const (0) (c_iload 1 (c_iadd (c_const (2) (c_iast (c_aload 0 (c_getR 8 17 (c_const (1280) (c_iload 1 (c_iadd (c_aload 0 (c_getR 8 17 (c_const (1280) (c_iload 1 (c_iadd (c_iald (c_const (-6) (c_icmpne (c_aload 0 (c_getR 8 17 (c_const (1280) (c_iload 1 (c_iadd (c_iald (c_iast c_vret))))))) (c_aload 0 (c_getR 8 17 (c_const (1816) (c_iald (c_goto (c_iast c_vret))))))))))))))))))))))))))))))))))
def fX8_kindle (N : Nat) : hf_F := hf_fn 2 2 (EX8_kindle N)
abbrev rmX8_acts : Room := { frames := 3, cells := 0, slots := 0, locals := 71 }
abbrev SX8_acts (g : hf_G) (l : Launch) (pc : Nat) (k : hf_K hf_M) : Prop := hf_S hf_KS (hf_H g) hf_c0 (hf_Qm g) g l rmX8_acts cX8_acts 5 RX8 none pc k
def EX8_acts (N : Nat) : hf_K hf_M := (c_const (1536) (c_const (8) (c_iload 1 (c_imul (c_iadd (c_istore 2 (c_aload 0 (c_getR 8 17 (c_iload 2 (c_iald (c_istore 3 (c_aload 0 (c_getR 8 17 (c_const (1600) (c_const (24) (c_iload 1 (c_imul (c_iadd (c_const (1) (c_iadd (c_iald (c_istore 4 (c_aload 0 (c_getR 8 17 (c_const (1600) (c_const (24) (c_iload 1 (c_imul (c_iadd (c_iald (c_tsw [(c_aload 0 (c_getR 8 17 (c_iload 2 (c_const (7) (c_iadd (c_dup2 (c_iald (c_const (1) (c_iadd (c_iast (c_aload 0 (c_getR 8 17 (c_iload 2 (c_const (7) (c_iadd (c_iald (c_iload 4 (c_icmpne c_vret (c_aload 0 (c_iload 1 (c_callV 8 1 (fX8_over N) (c_goto c_vret)))))))))))))))))))))), (c_aload 0 (c_iload 1 (c_iload 4 (c_callV 8 2 (fX8_goes N) (c_goto c_vret))))), (c_aload 0 (c_getR 8 17 (c_const (0) (c_iload 3 (c_iadd (c_iald (c_const (1) (c_icmpeq (c_aload 0 (c_getR 8 17 (c_iload 2 (c_const (7) (c_iadd (c_iald (c_ifne (c_aload 0 (c_getR 8 17 (c_const (0) (c_iload 3 (c_iadd (c_const (4) (c_iast (c_aload 0 (c_getR 8 17 (c_const (256) (c_iload 3 (c_iadd (c_const (0) (c_iast (c_aload 0 (c_getR 8 17 (c_iload 2 (c_const (5) (c_iadd (c_dup2 (c_iald (c_const (1) (c_iadd (c_iast (c_aload 0 (c_iload 1 (c_callV 8 1 (fX8_over N) (c_goto c_vret)))))))))))))))))))))))))))) (c_aload 0 (c_getR 8 17 (c_iload 2 (c_const (7) (c_iadd (c_const (1) (c_iast (c_goto c_vret))))))))))))))) (c_aload 0 (c_iload 1 (c_callV 8 1 (fX8_over N) (c_goto c_vret)))))))))))), (c_aload 0 (c_iload 1 (c_callV 8 1 (fX8_douses N) (c_goto c_vret)))), (c_aload 0 (c_iload 1 (c_callV 8 1 (fX8_fills N) (c_goto c_vret))))] (c_aload 0 (c_iload 3 (c_callV 8 1 (fX8_kindle N) (c_aload 0 (c_iload 1 (c_callV 8 1 (fX8_over N) c_vret)))))))))))))))))))))))))))))))))))))
def fX8_acts (N : Nat) : hf_F := hf_fn 2 5 (EX8_acts N)
abbrev rmX8_load : Room := { frames := 0, cells := 0, slots := 0, locals := 0 }
abbrev SX8_load (g : hf_G) (l : Launch) (pc : Nat) (k : hf_K hf_M) : Prop := hf_S hf_KS (hf_H g) hf_c0 (hf_Qm g) g l rmX8_load cX8_load 3 RX8 none pc k
def BX8_load_2 (N : Nat) : Nat → hf_K hf_M
  | 0 => c_none
  | n + 1 => (c_iload 2 (c_const (1824) (c_icmpge c_vret (c_aload 0 (c_getR 8 17 (c_iload 2 (c_aload 0 (c_getR 8 18 (c_const (1824) (c_iload 1 (c_imul (c_iload 2 (c_iadd (c_iald (c_iast (c_iinc 2 (1) (c_goto (BX8_load_2 N n))))))))))))))))))
def EX8_load (N : Nat) : hf_K hf_M := (c_const (0) (c_istore 2 (BX8_load_2 N N)))
def fX8_load (N : Nat) : hf_F := hf_fn 2 3 (EX8_load N)
abbrev rmX8_save : Room := { frames := 0, cells := 0, slots := 0, locals := 0 }
abbrev SX8_save (g : hf_G) (l : Launch) (pc : Nat) (k : hf_K hf_M) : Prop := hf_S hf_KS (hf_H g) hf_c0 (hf_Qm g) g l rmX8_save cX8_save 3 RX8 none pc k
def BX8_save_2 (N : Nat) : Nat → hf_K hf_M
  | 0 => c_none
  | n + 1 => (c_iload 2 (c_const (1824) (c_icmpge c_vret (c_aload 0 (c_getR 8 18 (c_const (1824) (c_iload 1 (c_imul (c_iload 2 (c_iadd (c_aload 0 (c_getR 8 17 (c_iload 2 (c_iald (c_iast (c_iinc 2 (1) (c_goto (BX8_save_2 N n))))))))))))))))))
def EX8_save (N : Nat) : hf_K hf_M := (c_const (0) (c_istore 2 (BX8_save_2 N N)))
def fX8_save (N : Nat) : hf_F := hf_fn 2 3 (EX8_save N)
abbrev rmX8_balance : Room := { frames := 0, cells := 0, slots := 0, locals := 0 }
abbrev SX8_balance (g : hf_G) (l : Launch) (pc : Nat) (k : hf_K hf_M) : Prop := hf_S hf_KS (hf_H g) hf_c0 (hf_Qm g) g l rmX8_balance cX8_balance 9 RX8 none pc k
def BX8_balance_408 (N : Nat) (k308 : hf_K hf_M) : Nat → hf_K hf_M
  | 0 => c_none
  | n + 1 => (c_iload 8 (c_const (3) (c_iload 1 (c_imul (c_const (3) (c_isub (c_icmpge (c_aload 0 (c_getR 8 17 (c_const (1818) (c_dup2 (c_iald (c_const (1) (c_isub (c_iast (c_aload 0 (c_getR 8 17 (c_const (1823) (c_dup2 (c_iald (c_const (1) (c_iadd (c_iast c_vret)))))))))))))))) (c_aload 0 (c_getR 8 17 (c_const (1792) (c_iload 8 (c_iadd (c_aload 0 (c_getR 8 17 (c_const (1792) (c_iload 8 (c_iadd (c_const (3) (c_iadd (c_iald (c_iast (c_iinc 8 (1) (c_goto (BX8_balance_408 N k308 n))))))))))))))))))))))))
def BX8_balance_308 (N : Nat) : Nat → hf_K hf_M
  | 0 => c_none
  | n + 1 => (c_iload 7 (c_const (1) (c_iadd (c_iload 1 (c_icmpge c_vret (c_aload 0 (c_getR 8 17 (c_const (1792) (c_const (3) (c_iload 7 (c_imul (c_iadd (c_const (2) (c_iadd (c_iald (c_aload 0 (c_getR 8 17 (c_const (1792) (c_const (3) (c_iload 7 (c_imul (c_iadd (c_const (5) (c_iadd (c_iald (c_iadd (c_iload 4 (c_const (2) (c_idiv (c_icmpge (c_iinc 7 (1) (c_goto (BX8_balance_308 N n))) (c_aload 0 (c_getR 8 17 (c_const (1792) (c_const (3) (c_iload 7 (c_imul (c_iadd (c_const (1) (c_iadd (c_aload 0 (c_getR 8 17 (c_const (1792) (c_const (3) (c_iload 7 (c_imul (c_iadd (c_const (4) (c_iadd (c_iald (c_iast (c_aload 0 (c_getR 8 17 (c_const (1792) (c_const (3) (c_iload 7 (c_imul (c_iadd (c_const (2) (c_iadd (c_const (0) (c_iast (c_const (3) (c_iload 7 (c_imul (c_const (3) (c_iadd (c_istore 8 (BX8_balance_408 N (BX8_balance_308 N n) N))))))))))))))))))))))))))))))))))))))))))))))))))))))))))))))))))))
def BX8_balance_305 (N : Nat) : hf_K hf_M := (c_const (0) (c_istore 7 (BX8_balance_308 N N)))
def BX8_balance_161 (N : Nat) : Nat → hf_K hf_M
  | 0 => c_none
  | n + 1 => (c_iload 7 (c_const (3) (c_iload 3 (c_imul (c_icmplt (c_iload 6 (c_iload 5 (c_isub (c_const (1) (c_iadd (c_const (2) (c_idiv (c_istore 7 (c_aload 0 (c_getR 8 17 (c_const (1792) (c_const (3) (c_iload 3 (c_imul (c_iadd (c_const (1) (c_iadd (c_iload 5 (c_iload 7 (c_iadd (c_const (1) (c_isub (c_iast (c_aload 0 (c_getR 8 17 (c_const (1792) (c_const (3) (c_iload 3 (c_imul (c_iadd (c_const (2) (c_iadd (c_const (0) (c_iast (c_aload 0 (c_getR 8 17 (c_const (1792) (c_const (3) (c_iload 3 (c_imul (c_iadd (c_const (3) (c_iadd (c_iload 5 (c_iload 7 (c_iadd (c_iast (c_aload 0 (c_getR 8 17 (c_const (1792) (c_const (3) (c_iload 3 (c_imul (c_iadd (c_const (5) (c_iadd (c_const (0) (c_iast (c_aload 0 (c_getR 8 17 (c_const (1818) (c_dup2 (c_iald (c_const (1) (c_iadd (c_iast (c_aload 0 (c_getR 8 17 (c_const (1822) (c_dup2 (c_iald (c_const (1) (c_iadd (c_iast c_vret)))))))))))))))))))))))))))))))))))))))))))))))))))))))))))))))))))))))))) (c_aload 0 (c_getR 8 17 (c_const (1792) (c_iload 7 (c_iadd (c_const (3) (c_iadd (c_aload 0 (c_getR 8 17 (c_const (1792) (c_iload 7 (c_iadd (c_iald (c_iast (c_iinc 7 (-1) (c_goto (BX8_balance_161 N n))))))))))))))))))))))
def BX8_balance_16 (N : Nat) : Nat → hf_K hf_M
  | 0 => c_none
  | n + 1 => (c_iload 4 (c_iload 1 (c_icmpge (c_iload 2 (c_iload 1 (c_idiv (c_istore 4 (c_aload 0 (c_getR 8 17 (c_const (1792) (c_const (3) (c_iload 3 (c_imul (c_iadd (c_iald (c_istore 5 (c_aload 0 (c_getR 8 17 (c_const (1792) (c_const (3) (c_iload 3 (c_imul (c_iadd (c_const (1) (c_iadd (c_iald (c_istore 6 (c_aload 0 (c_getR 8 17 (c_const (1792) (c_const (3) (c_iload 3 (c_imul (c_iadd (c_const (2) (c_iadd (c_iald (c_const (2) (c_iload 4 (c_imul (c_icmple (BX8_balance_305 N) (c_iload 6 (c_iload 5 (c_icmple (BX8_balance_305 N) (c_iload 1 (c_const (8) (c_icmpge (BX8_balance_305 N) (c_const (3) (c_iload 1 (c_imul (c_const (1) (c_isub (c_istore 7 (BX8_balance_161 N N))))))))))))))))))))))))))))))))))))))))))))))))))) (c_iload 2 (c_aload 0 (c_getR 8 17 (c_const (1792) (c_const (3) (c_iload 4 (c_imul (c_iadd (c_const (2) (c_iadd (c_iald (c_iadd (c_istore 2 (c_aload 0 (c_getR 8 17 (c_const (1792) (c_const (3) (c_iload 4 (c_imul (c_iadd (c_const (2) (c_iadd (c_iald (c_aload 0 (c_getR 8 17 (c_const (1792) (c_const (3) (c_iload 3 (c_imul (c_iadd (c_const (2) (c_iadd (c_iald (c_icmple (c_iload 3 (c_istore 3 (c_iinc 4 (1) (c_goto (BX8_balance_16 N n))))) (c_iload 4 (c_goto (c_istore 3 (c_iinc 4 (1) (c_goto (BX8_balance_16 N n)))))))))))))))))))))))))))))))))))))))))))
def EX8_balance (N : Nat) : hf_K hf_M := (c_aload 0 (c_getR 8 17 (c_const (1818) (c_iald (c_istore 1 (c_const (0) (c_istore 2 (c_const (0) (c_istore 3 (c_const (0) (c_istore 4 (BX8_balance_16 N N))))))))))))
def fX8_balance (N : Nat) : hf_F := hf_fn 1 9 (EX8_balance N)
abbrev rmX8_lot : Room := { frames := 0, cells := 0, slots := 0, locals := 0 }
abbrev SX8_lot (g : hf_G) (l : Launch) (pc : Nat) (k : hf_K hf_M) : Prop := hf_S hf_KS (hf_H g) hf_c0 (hf_Qm g) g l rmX8_lot cX8_lot 5 RX8 (some .int) pc k
def EX8_lot (N : Nat) : hf_K hf_M := (c_aload 0 (c_getI 8 12 (c_const (69069) (c_imul (c_iload 1 (c_const (40503) (c_imul (c_iadd (c_iload 2 (c_const (2654435) (c_imul (c_iadd (c_iload 3 (c_const (9973) (c_imul (c_iadd (c_istore 4 (c_iload 4 (c_iload 4 (c_const (15) (c_iushr (c_ixor (c_const (739982445) (c_imul (c_istore 4 (c_iload 4 (c_iload 4 (c_const (15) (c_iushr (c_ixor (c_const (739982445) (c_imul (c_istore 4 (c_iload 4 (c_const (16) (c_iushr c_iret))))))))))))))))))))))))))))))))))))
def fX8_lot (N : Nat) : hf_F := hf_fn 4 5 (EX8_lot N)
abbrev rmX8_down : Room := { frames := 0, cells := 0, slots := 0, locals := 0 }
abbrev SX8_down (g : hf_G) (l : Launch) (pc : Nat) (k : hf_K hf_M) : Prop := hf_S hf_KS (hf_H g) hf_c0 (hf_Qm g) g l rmX8_down cX8_down 1 RX8 (some .int) pc k
def EX8_down (N : Nat) : hf_K hf_M := (c_iload 0 (c_const (7) (c_icmpeq (c_const (-1) (c_goto c_iret)) (c_iload 0 (c_const (2) (c_icmpge (c_iload 0 (c_const (2) (c_icmpeq (c_const (0) (c_goto c_iret)) (c_iload 0 (c_const (6) (c_icmpne (c_const (1) c_iret) (c_const (0) (c_goto c_iret)))))))) (c_const (-1) (c_goto c_iret))))))))
def fX8_down (N : Nat) : hf_F := hf_fn 1 1 (EX8_down N)
abbrev rmX8_right : Room := { frames := 0, cells := 0, slots := 0, locals := 0 }
abbrev SX8_right (g : hf_G) (l : Launch) (pc : Nat) (k : hf_K hf_M) : Prop := hf_S hf_KS (hf_H g) hf_c0 (hf_Qm g) g l rmX8_right cX8_right 1 RX8 (some .int) pc k
def BX8_right_13 (N : Nat) : hf_K hf_M := (c_iload 0 (c_ifeq (c_const (0) (c_goto c_iret)) (c_iload 0 (c_const (4) (c_icmpne (c_const (-1) c_iret) (c_const (0) (c_goto c_iret)))))))
def EX8_right (N : Nat) : hf_K hf_M := (c_iload 0 (c_ifle (BX8_right_13 N) (c_iload 0 (c_const (4) (c_icmpge (BX8_right_13 N) (c_const (1) (c_goto c_iret)))))))
def fX8_right (N : Nat) : hf_F := hf_fn 1 1 (EX8_right N)
abbrev rmX8_off : Room := { frames := 1, cells := 0, slots := 0, locals := 22 }
abbrev SX8_off (g : hf_G) (l : Launch) (pc : Nat) (k : hf_K hf_M) : Prop := hf_S hf_KS (hf_H g) hf_c0 (hf_Qm g) g l rmX8_off cX8_off 6 RX8 (some .int) pc k
def EX8_off (N : Nat) : hf_K hf_M := (c_iload 1 (c_aload 0 (c_getI 8 1 (c_idiv (c_iload 3 (c_iload 2 (c_callS 1 (fX8_down N) (c_imul (c_iadd (c_istore 4 (c_iload 1 (c_aload 0 (c_getI 8 1 (c_irem (c_iload 3 (c_iload 2 (c_callS 1 (fX8_right N) (c_imul (c_iadd (c_istore 5 (c_iload 4 (c_const (0) (c_aload 0 (c_getI 8 0 (c_const (1) (c_isub (c_callS 3 (fX8_in N) (c_ifeq (c_const (-6) c_iret) (c_iload 5 (c_const (0) (c_aload 0 (c_getI 8 1 (c_const (1) (c_isub (c_callS 3 (fX8_in N) (c_ifeq (c_const (-6) c_iret) (c_iload 4 (c_aload 0 (c_getI 8 1 (c_imul (c_iload 5 (c_iadd (c_goto c_iret)))))))))))))))))))))))))))))))))))))))))))
def fX8_off (N : Nat) : hf_F := hf_fn 4 6 (EX8_off N)
abbrev rmX8_stripOf : Room := { frames := 1, cells := 0, slots := 0, locals := 22 }
abbrev SX8_stripOf (g : hf_G) (l : Launch) (pc : Nat) (k : hf_K hf_M) : Prop := hf_S hf_KS (hf_H g) hf_c0 (hf_Qm g) g l rmX8_stripOf cX8_stripOf 5 RX8 (some .int) pc k
def BX8_stripOf_12 (N : Nat) : Nat → hf_K hf_M
  | 0 => c_none
  | n + 1 => (c_iload 4 (c_aload 0 (c_getR 8 17 (c_const (1818) (c_iald (c_icmpge (c_iload 3 c_iret) (c_iload 2 (c_aload 0 (c_getR 8 17 (c_const (1792) (c_const (3) (c_iload 4 (c_imul (c_iadd (c_iald (c_aload 0 (c_getR 8 17 (c_const (1792) (c_const (3) (c_iload 4 (c_imul (c_iadd (c_const (1) (c_iadd (c_iald (c_callS 3 (fX8_in N) (c_ifeq (c_iload 3 (c_istore 3 (c_iinc 4 (1) (c_goto (BX8_stripOf_12 N n))))) (c_iload 4 (c_goto (c_istore 3 (c_iinc 4 (1) (c_goto (BX8_stripOf_12 N n)))))))))))))))))))))))))))))))))
def EX8_stripOf (N : Nat) : hf_K hf_M := (c_iload 1 (c_aload 0 (c_getI 8 1 (c_idiv (c_istore 2 (c_const (0) (c_istore 3 (c_const (0) (c_istore 4 (BX8_stripOf_12 N N))))))))))
def fX8_stripOf (N : Nat) : hf_F := hf_fn 2 5 (EX8_stripOf N)
abbrev rmX8_passes : Room := { frames := 2, cells := 0, slots := 0, locals := 46 }
abbrev SX8_passes (g : hf_G) (l : Launch) (pc : Nat) (k : hf_K hf_M) : Prop := hf_S hf_KS (hf_H g) hf_c0 (hf_Qm g) g l rmX8_passes cX8_passes 3 RX8 none pc k
def EX8_passes (N : Nat) : hf_K hf_M := (c_aload 0 (c_getR 8 17 (c_const (1821) (c_dup2 (c_iald (c_aload 0 (c_iload 1 (c_callV 8 1 (fX8_stripOf N) (c_aload 0 (c_iload 2 (c_callV 8 1 (fX8_stripOf N) (c_icmpeq (c_const (0) (c_iadd (c_iast c_vret))) (c_const (1) (c_goto (c_iadd (c_iast c_vret))))))))))))))))
def fX8_passes (N : Nat) : hf_F := hf_fn 3 3 (EX8_passes N)
abbrev rmX8_windOf : Room := { frames := 0, cells := 0, slots := 0, locals := 0 }
abbrev SX8_windOf (g : hf_G) (l : Launch) (pc : Nat) (k : hf_K hf_M) : Prop := hf_S hf_KS (hf_H g) hf_c0 (hf_Qm g) g l rmX8_windOf cX8_windOf 5 RX8 (some .int) pc k
def BX8_windOf_32 (N : Nat) : hf_K hf_M := (c_istore 4 (c_iload 2 (c_const (2) (c_iload 4 (c_isub (c_imul c_iret))))))
def BX8_windOf_14 (N : Nat) : hf_K hf_M := (c_istore 4 (c_iload 4 (c_const (4) (c_icmple (c_iload 4 (BX8_windOf_32 N)) (c_const (8) (c_iload 4 (c_isub (c_goto (BX8_windOf_32 N)))))))))
def EX8_windOf (N : Nat) : hf_K hf_M := (c_iload 3 (c_iload 1 (c_icmple (c_iload 1 (c_iload 3 (c_isub (BX8_windOf_14 N)))) (c_iload 3 (c_iload 1 (c_isub (c_goto (BX8_windOf_14 N))))))))
def fX8_windOf (N : Nat) : hf_F := hf_fn 4 5 (EX8_windOf N)
abbrev rmX8_burns : Room := { frames := 3, cells := 0, slots := 0, locals := 68 }
abbrev SX8_burns (g : hf_G) (l : Launch) (pc : Nat) (k : hf_K hf_M) : Prop := hf_S hf_KS (hf_H g) hf_c0 (hf_Qm g) g l rmX8_burns cX8_burns 8 RX8 none pc k
def BX8_burns_70 (N : Nat) (k3 : hf_K hf_M) : hf_K hf_M := (c_istore 6 (c_aload 0 (c_getR 8 21 (c_iload 1 (c_iald (c_const (8) (c_aload 0 (c_iload 2 (c_iload 3 (c_iload 4 (c_callV 8 3 (fX8_windOf N) (c_iadd (c_iload 6 (c_iadd (c_imul (c_const (8) (c_idiv (c_istore 7 (c_iload 7 (c_ifle (c_iinc 4 (1) (c_goto k3)) (c_aload 0 (c_getR 8 22 (c_iload 5 (c_dup2 (c_iald (c_iload 7 (c_iadd (c_iast (c_aload 0 (c_iload 1 (c_iload 5 (c_callV 8 2 (fX8_passes N) (c_iinc 4 (1) (c_goto k3))))))))))))))))))))))))))))))))))
def BX8_burns_3 (N : Nat) : Nat → hf_K hf_M
  | 0 => c_none
  | n + 1 => (c_iload 4 (c_const (8) (c_icmpge (c_aload 0 (c_getR 8 17 (c_const (1816) (c_iald (c_istore 4 (c_aload 0 (c_getR 8 3 (c_iload 1 (c_iald (c_const (3) (c_icmpne c_vret (c_iload 3 (c_const (1) (c_icmple c_vret (c_aload 0 (c_iload 4 (c_iload 1 (c_const (0) (c_callV 8 3 (fX8_lot N) (c_const (100) (c_irem (c_const (6) (c_iload 3 (c_imul (c_icmpge c_vret (c_aload 0 (c_iload 1 (c_iload 2 (c_const (2) (c_aload 0 (c_iload 4 (c_iload 1 (c_const (1) (c_callV 8 3 (fX8_lot N) (c_const (3) (c_irem (c_iadd (c_callV 8 3 (fX8_off N) (c_istore 5 (c_iload 5 (c_iflt c_vret (c_aload 0 (c_getR 8 22 (c_iload 5 (c_dup2 (c_iald (c_const (40) (c_iadd (c_iast (c_aload 0 (c_getR 8 17 (c_const (1819) (c_dup2 (c_iald (c_const (1) (c_iadd (c_iast (c_aload 0 (c_iload 1 (c_iload 5 (c_callV 8 2 (fX8_passes N) c_vret))))))))))))))))))))))))))))))))))))))))))))))))))))))))))))) (c_aload 0 (c_iload 1 (c_iload 4 (c_const (1) (c_callV 8 3 (fX8_off N) (c_istore 5 (c_iload 5 (c_ifge (c_aload 0 (c_getR 8 4 (c_iload 5 (c_iald (c_aload 0 (c_getR 8 4 (c_iload 1 (c_iald (c_isub (c_istore 6 (c_iload 6 (c_const (6) (c_icmple (c_iload 6 (c_const (-6) (c_icmpge (c_iload 6 (BX8_burns_70 N (BX8_burns_3 N n))) (c_const (-6) (c_goto (BX8_burns_70 N (BX8_burns_3 N n))))))) (c_const (6) (c_goto (BX8_burns_70 N (BX8_burns_3 N n))))))))))))))))) (c_goto (c_iinc 4 (1) (c_goto (BX8_burns_3 N n)))))))))))))))
def EX8_burns (N : Nat) : hf_K hf_M := (c_const (0) (c_istore 4 (BX8_burns_3 N N)))
def fX8_burns (N : Nat) : hf_F := hf_fn 4 8 (EX8_burns N)
abbrev rmX8_rate : Room := { frames := 0, cells := 0, slots := 0, locals := 0 }
abbrev SX8_rate (g : hf_G) (l : Launch) (pc : Nat) (k : hf_K hf_M) : Prop := hf_S hf_KS (hf_H g) hf_c0 (hf_Qm g) g l rmX8_rate cX8_rate 1 RX8 (some .int) pc k
def EX8_rate (N : Nat) : hf_K hf_M := (c_iload 0 (c_const (1) (c_icmpne (c_iload 0 (c_const (2) (c_icmpne (c_iload 0 (c_const (3) (c_icmpne (c_const (2) c_iret) (c_const (6) (c_goto c_iret))))) (c_const (8) (c_goto c_iret))))) (c_const (12) (c_goto c_iret)))))
def fX8_rate (N : Nat) : hf_F := hf_fn 1 1 (EX8_rate N)
abbrev rmX8_skyOf : Room := { frames := 0, cells := 0, slots := 0, locals := 0 }
abbrev SX8_skyOf (g : hf_G) (l : Launch) (pc : Nat) (k : hf_K hf_M) : Prop := hf_S hf_KS (hf_H g) hf_c0 (hf_Qm g) g l rmX8_skyOf cX8_skyOf 5 RX8 (some .int) pc k
def BX8_skyOf_37 (N : Nat) (k5 : hf_K hf_M) : hf_K hf_M := (c_istore 4 (c_aload 0 (c_getR 8 8 (c_iload 3 (c_iald (c_iload 1 (c_icmpgt (c_iload 2 (c_istore 2 (c_iinc 3 (1) (c_goto k5)))) (c_iload 4 (c_ifeq (c_iload 2 (c_istore 2 (c_iinc 3 (1) (c_goto k5)))) (c_iload 3 (c_goto (c_istore 2 (c_iinc 3 (1) (c_goto k5))))))))))))))
def BX8_skyOf_32 (N : Nat) (k5 : hf_K hf_M) : hf_K hf_M := (c_const (1) (c_goto (BX8_skyOf_37 N k5)))
def BX8_skyOf_5 (N : Nat) : Nat → hf_K hf_M
  | 0 => c_none
  | n + 1 => (c_iload 3 (c_aload 0 (c_getI 8 7 (c_icmpge (c_iload 2 c_iret) (c_iload 2 (c_iflt (BX8_skyOf_32 N (BX8_skyOf_5 N n)) (c_aload 0 (c_getR 8 8 (c_iload 3 (c_iald (c_aload 0 (c_getR 8 8 (c_iload 2 (c_iald (c_icmplt (c_const (0) (BX8_skyOf_37 N (BX8_skyOf_5 N n))) (BX8_skyOf_32 N (BX8_skyOf_5 N n)))))))))))))))))
def EX8_skyOf (N : Nat) : hf_K hf_M := (c_const (-6) (c_istore 2 (c_const (0) (c_istore 3 (BX8_skyOf_5 N N)))))
def fX8_skyOf (N : Nat) : hf_F := hf_fn 2 5 (EX8_skyOf N)
abbrev rmX8_smokes : Room := { frames := 3, cells := 0, slots := 0, locals := 68 }
abbrev SX8_smokes (g : hf_G) (l : Launch) (pc : Nat) (k : hf_K hf_M) : Prop := hf_S hf_KS (hf_H g) hf_c0 (hf_Qm g) g l rmX8_smokes cX8_smokes 7 RX8 none pc k
def BX8_smokes_135 (N : Nat) : Nat → hf_K hf_M
  | 0 => c_none
  | n + 1 => (c_iload 3 (c_aload 0 (c_getI 8 2 (c_icmpge c_vret (c_aload 0 (c_getR 8 17 (c_const (1024) (c_iload 3 (c_iadd (c_dup2 (c_iald (c_aload 0 (c_getR 8 23 (c_iload 3 (c_iald (c_iadd (c_iast (c_iinc 3 (1) (c_goto (BX8_smokes_135 N n))))))))))))))))))))
def BX8_smokes_104 (N : Nat) (k25 : hf_K hf_M) : hf_K hf_M := (c_aload 0 (c_getR 8 17 (c_const (1024) (c_iload 3 (c_iadd (c_iload 4 (c_iload 5 (c_isub (c_iload 4 (c_iload 5 (c_isub (c_const (4) (c_idiv (c_isub (c_iast (c_iinc 3 (1) (c_goto k25)))))))))))))))))
def BX8_smokes_64 (N : Nat) (k25 : hf_K hf_M) : hf_K hf_M := (c_istore 5 (c_aload 0 (c_iload 3 (c_iload 1 (c_const (1) (c_callV 8 3 (fX8_off N) (c_istore 6 (c_iload 5 (c_ifle (BX8_smokes_104 N k25) (c_iload 6 (c_iflt (BX8_smokes_104 N k25) (c_aload 0 (c_getR 8 23 (c_iload 6 (c_dup2 (c_iald (c_iload 5 (c_iadd (c_iast (c_aload 0 (c_iload 3 (c_iload 6 (c_callV 8 2 (fX8_passes N) (BX8_smokes_104 N k25))))))))))))))))))))))))
def BX8_smokes_25 (N : Nat) : Nat → hf_K hf_M
  | 0 => c_none
  | n + 1 => (c_iload 3 (c_aload 0 (c_getI 8 2 (c_icmpge (c_const (0) (c_istore 3 (BX8_smokes_135 N N))) (c_aload 0 (c_getR 8 17 (c_const (1024) (c_iload 3 (c_iadd (c_iald (c_aload 0 (c_getR 8 21 (c_iload 3 (c_iald (c_iadd (c_istore 4 (c_iload 2 (c_ifle (c_const (0) (BX8_smokes_64 N (BX8_smokes_25 N n))) (c_iload 4 (c_const (2) (c_idiv (c_goto (BX8_smokes_64 N (BX8_smokes_25 N n))))))))))))))))))))))))
def BX8_smokes_2 (N : Nat) : Nat → hf_K hf_M
  | 0 => c_none
  | n + 1 => (c_iload 3 (c_aload 0 (c_getI 8 2 (c_icmpge (c_const (0) (c_istore 3 (BX8_smokes_25 N N))) (c_aload 0 (c_getR 8 23 (c_iload 3 (c_const (0) (c_iast (c_iinc 3 (1) (c_goto (BX8_smokes_2 N n))))))))))))
def EX8_smokes (N : Nat) : hf_K hf_M := (c_const (0) (c_istore 3 (BX8_smokes_2 N N)))
def fX8_smokes (N : Nat) : hf_F := hf_fn 3 7 (EX8_smokes N)
abbrev rmX8_catches : Room := { frames := 0, cells := 0, slots := 0, locals := 0 }
abbrev SX8_catches (g : hf_G) (l : Launch) (pc : Nat) (k : hf_K hf_M) : Prop := hf_S hf_KS (hf_H g) hf_c0 (hf_Qm g) g l rmX8_catches cX8_catches 1 RX8 (some .int) pc k
def EX8_catches (N : Nat) : hf_K hf_M := (c_iload 0 (c_const (1) (c_icmpne (c_iload 0 (c_const (2) (c_icmpne (c_iload 0 (c_const (3) (c_icmpne (c_const (40) c_iret) (c_const (50) (c_goto c_iret))))) (c_const (30) (c_goto c_iret))))) (c_const (20) (c_goto c_iret)))))
def fX8_catches (N : Nat) : hf_F := hf_fn 1 1 (EX8_catches N)
abbrev rmX8_turns : Room := { frames := 1, cells := 0, slots := 0, locals := 24 }
abbrev SX8_turns (g : hf_G) (l : Launch) (pc : Nat) (k : hf_K hf_M) : Prop := hf_S hf_KS (hf_H g) hf_c0 (hf_Qm g) g l rmX8_turns cX8_turns 4 RX8 none pc k
def BX8_turns_96 (N : Nat) : hf_K hf_M := (c_iast (c_aload 0 (c_getR 8 17 (c_const (768) (c_iload 1 (c_iadd (c_iald (c_aload 0 (c_getR 8 3 (c_iload 1 (c_iald (c_callS 1 (fX8_catches N) (c_aload 0 (c_getR 8 17 (c_const (512) (c_iload 1 (c_iadd (c_iald (c_iadd (c_icmplt (c_goto c_vret) (c_aload 0 (c_iload 1 (c_callV 8 1 (fX8_kindle N) (c_goto c_vret))))))))))))))))))))))))
def BX8_turns_70 (N : Nat) : hf_K hf_M := (c_const (3) (c_iload 2 (c_imul (c_iadd (c_istore 3 (c_aload 0 (c_getR 8 17 (c_const (512) (c_iload 1 (c_iadd (c_iload 3 (c_const (100) (c_icmple (c_iload 3 (BX8_turns_96 N)) (c_const (100) (c_goto (BX8_turns_96 N))))))))))))))))
def EX8_turns (N : Nat) : hf_K hf_M := (c_aload 0 (c_getR 8 17 (c_const (768) (c_iload 1 (c_iadd (c_aload 0 (c_getR 8 17 (c_const (768) (c_iload 1 (c_iadd (c_iald (c_const (2) (c_idiv (c_aload 0 (c_getR 8 22 (c_iload 1 (c_iald (c_iadd (c_iast (c_aload 0 (c_getR 8 17 (c_const (0) (c_iload 1 (c_iadd (c_iald (c_const (1) (c_icmpne (c_aload 0 (c_getR 8 17 (c_const (0) (c_iload 1 (c_iadd (c_iald (c_const (2) (c_icmpne c_vret (c_aload 0 (c_getR 8 17 (c_const (256) (c_iload 1 (c_iadd (c_dup2 (c_iald (c_aload 0 (c_getR 8 21 (c_iload 1 (c_iald (c_isub (c_iast (c_aload 0 (c_getR 8 17 (c_const (1820) (c_dup2 (c_iald (c_aload 0 (c_getR 8 21 (c_iload 1 (c_iald (c_iadd (c_iast (c_aload 0 (c_getR 8 17 (c_const (256) (c_iload 1 (c_iadd (c_iald (c_ifne (c_iload 2 (c_aload 0 (c_getR 8 21 (c_iload 1 (c_iald (c_icmple c_vret (c_aload 0 (c_aload 0 (c_getR 8 17 (c_const (1816) (c_iald (c_iload 1 (c_const (2) (c_callV 8 3 (fX8_lot N) (c_const (10) (c_irem (c_iload 2 (c_icmpge c_vret (c_aload 0 (c_getR 8 17 (c_const (0) (c_iload 1 (c_iadd (c_const (5) (c_iast c_vret))))))))))))))))))))))))) (c_aload 0 (c_getR 8 17 (c_const (0) (c_iload 1 (c_iadd (c_const (3) (c_iast (c_goto c_vret))))))))))))))))))))))))))))))))))))))))))))))) (c_aload 0 (c_getR 8 17 (c_const (512) (c_iload 1 (c_iadd (c_iald (c_aload 0 (c_getR 8 22 (c_iload 1 (c_iald (c_const (4) (c_idiv (c_isub (c_istore 3 (c_iload 3 (c_ifge (c_iload 3 (BX8_turns_70 N)) (c_const (0) (c_goto (BX8_turns_70 N))))))))))))))))))))))))))))))))))))))))))))))
def fX8_turns (N : Nat) : hf_F := hf_fn 3 4 (EX8_turns N)
abbrev rmX8_step1 : Room := { frames := 4, cells := 0, slots := 0, locals := 95 }
abbrev SX8_step1 (g : hf_G) (l : Launch) (pc : Nat) (k : hf_K hf_M) : Prop := hf_S hf_KS (hf_H g) hf_c0 (hf_Qm g) g l rmX8_step1 cX8_step1 9 RX8 none pc k
def BX8_step1_508 (N : Nat) : hf_K hf_M := (c_aload 0 (c_getR 8 17 (c_const (1816) (c_dup2 (c_iald (c_const (1) (c_iadd (c_iast c_vret))))))))
def BX8_step1_467 (N : Nat) : Nat → hf_K hf_M
  | 0 => c_none
  | n + 1 => (c_iload 6 (c_aload 0 (c_getI 8 2 (c_icmpge (c_aload 0 (c_iload 3 (c_iload 4 (c_callV 8 2 (fX8_smokes N) (c_aload 0 (c_getI 8 16 (c_ifeq (BX8_step1_508 N) (c_aload 0 (c_callV 8 0 (fX8_balance N) (BX8_step1_508 N)))))))))) (c_aload 0 (c_iload 6 (c_iload 5 (c_callV 8 2 (fX8_turns N) (c_iinc 6 (1) (c_goto (BX8_step1_467 N n)))))))))))
def BX8_step1_427 (N : Nat) : Nat → hf_K hf_M
  | 0 => c_none
  | n + 1 => (c_iload 6 (c_aload 0 (c_getI 8 2 (c_icmpge (c_const (0) (c_istore 6 (BX8_step1_467 N N))) (c_aload 0 (c_getR 8 17 (c_const (0) (c_iload 6 (c_iadd (c_iald (c_const (2) (c_icmpne (c_iinc 6 (1) (c_goto (BX8_step1_427 N n))) (c_aload 0 (c_iload 6 (c_iload 3 (c_iload 4 (c_callV 8 3 (fX8_burns N) (c_iinc 6 (1) (c_goto (BX8_step1_427 N n))))))))))))))))))))
def BX8_step1_385 (N : Nat) (k290 : hf_K hf_M) : hf_K hf_M := (c_iast (c_aload 0 (c_getR 8 17 (c_const (1792) (c_const (3) (c_aload 0 (c_iload 6 (c_callV 8 1 (fX8_stripOf N) (c_imul (c_iadd (c_const (2) (c_iadd (c_dup2 (c_iald (c_iload 7 (c_ifeq (c_const (1) (c_iadd (c_iast (c_iinc 6 (1) (c_goto k290))))) (c_const (5) (c_goto (c_iadd (c_iast (c_iinc 6 (1) (c_goto k290))))))))))))))))))))))
def BX8_step1_325 (N : Nat) (k290 : hf_K hf_M) : hf_K hf_M := (c_istore 7 (c_aload 0 (c_getR 8 17 (c_const (256) (c_iload 6 (c_iadd (c_iald (c_istore 8 (c_aload 0 (c_getR 8 21 (c_iload 6 (c_iload 7 (c_ifne (c_iload 8 (c_aload 0 (c_getR 8 3 (c_iload 6 (c_iald (c_callS 1 (fX8_rate N) (c_icmpge (c_aload 0 (c_getR 8 3 (c_iload 6 (c_iald (c_callS 1 (fX8_rate N) (BX8_step1_385 N k290)))))) (c_iload 8 (c_goto (BX8_step1_385 N k290)))))))))) (c_const (0) (c_goto (BX8_step1_385 N k290))))))))))))))))
def BX8_step1_290 (N : Nat) : Nat → hf_K hf_M
  | 0 => c_none
  | n + 1 => (c_iload 6 (c_aload 0 (c_getI 8 2 (c_icmpge (c_const (0) (c_istore 6 (BX8_step1_427 N N))) (c_aload 0 (c_getR 8 22 (c_iload 6 (c_const (0) (c_iast (c_aload 0 (c_getR 8 17 (c_const (0) (c_iload 6 (c_iadd (c_iald (c_const (2) (c_icmpne (c_const (0) (BX8_step1_325 N (BX8_step1_290 N n))) (c_const (1) (c_goto (BX8_step1_325 N (BX8_step1_290 N n)))))))))))))))))))))
def BX8_step1_252 (N : Nat) : Nat → hf_K hf_M
  | 0 => c_none
  | n + 1 => (c_iload 6 (c_aload 0 (c_getR 8 17 (c_const (1818) (c_iald (c_icmpge (c_const (0) (c_istore 6 (BX8_step1_290 N N))) (c_aload 0 (c_getR 8 17 (c_const (1792) (c_const (3) (c_iload 6 (c_imul (c_iadd (c_const (2) (c_iadd (c_const (0) (c_iast (c_iinc 6 (1) (c_goto (BX8_step1_252 N n))))))))))))))))))))
def BX8_step1_171 (N : Nat) : Nat → hf_K hf_M
  | 0 => c_none
  | n + 1 => (c_iload 6 (c_aload 0 (c_getR 8 17 (c_const (1817) (c_iald (c_icmpge (c_const (0) (c_istore 6 (BX8_step1_252 N N))) (c_aload 0 (c_getR 8 17 (c_const (0) (c_aload 0 (c_getR 8 17 (c_const (1536) (c_const (8) (c_iload 6 (c_imul (c_iadd (c_iald (c_iadd (c_iald (c_const (2) (c_icmpne (c_iinc 6 (1) (c_goto (BX8_step1_171 N n))) (c_aload 0 (c_getR 8 17 (c_const (1536) (c_const (8) (c_iload 6 (c_imul (c_iadd (c_const (3) (c_iadd (c_const (1) (c_iast (c_aload 0 (c_getR 8 17 (c_const (1536) (c_const (8) (c_iload 6 (c_imul (c_iadd (c_const (2) (c_iadd (c_const (0) (c_iast (c_iinc 6 (1) (c_goto (BX8_step1_171 N n))))))))))))))))))))))))))))))))))))))))))))))
def BX8_step1_105 (N : Nat) : Nat → hf_K hf_M
  | 0 => c_none
  | n + 1 => (c_iload 6 (c_aload 0 (c_getR 8 17 (c_const (1817) (c_iald (c_icmpge (c_const (0) (c_istore 6 (BX8_step1_171 N N))) (c_aload 0 (c_getR 8 17 (c_const (1536) (c_const (8) (c_iload 6 (c_imul (c_iadd (c_const (3) (c_iadd (c_iald (c_ifne (c_iinc 6 (1) (c_goto (BX8_step1_105 N n))) (c_aload 0 (c_getR 8 17 (c_const (1536) (c_const (8) (c_iload 6 (c_imul (c_iadd (c_const (2) (c_iadd (c_iald (c_ifle (c_iinc 6 (1) (c_goto (BX8_step1_105 N n))) (c_aload 0 (c_iload 6 (c_callV 8 1 (fX8_acts N) (c_iinc 6 (1) (c_goto (BX8_step1_105 N n))))))))))))))))))))))))))))))))))
def BX8_step1_65 (N : Nat) : Nat → hf_K hf_M
  | 0 => c_none
  | n + 1 => (c_iload 6 (c_aload 0 (c_getI 8 13 (c_icmpge (c_const (0) (c_istore 6 (BX8_step1_105 N N))) (c_aload 0 (c_getR 8 15 (c_iload 6 (c_iald (c_iload 1 (c_icmpne (c_iinc 6 (1) (c_goto (BX8_step1_65 N n))) (c_aload 0 (c_aload 0 (c_getR 8 14 (c_iload 6 (c_iald (c_callV 8 1 (fX8_kindle N) (c_iinc 6 (1) (c_goto (BX8_step1_65 N n)))))))))))))))))))
def BX8_step1_60 (N : Nat) : hf_K hf_M := (c_istore 5 (c_const (0) (c_istore 6 (BX8_step1_65 N N))))
def BX8_step1_44 (N : Nat) : hf_K hf_M := (c_istore 4 (c_iload 2 (c_ifge (c_aload 0 (c_getR 8 11 (c_iload 2 (c_iald (BX8_step1_60 N))))) (c_const (0) (c_goto (BX8_step1_60 N))))))
def BX8_step1_29 (N : Nat) : hf_K hf_M := (c_istore 3 (c_iload 2 (c_ifge (c_aload 0 (c_getR 8 10 (c_iload 2 (c_iald (BX8_step1_44 N))))) (c_const (0) (c_goto (BX8_step1_44 N))))))
def EX8_step1 (N : Nat) : hf_K hf_M := (c_aload 0 (c_getR 8 17 (c_const (1816) (c_iald (c_istore 1 (c_aload 0 (c_iload 1 (c_callV 8 1 (fX8_skyOf N) (c_istore 2 (c_iload 2 (c_ifge (c_aload 0 (c_getR 8 9 (c_iload 2 (c_iald (BX8_step1_29 N))))) (c_const (0) (c_goto (BX8_step1_29 N))))))))))))))
def fX8_step1 (N : Nat) : hf_F := hf_fn 1 9 (EX8_step1 N)
abbrev rmX8_ahead : Room := { frames := 5, cells := 0, slots := 0, locals := 123 }
abbrev SX8_ahead (g : hf_G) (l : Launch) (pc : Nat) (k : hf_K hf_M) : Prop := hf_S hf_KS (hf_H g) hf_c0 (hf_Qm g) g l rmX8_ahead cX8_ahead 5 RX8 (some .int) pc k
def BX8_ahead_53 (N : Nat) : Nat → hf_K hf_M
  | 0 => c_none
  | n + 1 => (c_iload 4 (c_iload 2 (c_icmpge (c_aload 0 (c_const (3) (c_callV 8 1 (fX8_load N) (c_iload 3 c_iret)))) (c_iload 3 (c_const (-6) (c_icmpne (c_aload 0 (c_const (3) (c_callV 8 1 (fX8_load N) (c_iload 3 c_iret)))) (c_aload 0 (c_callV 8 0 (fX8_step1 N) (c_aload 0 (c_getR 8 17 (c_const (1280) (c_iload 1 (c_iadd (c_iald (c_istore 3 (c_iinc 4 (1) (c_goto (BX8_ahead_53 N n))))))))))))))))))
def EX8_ahead (N : Nat) : hf_K hf_M := (c_aload 0 (c_iload 1 (c_callV 8 1 (fX8_isCell N) (c_ifne (c_iload 2 (c_const (0) (c_const (200) (c_callS 3 (fX8_in N) (c_ifne (c_aload 0 (c_getR 8 17 (c_const (1280) (c_iload 1 (c_iadd (c_iald (c_const (-6) (c_icmpeq (c_aload 0 (c_const (3) (c_callV 8 1 (fX8_save N) (c_const (-6) (c_istore 3 (c_const (0) (c_istore 4 (BX8_ahead_53 N N)))))))) (c_const (-6) c_iret))))))))) (c_const (-2) c_iret)))))) (c_const (-1) c_iret)))))
def fX8_ahead (N : Nat) : hf_F := hf_fn 3 5 (EX8_ahead N)
abbrev rmX8_bars : Room := { frames := 1, cells := 0, slots := 0, locals := 22 }
abbrev SX8_bars (g : hf_G) (l : Launch) (pc : Nat) (k : hf_K hf_M) : Prop := hf_S hf_KS (hf_H g) hf_c0 (hf_Qm g) g l rmX8_bars cX8_bars 2 RX8 (some .int) pc k
def EX8_bars (N : Nat) : hf_K hf_M := (c_iload 1 (c_const (0) (c_const (2) (c_callS 3 (fX8_in N) (c_ifeq (c_const (-1) (c_goto c_iret)) (c_aload 0 (c_getR 8 19 (c_iload 1 (c_iald (c_ifne (c_aload 0 (c_getR 8 19 (c_iload 1 (c_iald (c_aload 0 (c_getI 8 20 (c_icmpeq (c_const (0) c_iret) (c_const (-3) (c_goto c_iret))))))))) (c_const (-1) (c_goto c_iret))))))))))))
def fX8_bars (N : Nat) : hf_F := hf_fn 2 2 (EX8_bars N)
abbrev rmX8_back : Room := { frames := 2, cells := 0, slots := 0, locals := 43 }
abbrev SX8_back (g : hf_G) (l : Launch) (pc : Nat) (k : hf_K hf_M) : Prop := hf_S hf_KS (hf_H g) hf_c0 (hf_Qm g) g l rmX8_back cX8_back 3 RX8 (some .int) pc k
def EX8_back (N : Nat) : hf_K hf_M := (c_aload 0 (c_iload 1 (c_callV 8 1 (fX8_bars N) (c_istore 2 (c_iload 2 (c_ifge (c_aload 0 (c_iload 1 (c_callV 8 1 (fX8_load N) (c_aload 0 (c_getR 8 17 (c_const (1816) (c_iald c_iret))))))) (c_iload 2 c_iret)))))))
def fX8_back (N : Nat) : hf_F := hf_fn 2 3 (EX8_back N)
abbrev rmX8_balanced : Room := { frames := 0, cells := 0, slots := 0, locals := 0 }
abbrev SX8_balanced (g : hf_G) (l : Launch) (pc : Nat) (k : hf_K hf_M) : Prop := hf_S hf_KS (hf_H g) hf_c0 (hf_Qm g) g l rmX8_balanced cX8_balanced 3 RX8 (some .int) pc k
def EX8_balanced (N : Nat) : hf_K hf_M := (c_aload 0 (c_getI 8 16 (c_ifeq (c_const (0) (c_istore 2 (c_aload 0 (c_iload 1 (c_putZ 8 16 (c_iload 2 c_iret)))))) (c_const (1) (c_goto (c_istore 2 (c_aload 0 (c_iload 1 (c_putZ 8 16 (c_iload 2 c_iret))))))))))
def fX8_balanced (N : Nat) : hf_F := hf_fn 2 3 (EX8_balanced N)
abbrev rmX8_begin : Room := { frames := 0, cells := 0, slots := 0, locals := 0 }
abbrev SX8_begin (g : hf_G) (l : Launch) (pc : Nat) (k : hf_K hf_M) : Prop := hf_S hf_KS (hf_H g) hf_c0 (hf_Qm g) g l rmX8_begin cX8_begin 2 RX8 none pc k
def BX8_begin_52 (N : Nat) (k24 : hf_K hf_M) : hf_K hf_M := (c_iast (c_aload 0 (c_getR 8 17 (c_const (256) (c_iload 1 (c_iadd (c_aload 0 (c_getR 8 5 (c_iload 1 (c_iald (c_iast (c_aload 0 (c_getR 8 17 (c_const (512) (c_iload 1 (c_iadd (c_aload 0 (c_getR 8 6 (c_iload 1 (c_iald (c_iast (c_aload 0 (c_getR 8 17 (c_const (1280) (c_iload 1 (c_iadd (c_const (-6) (c_iast (c_iinc 1 (1) (c_goto k24))))))))))))))))))))))))))))))
def BX8_begin_24 (N : Nat) : Nat → hf_K hf_M
  | 0 => c_none
  | n + 1 => (c_iload 1 (c_const (256) (c_icmpge (c_aload 0 (c_getR 8 17 (c_const (1818) (c_const (1) (c_iast (c_aload 0 (c_getR 8 17 (c_const (1792) (c_const (0) (c_iast (c_aload 0 (c_getR 8 17 (c_const (1793) (c_aload 0 (c_getI 8 0 (c_const (1) (c_isub (c_iast (c_aload 0 (c_getR 8 17 (c_const (1794) (c_const (0) (c_iast c_vret))))))))))))))))))))))) (c_aload 0 (c_getR 8 17 (c_const (0) (c_iload 1 (c_iadd (c_aload 0 (c_getR 8 5 (c_iload 1 (c_iald (c_ifle (c_const (0) (BX8_begin_52 N (BX8_begin_24 N n))) (c_const (1) (c_goto (BX8_begin_52 N (BX8_begin_24 N n)))))))))))))))))
def BX8_begin_2 (N : Nat) : Nat → hf_K hf_M
  | 0 => c_none
  | n + 1 => (c_iload 1 (c_const (1824) (c_icmpge (c_const (0) (c_istore 1 (BX8_begin_24 N N))) (c_aload 0 (c_getR 8 17 (c_iload 1 (c_const (0) (c_iast (c_iinc 1 (1) (c_goto (BX8_begin_2 N n)))))))))))
def EX8_begin (N : Nat) : hf_K hf_M := (c_const (0) (c_istore 1 (BX8_begin_2 N N)))
def fX8_begin (N : Nat) : hf_F := hf_fn 1 2 (EX8_begin N)
abbrev rmX8_cell : Room := { frames := 2, cells := 0, slots := 0, locals := 43 }
abbrev SX8_cell (g : hf_G) (l : Launch) (pc : Nat) (k : hf_K hf_M) : Prop := hf_S hf_KS (hf_H g) hf_c0 (hf_Qm g) g l rmX8_cell cX8_cell 7 RX8 (some .int) pc k
def BX8_cell_140 (N : Nat) : hf_K hf_M := (c_iast (c_aload 0 (c_getR 8 17 (c_const (256) (c_iload 1 (c_iadd (c_iload 3 (c_iast (c_aload 0 (c_getR 8 17 (c_const (512) (c_iload 1 (c_iadd (c_iload 4 (c_iast (c_aload 0 (c_dup (c_getI 8 20 (c_const (1) (c_iadd (c_putI 8 20 (c_const (1) c_iret))))))))))))))))))))))
def BX8_cell_49 (N : Nat) : hf_K hf_M := (c_callS 3 (fX8_in N) (c_ifeq (c_const (-2) c_iret) (c_iload 4 (c_const (0) (c_const (100) (c_callS 3 (fX8_in N) (c_ifeq (c_const (-2) c_iret) (c_iload 5 (c_const (0) (c_const (50) (c_callS 3 (fX8_in N) (c_ifne (c_aload 0 (c_getR 8 17 (c_const (1816) (c_iald (c_ifle (c_aload 0 (c_getR 8 3 (c_iload 1 (c_iload 2 (c_iast (c_aload 0 (c_getR 8 4 (c_iload 1 (c_iload 5 (c_iast (c_aload 0 (c_getR 8 5 (c_iload 1 (c_iload 3 (c_iast (c_aload 0 (c_getR 8 6 (c_iload 1 (c_iload 4 (c_iast (c_aload 0 (c_getR 8 17 (c_const (0) (c_iload 1 (c_iadd (c_iload 3 (c_ifle (c_const (0) (BX8_cell_140 N)) (c_const (1) (c_goto (BX8_cell_140 N)))))))))))))))))))))))))))))) (c_const (-3) c_iret)))))) (c_const (-2) c_iret)))))))))))))
def BX8_cell_24 (N : Nat) : hf_K hf_M := (c_istore 6 (c_iload 2 (c_const (0) (c_const (5) (c_callS 3 (fX8_in N) (c_ifeq (c_const (-2) c_iret) (c_iload 3 (c_const (0) (c_iload 6 (c_ifeq (c_const (200) (BX8_cell_49 N)) (c_const (0) (c_goto (BX8_cell_49 N)))))))))))))
def BX8_cell_19 (N : Nat) : hf_K hf_M := (c_const (1) (c_goto (BX8_cell_24 N)))
def EX8_cell (N : Nat) : hf_K hf_M := (c_aload 0 (c_iload 1 (c_callV 8 1 (fX8_isCell N) (c_ifne (c_iload 2 (c_ifeq (BX8_cell_19 N) (c_iload 2 (c_const (5) (c_icmpne (c_const (0) (BX8_cell_24 N)) (BX8_cell_19 N)))))) (c_const (-1) c_iret)))))
def fX8_cell (N : Nat) : hf_F := hf_fn 6 7 (EX8_cell N)
abbrev rmX8_clear : Room := { frames := 1, cells := 0, slots := 0, locals := 21 }
abbrev SX8_clear (g : hf_G) (l : Launch) (pc : Nat) (k : hf_K hf_M) : Prop := hf_S hf_KS (hf_H g) hf_c0 (hf_Qm g) g l rmX8_clear cX8_clear 2 RX8 (some .int) pc k
def EX8_clear (N : Nat) : hf_K hf_M := (c_aload 0 (c_getR 8 17 (c_const (1816) (c_iald (c_istore 1 (c_aload 0 (c_callV 8 0 (fX8_begin N) (c_iload 1 c_iret))))))))
def fX8_clear (N : Nat) : hf_F := hf_fn 1 2 (EX8_clear N)
abbrev rmX8_crew : Room := { frames := 2, cells := 0, slots := 0, locals := 43 }
abbrev SX8_crew (g : hf_G) (l : Launch) (pc : Nat) (k : hf_K hf_M) : Prop := hf_S hf_KS (hf_H g) hf_c0 (hf_Qm g) g l rmX8_crew cX8_crew 4 RX8 (some .int) pc k
def BX8_crew_68 (N : Nat) : Nat → hf_K hf_M
  | 0 => c_none
  | n + 1 => (c_iload 3 (c_const (8) (c_icmpge (c_aload 0 (c_getR 8 17 (c_iload 2 (c_iload 1 (c_iast (c_aload 0 (c_getR 8 17 (c_iload 2 (c_const (1) (c_iadd (c_const (10) (c_iast (c_aload 0 (c_getR 8 17 (c_const (1817) (c_dup2 (c_iald (c_const (1) (c_iadd (c_iast (c_aload 0 (c_getR 8 17 (c_const (1817) (c_iald (c_const (1) (c_isub c_iret)))))))))))))))))))))))))) (c_aload 0 (c_getR 8 17 (c_iload 2 (c_iload 3 (c_iadd (c_const (0) (c_iast (c_iinc 3 (1) (c_goto (BX8_crew_68 N n)))))))))))))
def EX8_crew (N : Nat) : hf_K hf_M := (c_aload 0 (c_iload 1 (c_callV 8 1 (fX8_isCell N) (c_ifne (c_aload 0 (c_getR 8 17 (c_const (1817) (c_iald (c_const (8) (c_icmpne (c_aload 0 (c_getR 8 3 (c_iload 1 (c_iald (c_ifeq (c_const (-5) c_iret) (c_aload 0 (c_getR 8 17 (c_const (0) (c_iload 1 (c_iadd (c_iald (c_const (2) (c_icmpne (c_const (1536) (c_const (8) (c_aload 0 (c_getR 8 17 (c_const (1817) (c_iald (c_imul (c_iadd (c_istore 2 (c_const (0) (c_istore 3 (BX8_crew_68 N N)))))))))))) (c_const (-5) c_iret)))))))))))))) (c_const (-4) c_iret))))))) (c_const (-1) c_iret)))))
def fX8_crew (N : Nat) : hf_F := hf_fn 2 4 (EX8_crew N)
abbrev rmX8_differs : Room := { frames := 2, cells := 0, slots := 0, locals := 43 }
abbrev SX8_differs (g : hf_G) (l : Launch) (pc : Nat) (k : hf_K hf_M) : Prop := hf_S hf_KS (hf_H g) hf_c0 (hf_Qm g) g l rmX8_differs cX8_differs 7 RX8 (some .int) pc k
def BX8_differs_32 (N : Nat) (k17 : hf_K hf_M) : Nat → hf_K hf_M
  | 0 => c_none
  | n + 1 => (c_iload 6 (c_const (5) (c_icmpge (c_iload 3 (c_iload 5 (c_ifeq (c_const (1) (c_iadd (c_istore 3 (c_iinc 4 (1) (c_goto k17))))) (c_const (0) (c_goto (c_iadd (c_istore 3 (c_iinc 4 (1) (c_goto k17))))))))) (c_iload 5 (c_ifeq (c_const (0) (c_istore 5 (c_iinc 6 (1) (c_goto (BX8_differs_32 N k17 n))))) (c_aload 0 (c_getR 8 17 (c_const (256) (c_iload 6 (c_imul (c_iload 4 (c_iadd (c_iald (c_aload 0 (c_getR 8 18 (c_const (1824) (c_iload 1 (c_imul (c_const (256) (c_iload 6 (c_imul (c_iadd (c_iload 4 (c_iadd (c_iald (c_icmpne (c_const (0) (c_istore 5 (c_iinc 6 (1) (c_goto (BX8_differs_32 N k17 n))))) (c_const (1) (c_goto (c_istore 5 (c_iinc 6 (1) (c_goto (BX8_differs_32 N k17 n))))))))))))))))))))))))))))))))
def BX8_differs_17 (N : Nat) : Nat → hf_K hf_M
  | 0 => c_none
  | n + 1 => (c_iload 4 (c_aload 0 (c_getI 8 2 (c_icmpge (c_iload 3 c_iret) (c_const (1) (c_istore 5 (c_const (0) (c_istore 6 (BX8_differs_32 N (BX8_differs_17 N n) N)))))))))
def EX8_differs (N : Nat) : hf_K hf_M := (c_aload 0 (c_iload 1 (c_callV 8 1 (fX8_bars N) (c_istore 2 (c_iload 2 (c_ifge (c_const (0) (c_istore 3 (c_const (0) (c_istore 4 (BX8_differs_17 N N))))) (c_iload 2 c_iret)))))))
def fX8_differs (N : Nat) : hf_F := hf_fn 2 7 (EX8_differs N)
abbrev rmX8_front : Room := { frames := 2, cells := 0, slots := 0, locals := 47 }
abbrev SX8_front (g : hf_G) (l : Launch) (pc : Nat) (k : hf_K hf_M) : Prop := hf_S hf_KS (hf_H g) hf_c0 (hf_Qm g) g l rmX8_front cX8_front 7 RX8 (some .int) pc k
def BX8_front_95 (N : Nat) (k4 : hf_K hf_M) : hf_K hf_M := (c_iload 2 (c_iload 4 (c_ifeq (c_const (0) (c_iadd (c_istore 2 (c_iinc 3 (1) (c_goto k4))))) (c_const (1) (c_goto (c_iadd (c_istore 2 (c_iinc 3 (1) (c_goto k4)))))))))
def BX8_front_83 (N : Nat) (k4 : hf_K hf_M) : hf_K hf_M := (c_iload 4 (c_ifeq (BX8_front_95 N k4) (c_iload 2 (c_iload 1 (c_icmpne (BX8_front_95 N k4) (c_iload 3 c_iret))))))
def BX8_front_18 (N : Nat) (k4 : hf_K hf_M) : Nat → hf_K hf_M
  | 0 => c_none
  | n + 1 => (c_iload 5 (c_const (8) (c_icmpge (BX8_front_83 N k4) (c_aload 0 (c_getR 8 17 (c_const (0) (c_iload 3 (c_iadd (c_iald (c_const (1) (c_icmpne (BX8_front_83 N k4) (c_aload 0 (c_iload 3 (c_iload 5 (c_const (1) (c_callV 8 3 (fX8_off N) (c_istore 6 (c_iload 4 (c_ifne (c_const (1) (c_goto (c_istore 4 (c_iinc 5 (1) (c_goto (BX8_front_18 N k4 n)))))) (c_iload 6 (c_iflt (c_const (0) (c_istore 4 (c_iinc 5 (1) (c_goto (BX8_front_18 N k4 n))))) (c_aload 0 (c_getR 8 17 (c_const (0) (c_iload 6 (c_iadd (c_iald (c_const (2) (c_icmpne (c_const (0) (c_istore 4 (c_iinc 5 (1) (c_goto (BX8_front_18 N k4 n))))) (c_const (1) (c_goto (c_istore 4 (c_iinc 5 (1) (c_goto (BX8_front_18 N k4 n)))))))))))))))))))))))))))))))))))
def BX8_front_4 (N : Nat) : Nat → hf_K hf_M
  | 0 => c_none
  | n + 1 => (c_iload 3 (c_aload 0 (c_getI 8 2 (c_icmpge (c_const (-6) c_iret) (c_const (0) (c_istore 4 (c_const (0) (c_istore 5 (BX8_front_18 N (BX8_front_4 N n) N)))))))))
def EX8_front (N : Nat) : hf_K hf_M := (c_const (0) (c_istore 2 (c_const (0) (c_istore 3 (BX8_front_4 N N)))))
def fX8_front (N : Nat) : hf_F := hf_fn 2 7 (EX8_front N)
abbrev rmX8_grid : Room := { frames := 1, cells := 0, slots := 0, locals := 22 }
abbrev SX8_grid (g : hf_G) (l : Launch) (pc : Nat) (k : hf_K hf_M) : Prop := hf_S hf_KS (hf_H g) hf_c0 (hf_Qm g) g l rmX8_grid cX8_grid 4 RX8 (some .int) pc k
def BX8_grid_56 (N : Nat) : Nat → hf_K hf_M
  | 0 => c_none
  | n + 1 => (c_iload 3 (c_const (256) (c_icmpge (c_aload 0 (c_const (0) (c_putI 8 7 (c_aload 0 (c_const (0) (c_putI 8 13 (c_aload 0 (c_dup (c_getI 8 20 (c_const (1) (c_iadd (c_putI 8 20 (c_aload 0 (c_callV 8 0 (fX8_begin N) (c_aload 0 (c_getI 8 2 c_iret)))))))))))))))) (c_aload 0 (c_getR 8 3 (c_iload 3 (c_const (0) (c_iast (c_aload 0 (c_getR 8 4 (c_iload 3 (c_const (0) (c_iast (c_aload 0 (c_getR 8 5 (c_iload 3 (c_const (0) (c_iast (c_aload 0 (c_getR 8 6 (c_iload 3 (c_const (0) (c_iast (c_iinc 3 (1) (c_goto (BX8_grid_56 N n))))))))))))))))))))))))))
def EX8_grid (N : Nat) : hf_K hf_M := (c_iload 1 (c_const (2) (c_const (16) (c_callS 3 (fX8_in N) (c_ifeq (c_const (-2) c_iret) (c_iload 2 (c_const (2) (c_const (16) (c_callS 3 (fX8_in N) (c_ifne (c_aload 0 (c_getR 8 17 (c_const (1816) (c_iald (c_ifle (c_aload 0 (c_iload 1 (c_putI 8 0 (c_aload 0 (c_iload 2 (c_putI 8 1 (c_aload 0 (c_iload 1 (c_iload 2 (c_imul (c_putI 8 2 (c_const (0) (c_istore 3 (BX8_grid_56 N N)))))))))))))) (c_const (-3) c_iret)))))) (c_const (-2) c_iret)))))))))))
def fX8_grid (N : Nat) : hf_F := hf_fn 3 4 (EX8_grid N)
abbrev rmX8_isCrew : Room := { frames := 1, cells := 0, slots := 0, locals := 22 }
abbrev SX8_isCrew (g : hf_G) (l : Launch) (pc : Nat) (k : hf_K hf_M) : Prop := hf_S hf_KS (hf_H g) hf_c0 (hf_Qm g) g l rmX8_isCrew cX8_isCrew 2 RX8 (some .boolean) pc k
def EX8_isCrew (N : Nat) : hf_K hf_M := (c_iload 1 (c_const (0) (c_aload 0 (c_getR 8 17 (c_const (1817) (c_iald (c_const (1) (c_isub (c_callS 3 (fX8_in N) c_zret)))))))))
def fX8_isCrew (N : Nat) : hf_F := hf_fn 2 2 (EX8_isCrew N)
abbrev rmX8_halt : Room := { frames := 2, cells := 0, slots := 0, locals := 43 }
abbrev SX8_halt (g : hf_G) (l : Launch) (pc : Nat) (k : hf_K hf_M) : Prop := hf_S hf_KS (hf_H g) hf_c0 (hf_Qm g) g l rmX8_halt cX8_halt 4 RX8 (some .int) pc k
def EX8_halt (N : Nat) : hf_K hf_M := (c_aload 0 (c_iload 1 (c_callV 8 1 (fX8_isCrew N) (c_ifne (c_const (1536) (c_const (8) (c_iload 1 (c_imul (c_iadd (c_istore 2 (c_aload 0 (c_getR 8 17 (c_iload 2 (c_const (3) (c_iadd (c_iald (c_const (1) (c_icmpne (c_aload 0 (c_getR 8 17 (c_iload 2 (c_const (2) (c_iadd (c_iald (c_istore 3 (c_aload 0 (c_getR 8 17 (c_iload 2 (c_const (2) (c_iadd (c_const (0) (c_iast (c_aload 0 (c_getR 8 17 (c_iload 2 (c_const (7) (c_iadd (c_const (0) (c_iast (c_iload 3 c_iret)))))))))))))))))))))) (c_const (-3) c_iret))))))))))))))) (c_const (-1) c_iret)))))
def fX8_halt (N : Nat) : hf_F := hf_fn 2 4 (EX8_halt N)
abbrev rmX8_keep : Room := { frames := 1, cells := 0, slots := 0, locals := 22 }
abbrev SX8_keep (g : hf_G) (l : Launch) (pc : Nat) (k : hf_K hf_M) : Prop := hf_S hf_KS (hf_H g) hf_c0 (hf_Qm g) g l rmX8_keep cX8_keep 2 RX8 (some .int) pc k
def EX8_keep (N : Nat) : hf_K hf_M := (c_iload 1 (c_const (0) (c_const (2) (c_callS 3 (fX8_in N) (c_ifne (c_aload 0 (c_iload 1 (c_callV 8 1 (fX8_save N) (c_aload 0 (c_getR 8 19 (c_iload 1 (c_aload 0 (c_getI 8 20 (c_iast (c_aload 0 (c_getR 8 17 (c_const (1816) (c_iald c_iret))))))))))))) (c_const (-1) c_iret))))))
def fX8_keep (N : Nat) : hf_F := hf_fn 2 2 (EX8_keep N)
abbrev rmX8_light : Room := { frames := 2, cells := 0, slots := 0, locals := 43 }
abbrev SX8_light (g : hf_G) (l : Launch) (pc : Nat) (k : hf_K hf_M) : Prop := hf_S hf_KS (hf_H g) hf_c0 (hf_Qm g) g l rmX8_light cX8_light 3 RX8 (some .int) pc k
def EX8_light (N : Nat) : hf_K hf_M := (c_aload 0 (c_iload 1 (c_callV 8 1 (fX8_isCell N) (c_ifne (c_iload 2 (c_const (0) (c_const (10000) (c_callS 3 (fX8_in N) (c_ifne (c_aload 0 (c_getI 8 13 (c_const (20) (c_icmpne (c_aload 0 (c_getR 8 14 (c_aload 0 (c_getI 8 13 (c_iload 1 (c_iast (c_aload 0 (c_getR 8 15 (c_aload 0 (c_getI 8 13 (c_iload 2 (c_iast (c_aload 0 (c_dup (c_getI 8 13 (c_const (1) (c_iadd (c_putI 8 13 (c_aload 0 (c_getI 8 13 c_iret)))))))))))))))))))) (c_const (-4) c_iret))))) (c_const (-2) c_iret)))))) (c_const (-1) c_iret)))))
def fX8_light (N : Nat) : hf_F := hf_fn 3 3 (EX8_light N)
abbrev rmX8_many : Room := { frames := 1, cells := 0, slots := 0, locals := 22 }
abbrev SX8_many (g : hf_G) (l : Launch) (pc : Nat) (k : hf_K hf_M) : Prop := hf_S hf_KS (hf_H g) hf_c0 (hf_Qm g) g l rmX8_many cX8_many 4 RX8 (some .int) pc k
def BX8_many_16 (N : Nat) : Nat → hf_K hf_M
  | 0 => c_none
  | n + 1 => (c_iload 3 (c_aload 0 (c_getI 8 2 (c_icmpge (c_iload 2 c_iret) (c_iload 2 (c_aload 0 (c_getR 8 17 (c_const (0) (c_iload 3 (c_iadd (c_iald (c_iload 1 (c_icmpne (c_const (0) (c_iadd (c_istore 2 (c_iinc 3 (1) (c_goto (BX8_many_16 N n)))))) (c_const (1) (c_goto (c_iadd (c_istore 2 (c_iinc 3 (1) (c_goto (BX8_many_16 N n))))))))))))))))))))
def EX8_many (N : Nat) : hf_K hf_M := (c_iload 1 (c_const (0) (c_const (5) (c_callS 3 (fX8_in N) (c_ifne (c_const (0) (c_istore 2 (c_const (0) (c_istore 3 (BX8_many_16 N N))))) (c_const (-2) c_iret))))))
def fX8_many (N : Nat) : hf_F := hf_fn 2 4 (EX8_many N)
abbrev rmX8_ofCrew : Room := { frames := 2, cells := 0, slots := 0, locals := 43 }
abbrev SX8_ofCrew (g : hf_G) (l : Launch) (pc : Nat) (k : hf_K hf_M) : Prop := hf_S hf_KS (hf_H g) hf_c0 (hf_Qm g) g l rmX8_ofCrew cX8_ofCrew 4 RX8 (some .int) pc k
def EX8_ofCrew (N : Nat) : hf_K hf_M := (c_aload 0 (c_iload 1 (c_callV 8 1 (fX8_isCrew N) (c_ifne (c_const (1536) (c_const (8) (c_iload 1 (c_imul (c_iadd (c_istore 3 (c_iload 2 (c_tsw [(c_aload 0 (c_getR 8 17 (c_iload 3 (c_iald c_iret)))), (c_aload 0 (c_getR 8 17 (c_iload 3 (c_const (1) (c_iadd (c_iald c_iret)))))), (c_aload 0 (c_getR 8 17 (c_iload 3 (c_const (2) (c_iadd (c_iald (c_ifne (c_aload 0 (c_getR 8 17 (c_const (1600) (c_const (24) (c_iload 1 (c_imul (c_iadd (c_iald c_iret)))))))) (c_const (-6) (c_goto c_iret))))))))), (c_aload 0 (c_getR 8 17 (c_iload 3 (c_const (2) (c_iadd (c_iald c_iret)))))), (c_aload 0 (c_getR 8 17 (c_iload 3 (c_const (3) (c_iadd (c_iald c_iret)))))), (c_aload 0 (c_getR 8 17 (c_iload 3 (c_const (4) (c_iadd (c_iald c_iret)))))), (c_aload 0 (c_getR 8 17 (c_iload 3 (c_const (5) (c_iadd (c_iald c_iret)))))), (c_aload 0 (c_getR 8 17 (c_iload 3 (c_const (6) (c_iadd (c_iald c_iret))))))] (c_const (-2) c_iret))))))))) (c_const (-1) c_iret)))))
def fX8_ofCrew (N : Nat) : hf_F := hf_fn 3 4 (EX8_ofCrew N)
abbrev rmX8_plan : Room := { frames := 2, cells := 0, slots := 0, locals := 43 }
abbrev SX8_plan (g : hf_G) (l : Launch) (pc : Nat) (k : hf_K hf_M) : Prop := hf_S hf_KS (hf_H g) hf_c0 (hf_Qm g) g l rmX8_plan cX8_plan 6 RX8 (some .int) pc k
def BX8_plan_49 (N : Nat) : hf_K hf_M := (c_const (1536) (c_const (8) (c_iload 1 (c_imul (c_iadd (c_istore 4 (c_aload 0 (c_getR 8 17 (c_iload 4 (c_const (3) (c_iadd (c_iald (c_const (1) (c_icmpne (c_aload 0 (c_getR 8 17 (c_iload 4 (c_const (2) (c_iadd (c_iald (c_const (12) (c_icmpne (c_const (1600) (c_const (24) (c_iload 1 (c_imul (c_iadd (c_const (2) (c_aload 0 (c_getR 8 17 (c_iload 4 (c_const (2) (c_iadd (c_iald (c_imul (c_iadd (c_istore 5 (c_aload 0 (c_getR 8 17 (c_iload 5 (c_iload 2 (c_iast (c_aload 0 (c_getR 8 17 (c_iload 5 (c_const (1) (c_iadd (c_iload 3 (c_iast (c_aload 0 (c_getR 8 17 (c_iload 4 (c_const (2) (c_iadd (c_dup2 (c_iald (c_const (1) (c_iadd (c_iast (c_aload 0 (c_getR 8 17 (c_iload 4 (c_const (2) (c_iadd (c_iald c_iret))))))))))))))))))))))))))))))))))))))))))) (c_const (-4) c_iret))))))))) (c_const (-3) c_iret)))))))))))))))
def BX8_plan_23 (N : Nat) : hf_K hf_M := (c_iload 2 (c_const (0) (c_const (5) (c_callS 3 (fX8_in N) (c_ifeq (c_const (-2) c_iret) (c_iload 2 (c_ifne (BX8_plan_49 N) (c_iload 3 (c_const (1) (c_const (100) (c_callS 3 (fX8_in N) (c_ifne (BX8_plan_49 N) (c_const (-2) c_iret)))))))))))))
def EX8_plan (N : Nat) : hf_K hf_M := (c_aload 0 (c_iload 1 (c_callV 8 1 (fX8_isCrew N) (c_ifeq (c_const (-1) c_iret) (c_iload 2 (c_const (1) (c_icmpne (BX8_plan_23 N) (c_aload 0 (c_iload 3 (c_callV 8 1 (fX8_isCell N) (c_ifne (BX8_plan_23 N) (c_const (-1) c_iret))))))))))))
def fX8_plan (N : Nat) : hf_F := hf_fn 4 6 (EX8_plan N)
abbrev rmX8_seed : Room := { frames := 0, cells := 0, slots := 0, locals := 0 }
abbrev SX8_seed (g : hf_G) (l : Launch) (pc : Nat) (k : hf_K hf_M) : Prop := hf_S hf_KS (hf_H g) hf_c0 (hf_Qm g) g l rmX8_seed cX8_seed 3 RX8 (some .int) pc k
def EX8_seed (N : Nat) : hf_K hf_M := (c_aload 0 (c_getI 8 12 (c_istore 2 (c_aload 0 (c_iload 1 (c_putI 8 12 (c_iload 2 c_iret)))))))
def fX8_seed (N : Nat) : hf_F := hf_fn 2 3 (EX8_seed N)
abbrev rmX8_sky : Room := { frames := 1, cells := 0, slots := 0, locals := 24 }
abbrev SX8_sky (g : hf_G) (l : Launch) (pc : Nat) (k : hf_K hf_M) : Prop := hf_S hf_KS (hf_H g) hf_c0 (hf_Qm g) g l rmX8_sky cX8_sky 4 RX8 (some .int) pc k
def EX8_sky (N : Nat) : hf_K hf_M := (c_iload 1 (c_iflt (c_const (-2) c_iret) (c_iload 2 (c_const (0) (c_const (2) (c_callS 3 (fX8_in N) (c_ifne (c_aload 0 (c_iload 1 (c_callV 8 1 (fX8_skyOf N) (c_istore 3 (c_iload 3 (c_ifge (c_iload 2 (c_ifne (c_iload 2 (c_const (1) (c_icmpne (c_aload 0 (c_getR 8 11 (c_iload 3 (c_iald c_iret)))) (c_aload 0 (c_getR 8 10 (c_iload 3 (c_iald (c_goto c_iret)))))))) (c_aload 0 (c_getR 8 9 (c_iload 3 (c_iald (c_goto c_iret))))))) (c_const (0) (c_goto c_iret)))))))) (c_const (-2) c_iret))))))))
def fX8_sky (N : Nat) : hf_F := hf_fn 3 4 (EX8_sky N)
abbrev rmX8_step : Room := { frames := 5, cells := 0, slots := 0, locals := 123 }
abbrev SX8_step (g : hf_G) (l : Launch) (pc : Nat) (k : hf_K hf_M) : Prop := hf_S hf_KS (hf_H g) hf_c0 (hf_Qm g) g l rmX8_step cX8_step 3 RX8 (some .int) pc k
def BX8_step_16 (N : Nat) : Nat → hf_K hf_M
  | 0 => c_none
  | n + 1 => (c_iload 2 (c_iload 1 (c_icmpge (c_aload 0 (c_getR 8 17 (c_const (1816) (c_iald c_iret)))) (c_aload 0 (c_callV 8 0 (fX8_step1 N) (c_iinc 2 (1) (c_goto (BX8_step_16 N n))))))))
def EX8_step (N : Nat) : hf_K hf_M := (c_iload 1 (c_const (0) (c_const (500) (c_callS 3 (fX8_in N) (c_ifne (c_const (0) (c_istore 2 (BX8_step_16 N N))) (c_const (-2) c_iret))))))
def fX8_step (N : Nat) : hf_F := hf_fn 2 3 (EX8_step N)
abbrev rmX8_strip : Room := { frames := 1, cells := 0, slots := 0, locals := 22 }
abbrev SX8_strip (g : hf_G) (l : Launch) (pc : Nat) (k : hf_K hf_M) : Prop := hf_S hf_KS (hf_H g) hf_c0 (hf_Qm g) g l rmX8_strip cX8_strip 3 RX8 (some .int) pc k
def EX8_strip (N : Nat) : hf_K hf_M := (c_iload 1 (c_const (0) (c_aload 0 (c_getR 8 17 (c_const (1818) (c_iald (c_const (1) (c_isub (c_callS 3 (fX8_in N) (c_ifne (c_iload 2 (c_const (0) (c_const (2) (c_callS 3 (fX8_in N) (c_ifeq (c_const (-2) c_iret) (c_aload 0 (c_getR 8 17 (c_const (1792) (c_const (3) (c_iload 1 (c_imul (c_iadd (c_iload 2 (c_iadd (c_iald (c_goto c_iret)))))))))))))))) (c_const (-1) c_iret)))))))))))
def fX8_strip (N : Nat) : hf_F := hf_fn 3 3 (EX8_strip N)
abbrev rmX8_strips : Room := { frames := 1, cells := 0, slots := 0, locals := 22 }
abbrev SX8_strips (g : hf_G) (l : Launch) (pc : Nat) (k : hf_K hf_M) : Prop := hf_S hf_KS (hf_H g) hf_c0 (hf_Qm g) g l rmX8_strips cX8_strips 5 RX8 (some .int) pc k
def BX8_strips_51 (N : Nat) (k25 : hf_K hf_M) : hf_K hf_M := (c_iadd (c_istore 4 (c_aload 0 (c_getR 8 17 (c_const (1792) (c_const (3) (c_iload 3 (c_imul (c_iadd (c_iload 2 (c_iast (c_aload 0 (c_getR 8 17 (c_const (1792) (c_const (3) (c_iload 3 (c_imul (c_iadd (c_const (1) (c_iadd (c_iload 2 (c_iload 4 (c_iadd (c_const (1) (c_isub (c_iast (c_aload 0 (c_getR 8 17 (c_const (1792) (c_const (3) (c_iload 3 (c_imul (c_iadd (c_const (2) (c_iadd (c_const (0) (c_iast (c_iload 2 (c_iload 4 (c_iadd (c_istore 2 (c_iinc 3 (1) (c_goto k25)))))))))))))))))))))))))))))))))))))))))))
def BX8_strips_25 (N : Nat) : Nat → hf_K hf_M
  | 0 => c_none
  | n + 1 => (c_iload 3 (c_iload 1 (c_icmpge (c_aload 0 (c_getR 8 17 (c_const (1818) (c_iload 1 (c_iast (c_aload 0 (c_getR 8 17 (c_const (1793) (c_iald (c_const (1) (c_iadd c_iret))))))))))) (c_aload 0 (c_getI 8 0 (c_iload 1 (c_idiv (c_iload 3 (c_aload 0 (c_getI 8 0 (c_iload 1 (c_irem (c_icmpge (c_const (0) (BX8_strips_51 N (BX8_strips_25 N n))) (c_const (1) (c_goto (BX8_strips_51 N (BX8_strips_25 N n)))))))))))))))))
def EX8_strips (N : Nat) : hf_K hf_M := (c_iload 1 (c_const (1) (c_const (8) (c_callS 3 (fX8_in N) (c_ifeq (c_const (-2) c_iret) (c_iload 1 (c_aload 0 (c_getI 8 0 (c_icmple (c_const (0) (c_istore 2 (c_const (0) (c_istore 3 (BX8_strips_25 N N))))) (c_const (-2) c_iret))))))))))
def fX8_strips (N : Nat) : hf_F := hf_fn 2 5 (EX8_strips N)
abbrev rmX8_sum : Room := { frames := 0, cells := 0, slots := 0, locals := 0 }
abbrev SX8_sum (g : hf_G) (l : Launch) (pc : Nat) (k : hf_K hf_M) : Prop := hf_S hf_KS (hf_H g) hf_c0 (hf_Qm g) g l rmX8_sum cX8_sum 4 RX8 (some .int) pc k
def BX8_sum_4 (N : Nat) : Nat → hf_K hf_M
  | 0 => c_none
  | n + 1 => (c_iload 3 (c_aload 0 (c_getI 8 2 (c_icmpge (c_iload 2 c_iret) (c_iload 2 (c_aload 0 (c_getR 8 17 (c_iload 1 (c_iload 3 (c_iadd (c_iald (c_iadd (c_istore 2 (c_iinc 3 (1) (c_goto (BX8_sum_4 N n))))))))))))))))
def EX8_sum (N : Nat) : hf_K hf_M := (c_const (0) (c_istore 2 (c_const (0) (c_istore 3 (BX8_sum_4 N N)))))
def fX8_sum (N : Nat) : hf_F := hf_fn 2 4 (EX8_sum N)
abbrev rmX8_told : Room := { frames := 1, cells := 0, slots := 0, locals := 23 }
abbrev SX8_told (g : hf_G) (l : Launch) (pc : Nat) (k : hf_K hf_M) : Prop := hf_S hf_KS (hf_H g) hf_c0 (hf_Qm g) g l rmX8_told cX8_told 2 RX8 (some .int) pc k
def EX8_told (N : Nat) : hf_K hf_M := (c_iload 1 (c_tsw [(c_aload 0 (c_getI 8 0 c_iret)), (c_aload 0 (c_getI 8 1 c_iret)), (c_aload 0 (c_getR 8 17 (c_const (1816) (c_iald c_iret)))), (c_aload 0 (c_getI 8 7 c_iret)), (c_aload 0 (c_getR 8 17 (c_const (1817) (c_iald c_iret)))), (c_aload 0 (c_getR 8 17 (c_const (1818) (c_iald c_iret)))), (c_aload 0 (c_const (256) (c_callV 8 1 (fX8_sum N) c_iret))), (c_aload 0 (c_const (768) (c_callV 8 1 (fX8_sum N) c_iret))), (c_aload 0 (c_const (1024) (c_callV 8 1 (fX8_sum N) c_iret)))] (c_iload 1 (c_const (9) (c_const (13) (c_callS 3 (fX8_in N) (c_ifeq (c_const (-2) c_iret) (c_aload 0 (c_getR 8 17 (c_const (1819) (c_iload 1 (c_iadd (c_const (9) (c_isub (c_iald (c_goto c_iret))))))))))))))))
def fX8_told (N : Nat) : hf_F := hf_fn 2 2 (EX8_told N)
abbrev rmX8_weather : Room := { frames := 1, cells := 0, slots := 0, locals := 22 }
abbrev SX8_weather (g : hf_G) (l : Launch) (pc : Nat) (k : hf_K hf_M) : Prop := hf_S hf_KS (hf_H g) hf_c0 (hf_Qm g) g l rmX8_weather cX8_weather 5 RX8 (some .int) pc k
def EX8_weather (N : Nat) : hf_K hf_M := (c_iload 1 (c_const (0) (c_const (10000) (c_callS 3 (fX8_in N) (c_ifeq (c_const (-2) c_iret) (c_iload 2 (c_const (0) (c_const (7) (c_callS 3 (fX8_in N) (c_ifeq (c_const (-2) c_iret) (c_iload 3 (c_const (0) (c_const (4) (c_callS 3 (fX8_in N) (c_ifeq (c_const (-2) c_iret) (c_iload 4 (c_const (0) (c_const (9) (c_callS 3 (fX8_in N) (c_ifne (c_aload 0 (c_getI 8 7 (c_const (16) (c_icmpne (c_aload 0 (c_getR 8 8 (c_aload 0 (c_getI 8 7 (c_iload 1 (c_iast (c_aload 0 (c_getR 8 9 (c_aload 0 (c_getI 8 7 (c_iload 2 (c_iast (c_aload 0 (c_getR 8 10 (c_aload 0 (c_getI 8 7 (c_iload 3 (c_iast (c_aload 0 (c_getR 8 11 (c_aload 0 (c_getI 8 7 (c_iload 4 (c_iast (c_aload 0 (c_dup (c_getI 8 7 (c_const (1) (c_iadd (c_putI 8 7 (c_aload 0 (c_getI 8 7 c_iret)))))))))))))))))))))))))))))))) (c_const (-4) c_iret))))) (c_const (-2) c_iret)))))))))))))))))))))
def fX8_weather (N : Nat) : hf_F := hf_fn 5 5 (EX8_weather N)
