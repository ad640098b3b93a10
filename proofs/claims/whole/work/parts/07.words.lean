section TSW
variable {M : Type} {S : Nat → hf_K M → Prop}
theorem hf_tswnil : ∀ (i : Nat) (k : hf_K M) (t : Nat), ([] : List (hf_K M))[i]? = some k → ([] : List Nat)[i]? = some t → S t k := fun i k t h => by simp at h
theorem hf_tswcons {k0 : hf_K M} {t0 : Nat} {ks : List (hf_K M)} {ts : List Nat} (h0 : S t0 k0) (hr : ∀ (i : Nat) (k : hf_K M) (t : Nat), ks[i]? = some k → ts[i]? = some t → S t k) : ∀ (i : Nat) (k : hf_K M) (t : Nat), (k0 :: ks)[i]? = some k → (t0 :: ts)[i]? = some t → S t k := by
  intro i k t h1 h2
  cases i with
  | zero => cases h1; cases h2; exact h0
  | succ i => exact hr i k t h1 h2
end TSW
section TSW2
variable {M : Type} {KS : hf_G → State → Prop} {Hp : M → Heap → Prop} {cs : M → Nat × Nat} {Qf : hf_Q M} {g : hf_G} {l : Launch} {R : Room} {cc : ByteArray} {nL : Nat} {own : String} {ret : Option FieldType} {pc q : Nat} {k : hf_K M}
theorem s_tsw2 {ks : List (hf_K M)} {kd : hf_K M} {dflt hi : Int} {offs : Array Int} {len tgtd : Nat} {tg : List Nat} (hd : decode cc pc = .ok (.tableswitch dflt 0 hi offs, len)) (hhi : hi + 1 = (tg.length : Int)) (htd : (pc : Int) + dflt = (tgtd : Int)) (hlen : tg.length = ks.length) (hto : ∀ i, i < tg.length → (offs[i]?).map (fun o => (pc : Int) + o) = (tg[i]?).map Int.ofNat) (hkd : hf_S KS Hp cs Qf g l R cc nL own ret tgtd kd) (hks : ∀ (i : Nat) (k : hf_K M) (t : Nat), ks[i]? = some k → tg[i]? = some t → hf_S KS Hp cs Qf g l R cc nL own ret t k) : hf_S KS Hp cs Qf g l R cc nL own ret pc (c_tsw ks kd) :=
  s_tsw hd (by rw [← hlen]; exact hhi) htd hlen (fun i h => hto i (by rw [hlen]; exact h)) hkd hks
def c_mmax (k : hf_K M) : hf_K M := fun pl st I => match st with
  | .int y :: .int x :: st => if (st.map fun v => v.category).sum ≤ 8 then k pl (.int (if x < y then y else x) :: st) I else none
  | _ => none
theorem s_mmax {cz : Nat × Nat} {index : Nat} (hl : Cond.methodLink own index Lib.Math.max.name ∈ wtb) (hst : Cond.static Lib.Math.max.name ∈ wtb) (hini : Cond.initialized "java/lang/Math" ∈ wtb) (hco : Cond.code Lib.Math.max.name Lib.Math.max.code 2 (some .int) ∈ wtb) (hfr : 1 ≤ R.frames) (hlo : 21 ≤ R.locals) (hf : cz.1 ≤ R.cells ∧ cz.2 ≤ R.slots) (hd : decode cc pc = .ok (.invokestatic index, 3)) (hk : hf_S KS Hp (fun _ => cz) Qf g l R cc nL own ret q k) (hq : pc + 3 = q) : hf_S KS Hp (fun _ => cz) Qf g l R cc nL own ret pc (c_mmax k) := by
  intro p e s m args below meth c hC H locs pl ls st I r I' hS hH hL he
  subst hq
  unfold c_mmax at he
  split at he
  · split at he
    · rename_i y x st hs8
      have W5 := hC.2.2.2.2.1
      rw [← hf_enc_cats g st] at hs8
      exact va_mmax hC.1 hC.2.1 (hC.2.2.1.trans hL.1.symm) hC.2.2.2.1 (W5 _ hl) (W5 _ hst) (W5 _ hini) (W5 _ hco) hfr (by omega) hf.1 hf.2 hd (hk p e s m args below meth c hC H locs pl ls _ I r I' hS hH hL he)
    · cases he
  · cases he
def c_mmin (k : hf_K M) : hf_K M := fun pl st I => match st with
  | .int y :: .int x :: st => if (st.map fun v => v.category).sum ≤ 8 then k pl (.int (if y < x then y else x) :: st) I else none
  | _ => none
theorem s_mmin {cz : Nat × Nat} {index : Nat} (hl : Cond.methodLink own index Lib.Math.min.name ∈ wtb) (hst : Cond.static Lib.Math.min.name ∈ wtb) (hini : Cond.initialized "java/lang/Math" ∈ wtb) (hco : Cond.code Lib.Math.min.name Lib.Math.min.code 2 (some .int) ∈ wtb) (hfr : 1 ≤ R.frames) (hlo : 21 ≤ R.locals) (hf : cz.1 ≤ R.cells ∧ cz.2 ≤ R.slots) (hd : decode cc pc = .ok (.invokestatic index, 3)) (hk : hf_S KS Hp (fun _ => cz) Qf g l R cc nL own ret q k) (hq : pc + 3 = q) : hf_S KS Hp (fun _ => cz) Qf g l R cc nL own ret pc (c_mmin k) := by
  intro p e s m args below meth c hC H locs pl ls st I r I' hS hH hL he
  subst hq
  unfold c_mmin at he
  split at he
  · split at he
    · rename_i y x st hs8
      have W5 := hC.2.2.2.2.1
      rw [← hf_enc_cats g st] at hs8
      exact va_mmin hC.1 hC.2.1 (hC.2.2.1.trans hL.1.symm) hC.2.2.2.1 (W5 _ hl) (W5 _ hst) (W5 _ hini) (W5 _ hco) hfr (by omega) hf.1 hf.2 hd (hk p e s m args below meth c hC H locs pl ls _ I r I' hS hH hL he)
    · cases he
  · cases he
end TSW2
set_option maxRecDepth 20000 in
theorem tw180 : Cond.fieldLink RX0 18 "HeathFire$Crew" "acts" "I" ∈ wtb := wtb_mem 180 (by decide +kernel) (by decide +kernel)
set_option maxRecDepth 20000 in
theorem tw182 : Cond.fieldLink RX0 22 "HeathFire$Crew" "spent" "I" ∈ wtb := wtb_mem 182 (by decide +kernel) (by decide +kernel)
set_option maxRecDepth 20000 in
theorem tw177 : Cond.fieldLink RX0 9 "HeathFire$Crew" "kinds" "[I" ∈ wtb := wtb_mem 177 (by decide +kernel) (by decide +kernel)
set_option maxRecDepth 20000 in
theorem tw179 : Cond.fieldLink RX0 15 "HeathFire$Crew" "numbers" "[I" ∈ wtb := wtb_mem 179 (by decide +kernel) (by decide +kernel)
set_option maxRecDepth 20000 in
theorem tw220 : Cond.fieldLink RX0 87 "HeathFire$Scene" "state" "[I" ∈ wtb := wtb_mem 220 (by decide +kernel) (by decide +kernel)
set_option maxRecDepth 20000 in
theorem tw183 : Cond.fieldLink RX0 25 "HeathFire$Crew" "cell" "I" ∈ wtb := wtb_mem 183 (by decide +kernel) (by decide +kernel)
set_option maxRecDepth 20000 in
theorem tw225 : Cond.fieldLink RX0 93 "HeathFire$Scene" "fuel" "[I" ∈ wtb := wtb_mem 225 (by decide +kernel) (by decide +kernel)
set_option maxRecDepth 20000 in
theorem tw190 : Cond.fieldLink RX0 34 "HeathFire$Crew" "cut" "I" ∈ wtb := wtb_mem 190 (by decide +kernel) (by decide +kernel)
set_option maxRecDepth 20000 in
theorem tw42 : Cond.fieldLink RX2 28 "HeathFire$Land" "columns" "I" ∈ wtb := wtb_mem 42 (by decide +kernel) (by decide +kernel)
set_option maxRecDepth 20000 in
theorem tw39 : Cond.fieldLink RX2 24 "HeathFire$Land" "rows" "I" ∈ wtb := wtb_mem 39 (by decide +kernel) (by decide +kernel)
set_option maxRecDepth 20000 in
theorem tw444 : Cond.methodLink RX0 103 yX2_off ∈ wtb := wtb_mem 444 (by decide +kernel) (by decide +kernel)
set_option maxRecDepth 20000 in
theorem tw445 : Cond.instanceMethod yX2_off ∈ wtb := wtb_mem 445 (by decide +kernel) (by decide +kernel)
set_option maxRecDepth 20000 in
theorem tw446 : Cond.selects RX2 yX2_off yX2_off ∈ wtb := wtb_mem 446 (by decide +kernel) (by decide +kernel)
set_option maxRecDepth 20000 in
theorem tw2 : Cond.initialized RX2 ∈ wtb := wtb_mem 2 (by decide +kernel) (by decide +kernel)
set_option maxRecDepth 20000 in
theorem tw447 : Cond.code yX2_off cX2_off 6 (some .int) ∈ wtb := wtb_mem 447 (by decide +kernel) (by decide +kernel)
set_option maxRecDepth 20000 in
theorem tw232 : Cond.fieldLink RX0 100 "HeathFire$Scene" "heat" "[I" ∈ wtb := wtb_mem 232 (by decide +kernel) (by decide +kernel)
set_option maxRecDepth 20000 in
theorem tw186 : Cond.fieldLink RX0 28 "HeathFire$Crew" "water" "I" ∈ wtb := wtb_mem 186 (by decide +kernel) (by decide +kernel)
set_option maxRecDepth 20000 in
theorem tw440 : Cond.methodLink RX0 96 yX0_hottestAbout ∈ wtb := wtb_mem 440 (by decide +kernel) (by decide +kernel)
set_option maxRecDepth 20000 in
theorem tw442 : Cond.instanceMethod yX0_hottestAbout ∈ wtb := wtb_mem 442 (by decide +kernel) (by decide +kernel)
set_option maxRecDepth 20000 in
theorem twp5 : Cond.selects RX0 yX0_hottestAbout yX0_hottestAbout ∈ wtb := wtb_memL 5 (by decide +kernel) (by decide +kernel)
set_option maxRecDepth 20000 in
theorem tw9 : Cond.initialized RX0 ∈ wtb := wtb_mem 9 (by decide +kernel) (by decide +kernel)
set_option maxRecDepth 20000 in
theorem tw443 : Cond.code yX0_hottestAbout cX0_hottestAbout 7 (some .int) ∈ wtb := wtb_mem 443 (by decide +kernel) (by decide +kernel)
set_option maxRecDepth 20000 in
theorem tw192 : Cond.fieldLink RX0 37 "HeathFire$Crew" "doused" "I" ∈ wtb := wtb_mem 192 (by decide +kernel) (by decide +kernel)
set_option maxRecDepth 20000 in
theorem tw30 : Cond.fieldLink RX0 90 "HeathFire$Land" "ground" "[I" ∈ wtb := wtb_mem 30 (by decide +kernel) (by decide +kernel)
set_option maxRecDepth 20000 in
theorem tw429 : Cond.methodLink RX2 47 yJ6_compare_7cf53 ∈ wtb := wtb_mem 429 (by decide +kernel) (by decide +kernel)
set_option maxRecDepth 20000 in
theorem tw430 : Cond.static yJ6_compare_7cf53 ∈ wtb := wtb_mem 430 (by decide +kernel) (by decide +kernel)
set_option maxRecDepth 20000 in
theorem tw11 : Cond.initialized RJ6 ∈ wtb := wtb_mem 11 (by decide +kernel) (by decide +kernel)
set_option maxRecDepth 20000 in
theorem tw431 : Cond.code yJ6_compare_7cf53 cJ6_compare_7cf53 2 (some .int) ∈ wtb := wtb_mem 431 (by decide +kernel) (by decide +kernel)
set_option maxRecDepth 20000 in
theorem tw188 : Cond.fieldLink RX0 31 "HeathFire$Crew" "heldUp" "I" ∈ wtb := wtb_mem 188 (by decide +kernel) (by decide +kernel)
set_option maxRecDepth 20000 in
theorem tw425 : Cond.methodLink RX0 81 yX2_nearer ∈ wtb := wtb_mem 425 (by decide +kernel) (by decide +kernel)
set_option maxRecDepth 20000 in
theorem tw426 : Cond.instanceMethod yX2_nearer ∈ wtb := wtb_mem 426 (by decide +kernel) (by decide +kernel)
set_option maxRecDepth 20000 in
theorem tw427 : Cond.selects RX2 yX2_nearer yX2_nearer ∈ wtb := wtb_mem 427 (by decide +kernel) (by decide +kernel)
set_option maxRecDepth 20000 in
theorem tw428 : Cond.code yX2_nearer cX2_nearer 5 (some .int) ∈ wtb := wtb_mem 428 (by decide +kernel) (by decide +kernel)
set_option maxRecDepth 20000 in
theorem tw218 : Cond.fieldLink RX4 9 "HeathFire$Scene" "state" "[I" ∈ wtb := wtb_mem 218 (by decide +kernel) (by decide +kernel)
set_option maxRecDepth 20000 in
theorem tw236 : Cond.fieldLink RX4 27 "HeathFire$Scene" "arrival" "[I" ∈ wtb := wtb_mem 236 (by decide +kernel) (by decide +kernel)
set_option maxRecDepth 20000 in
theorem tw245 : Cond.fieldLink RX4 47 "HeathFire$Scene" "steps" "I" ∈ wtb := wtb_mem 245 (by decide +kernel) (by decide +kernel)
set_option maxRecDepth 20000 in
theorem tw421 : Cond.methodLink RX0 60 yX0_goOn ∈ wtb := wtb_mem 421 (by decide +kernel) (by decide +kernel)
set_option maxRecDepth 20000 in
theorem tw423 : Cond.instanceMethod yX0_goOn ∈ wtb := wtb_mem 423 (by decide +kernel) (by decide +kernel)
set_option maxRecDepth 20000 in
theorem twp2 : Cond.selects RX0 yX0_goOn yX0_goOn ∈ wtb := wtb_memL 2 (by decide +kernel) (by decide +kernel)
set_option maxRecDepth 20000 in
theorem tw424 : Cond.code yX0_goOn cX0_goOn 4 (some .boolean) ∈ wtb := wtb_mem 424 (by decide +kernel) (by decide +kernel)
set_option maxRecDepth 20000 in
theorem tw432 : Cond.methodLink RX0 63 yX0_cutOn ∈ wtb := wtb_mem 432 (by decide +kernel) (by decide +kernel)
set_option maxRecDepth 20000 in
theorem tw434 : Cond.instanceMethod yX0_cutOn ∈ wtb := wtb_mem 434 (by decide +kernel) (by decide +kernel)
set_option maxRecDepth 20000 in
theorem twp3 : Cond.selects RX0 yX0_cutOn yX0_cutOn ∈ wtb := wtb_memL 3 (by decide +kernel) (by decide +kernel)
set_option maxRecDepth 20000 in
theorem tw435 : Cond.code yX0_cutOn cX0_cutOn 2 (some .boolean) ∈ wtb := wtb_mem 435 (by decide +kernel) (by decide +kernel)
set_option maxRecDepth 20000 in
theorem tw436 : Cond.methodLink RX0 67 yX0_douse ∈ wtb := wtb_mem 436 (by decide +kernel) (by decide +kernel)
set_option maxRecDepth 20000 in
theorem tw438 : Cond.instanceMethod yX0_douse ∈ wtb := wtb_mem 438 (by decide +kernel) (by decide +kernel)
set_option maxRecDepth 20000 in
theorem twp4 : Cond.selects RX0 yX0_douse yX0_douse ∈ wtb := wtb_memL 4 (by decide +kernel) (by decide +kernel)
set_option maxRecDepth 20000 in
theorem tw439 : Cond.code yX0_douse cX0_douse 4 none ∈ wtb := wtb_mem 439 (by decide +kernel) (by decide +kernel)
set_option maxRecDepth 20000 in
theorem tw452 : Cond.methodLink RX0 71 yX0_fill ∈ wtb := wtb_mem 452 (by decide +kernel) (by decide +kernel)
set_option maxRecDepth 20000 in
theorem tw454 : Cond.instanceMethod yX0_fill ∈ wtb := wtb_mem 454 (by decide +kernel) (by decide +kernel)
set_option maxRecDepth 20000 in
theorem twp6 : Cond.selects RX0 yX0_fill yX0_fill ∈ wtb := wtb_memL 6 (by decide +kernel) (by decide +kernel)
set_option maxRecDepth 20000 in
theorem tw455 : Cond.code yX0_fill cX0_fill 5 none ∈ wtb := wtb_mem 455 (by decide +kernel) (by decide +kernel)
set_option maxRecDepth 20000 in
theorem tw456 : Cond.methodLink RX0 75 yX4_kindle ∈ wtb := wtb_mem 456 (by decide +kernel) (by decide +kernel)
set_option maxRecDepth 20000 in
theorem tw410 : Cond.instanceMethod yX4_kindle ∈ wtb := wtb_mem 410 (by decide +kernel) (by decide +kernel)
set_option maxRecDepth 20000 in
theorem tw411 : Cond.selects RX4 yX4_kindle yX4_kindle ∈ wtb := wtb_mem 411 (by decide +kernel) (by decide +kernel)
set_option maxRecDepth 20000 in
theorem tw6 : Cond.initialized RX4 ∈ wtb := wtb_mem 6 (by decide +kernel) (by decide +kernel)
set_option maxRecDepth 20000 in
theorem tw412 : Cond.code yX4_kindle cX4_kindle 2 none ∈ wtb := wtb_mem 412 (by decide +kernel) (by decide +kernel)
set_option maxRecDepth 20000 in
theorem tw417 : Cond.methodLink RX0 53 yX0_isOver ∈ wtb := wtb_mem 417 (by decide +kernel) (by decide +kernel)
set_option maxRecDepth 20000 in
theorem tw419 : Cond.instanceMethod yX0_isOver ∈ wtb := wtb_mem 419 (by decide +kernel) (by decide +kernel)
set_option maxRecDepth 20000 in
theorem twp1 : Cond.selects RX0 yX0_isOver yX0_isOver ∈ wtb := wtb_memL 1 (by decide +kernel) (by decide +kernel)
set_option maxRecDepth 20000 in
theorem tw420 : Cond.code yX0_isOver cX0_isOver 3 (some .boolean) ∈ wtb := wtb_mem 420 (by decide +kernel) (by decide +kernel)
set_option maxRecDepth 20000 in
theorem tw457 : Cond.methodLink RX0 57 yX0_endAct ∈ wtb := wtb_mem 457 (by decide +kernel) (by decide +kernel)
set_option maxRecDepth 20000 in
theorem tw459 : Cond.instanceMethod yX0_endAct ∈ wtb := wtb_mem 459 (by decide +kernel) (by decide +kernel)
set_option maxRecDepth 20000 in
theorem twp7 : Cond.selects RX0 yX0_endAct yX0_endAct ∈ wtb := wtb_memL 7 (by decide +kernel) (by decide +kernel)
set_option maxRecDepth 20000 in
theorem tw460 : Cond.code yX0_endAct cX0_endAct 2 none ∈ wtb := wtb_mem 460 (by decide +kernel) (by decide +kernel)
set_option maxRecDepth 20000 in
theorem tw598 : Cond.methodLink RX0 44 yX0_dropPlan ∈ wtb := wtb_mem 598 (by decide +kernel) (by decide +kernel)
set_option maxRecDepth 20000 in
theorem tw466 : Cond.instanceMethod yX0_dropPlan ∈ wtb := wtb_mem 466 (by decide +kernel) (by decide +kernel)
set_option maxRecDepth 20000 in
theorem tw467 : Cond.selects RX0 yX0_dropPlan yX0_dropPlan ∈ wtb := wtb_mem 467 (by decide +kernel) (by decide +kernel)
set_option maxRecDepth 20000 in
theorem tw468 : Cond.code yX0_dropPlan cX0_dropPlan 1 none ∈ wtb := wtb_mem 468 (by decide +kernel) (by decide +kernel)
set_option maxRecDepth 20000 in
theorem tw194 : Cond.fieldLink RX0 40 "HeathFire$Crew" "lost" "Z" ∈ wtb := wtb_mem 194 (by decide +kernel) (by decide +kernel)
set_option maxRecDepth 20000 in
theorem tw652 : Cond.methodLink RX0 47 arraycopyName ∈ wtb := wtb_mem 652 (by decide +kernel) (by decide +kernel)
set_option maxRecDepth 20000 in
theorem tw647 : Cond.native arraycopyName ∈ wtb := wtb_mem 647 (by decide +kernel) (by decide +kernel)
set_option maxRecDepth 20000 in
theorem tw646 : Cond.static arraycopyName ∈ wtb := wtb_mem 646 (by decide +kernel) (by decide +kernel)
set_option maxRecDepth 20000 in
theorem tw13 : Cond.initialized "java/lang/System" ∈ wtb := wtb_mem 13 (by decide +kernel) (by decide +kernel)
set_option maxRecDepth 20000 in
theorem tw111 : Cond.fieldLink RX1 18 "HeathFire$Fire" "drift" "[I" ∈ wtb := wtb_mem 111 (by decide +kernel) (by decide +kernel)
set_option maxRecDepth 20000 in
theorem tw255 : Cond.fieldLink RX1 89 "HeathFire$Scene" "passed" "I" ∈ wtb := wtb_mem 255 (by decide +kernel) (by decide +kernel)
set_option maxRecDepth 20000 in
theorem tw114 : Cond.fieldLink RX1 28 "HeathFire$Fire" "wind" "I" ∈ wtb := wtb_mem 114 (by decide +kernel) (by decide +kernel)
set_option maxRecDepth 20000 in
theorem tw490 : Cond.methodLink RX1 100 yX2_off ∈ wtb := wtb_mem 490 (by decide +kernel) (by decide +kernel)
set_option maxRecDepth 20000 in
theorem tw235 : Cond.fieldLink RX1 147 "HeathFire$Scene" "smoke" "[I" ∈ wtb := wtb_mem 235 (by decide +kernel) (by decide +kernel)
set_option maxRecDepth 20000 in
theorem tw109 : Cond.fieldLink RX1 9 "HeathFire$Fire" "burn" "[I" ∈ wtb := wtb_mem 109 (by decide +kernel) (by decide +kernel)
set_option maxRecDepth 20000 in
theorem tw115 : Cond.fieldLink RX1 31 "HeathFire$Fire" "strength" "I" ∈ wtb := wtb_mem 115 (by decide +kernel) (by decide +kernel)
set_option maxRecDepth 20000 in
theorem tw241 : Cond.fieldLink RX1 47 "HeathFire$Scene" "strips" "LHeathFire$Strips;" ∈ wtb := wtb_mem 241 (by decide +kernel) (by decide +kernel)
set_option maxRecDepth 20000 in
theorem tw149 : Cond.fieldLink RX1 53 "HeathFire$Strips" "first" "[I" ∈ wtb := wtb_mem 149 (by decide +kernel) (by decide +kernel)
set_option maxRecDepth 20000 in
theorem tw43 : Cond.fieldLink RX1 58 "HeathFire$Land" "columns" "I" ∈ wtb := wtb_mem 43 (by decide +kernel) (by decide +kernel)
set_option maxRecDepth 20000 in
theorem tw152 : Cond.fieldLink RX1 63 "HeathFire$Strips" "last" "[I" ∈ wtb := wtb_mem 152 (by decide +kernel) (by decide +kernel)
set_option maxRecDepth 20000 in
theorem tw113 : Cond.fieldLink RX1 25 "HeathFire$Fire" "seed" "I" ∈ wtb := wtb_mem 113 (by decide +kernel) (by decide +kernel)
set_option maxRecDepth 20000 in
theorem tw504 : Cond.constant RX1 119 (69069) ∈ wtb := wtb_mem 504 (by decide +kernel) (by decide +kernel)
set_option maxRecDepth 20000 in
theorem tw112 : Cond.fieldLink RX1 21 "HeathFire$Fire" "step" "I" ∈ wtb := wtb_mem 112 (by decide +kernel) (by decide +kernel)
set_option maxRecDepth 20000 in
theorem tw505 : Cond.constant RX1 120 (40503) ∈ wtb := wtb_mem 505 (by decide +kernel) (by decide +kernel)
set_option maxRecDepth 20000 in
theorem tw506 : Cond.constant RX1 121 (2654435) ∈ wtb := wtb_mem 506 (by decide +kernel) (by decide +kernel)
set_option maxRecDepth 20000 in
theorem tw507 : Cond.constant RX1 122 (739982445) ∈ wtb := wtb_mem 507 (by decide +kernel) (by decide +kernel)
set_option maxRecDepth 20000 in
theorem tw223 : Cond.fieldLink RX1 78 "HeathFire$Scene" "fuel" "[I" ∈ wtb := wtb_mem 223 (by decide +kernel) (by decide +kernel)
set_option maxRecDepth 20000 in
theorem tw116 : Cond.fieldLink RX1 34 "HeathFire$Fire" "rain" "I" ∈ wtb := wtb_mem 116 (by decide +kernel) (by decide +kernel)
set_option maxRecDepth 20000 in
theorem tw500 : Cond.methodLink RX1 113 yX1_lot ∈ wtb := wtb_mem 500 (by decide +kernel) (by decide +kernel)
set_option maxRecDepth 20000 in
theorem tw502 : Cond.instanceMethod yX1_lot ∈ wtb := wtb_mem 502 (by decide +kernel) (by decide +kernel)
set_option maxRecDepth 20000 in
theorem twp10 : Cond.selects RX1 yX1_lot yX1_lot ∈ wtb := wtb_memL 10 (by decide +kernel) (by decide +kernel)
set_option maxRecDepth 20000 in
theorem tw5 : Cond.initialized RX1 ∈ wtb := wtb_mem 5 (by decide +kernel) (by decide +kernel)
set_option maxRecDepth 20000 in
theorem tw503 : Cond.code yX1_lot cX1_lot 4 (some .int) ∈ wtb := wtb_mem 503 (by decide +kernel) (by decide +kernel)
set_option maxRecDepth 20000 in
theorem tw219 : Cond.fieldLink RX1 66 "HeathFire$Scene" "state" "[I" ∈ wtb := wtb_mem 219 (by decide +kernel) (by decide +kernel)
set_option maxRecDepth 20000 in
theorem tw37 : Cond.fieldLink RX1 104 "HeathFire$Land" "height" "[I" ∈ wtb := wtb_mem 37 (by decide +kernel) (by decide +kernel)
set_option maxRecDepth 20000 in
theorem tw483 : Cond.methodLink RX1 81 Lib.Math.min.name ∈ wtb := wtb_mem 483 (by decide +kernel) (by decide +kernel)
set_option maxRecDepth 20000 in
theorem tw484 : Cond.static Lib.Math.min.name ∈ wtb := wtb_mem 484 (by decide +kernel) (by decide +kernel)
set_option maxRecDepth 20000 in
theorem tw12 : Cond.initialized "java/lang/Math" ∈ wtb := wtb_mem 12 (by decide +kernel) (by decide +kernel)
set_option maxRecDepth 20000 in
theorem tw485 : Cond.code Lib.Math.min.name Lib.Math.min.code 2 (some .int) ∈ wtb := wtb_mem 485 (by decide +kernel) (by decide +kernel)
set_option maxRecDepth 20000 in
theorem tw491 : Cond.methodLink RX1 107 Lib.Math.max.name ∈ wtb := wtb_mem 491 (by decide +kernel) (by decide +kernel)
set_option maxRecDepth 20000 in
theorem tw492 : Cond.static Lib.Math.max.name ∈ wtb := wtb_mem 492 (by decide +kernel) (by decide +kernel)
set_option maxRecDepth 20000 in
theorem tw493 : Cond.code Lib.Math.max.name Lib.Math.max.code 2 (some .int) ∈ wtb := wtb_mem 493 (by decide +kernel) (by decide +kernel)
set_option maxRecDepth 20000 in
theorem tw110 : Cond.fieldLink RX1 15 "HeathFire$Fire" "given" "[I" ∈ wtb := wtb_mem 110 (by decide +kernel) (by decide +kernel)
set_option maxRecDepth 20000 in
theorem tw29 : Cond.fieldLink RX1 75 "HeathFire$Land" "ground" "[I" ∈ wtb := wtb_mem 29 (by decide +kernel) (by decide +kernel)
set_option maxRecDepth 20000 in
theorem tw249 : Cond.fieldLink RX1 116 "HeathFire$Scene" "embers" "I" ∈ wtb := wtb_mem 249 (by decide +kernel) (by decide +kernel)
set_option maxRecDepth 20000 in
theorem tw155 : Cond.fieldLink RX1 69 "HeathFire$Strips" "work" "[I" ∈ wtb := wtb_mem 155 (by decide +kernel) (by decide +kernel)
set_option maxRecDepth 20000 in
theorem tw252 : Cond.fieldLink RX1 86 "HeathFire$Scene" "burnt" "I" ∈ wtb := wtb_mem 252 (by decide +kernel) (by decide +kernel)
set_option maxRecDepth 20000 in
theorem tw486 : Cond.methodLink RX1 92 yX1_giveHeat ∈ wtb := wtb_mem 486 (by decide +kernel) (by decide +kernel)
set_option maxRecDepth 20000 in
theorem tw488 : Cond.instanceMethod yX1_giveHeat ∈ wtb := wtb_mem 488 (by decide +kernel) (by decide +kernel)
set_option maxRecDepth 20000 in
theorem twp8 : Cond.selects RX1 yX1_giveHeat yX1_giveHeat ∈ wtb := wtb_memL 8 (by decide +kernel) (by decide +kernel)
set_option maxRecDepth 20000 in
theorem tw489 : Cond.code yX1_giveHeat cX1_giveHeat 11 (some .int) ∈ wtb := wtb_mem 489 (by decide +kernel) (by decide +kernel)
set_option maxRecDepth 20000 in
theorem tw496 : Cond.methodLink RX1 96 yX1_throwEmber ∈ wtb := wtb_mem 496 (by decide +kernel) (by decide +kernel)
set_option maxRecDepth 20000 in
theorem tw498 : Cond.instanceMethod yX1_throwEmber ∈ wtb := wtb_mem 498 (by decide +kernel) (by decide +kernel)
set_option maxRecDepth 20000 in
theorem twp9 : Cond.selects RX1 yX1_throwEmber yX1_throwEmber ∈ wtb := wtb_memL 9 (by decide +kernel) (by decide +kernel)
set_option maxRecDepth 20000 in
theorem tw499 : Cond.code yX1_throwEmber cX1_throwEmber 7 (some .int) ∈ wtb := wtb_mem 499 (by decide +kernel) (by decide +kernel)
set_option maxRecDepth 20000 in
theorem tw227 : Cond.fieldLink RX1 137 "HeathFire$Scene" "damp" "[I" ∈ wtb := wtb_mem 227 (by decide +kernel) (by decide +kernel)
set_option maxRecDepth 20000 in
theorem tw230 : Cond.fieldLink RX1 126 "HeathFire$Scene" "heat" "[I" ∈ wtb := wtb_mem 230 (by decide +kernel) (by decide +kernel)
set_option maxRecDepth 20000 in
theorem tw518 : Cond.methodLink RX1 143 yX4_kindle ∈ wtb := wtb_mem 518 (by decide +kernel) (by decide +kernel)
set_option maxRecDepth 20000 in
theorem tw48 : Cond.fieldLink RX1 123 "HeathFire$Land" "cells" "I" ∈ wtb := wtb_mem 48 (by decide +kernel) (by decide +kernel)
set_option maxRecDepth 20000 in
theorem tw77 : Cond.fieldLink RX6 18 "HeathFire$Weather" "count" "I" ∈ wtb := wtb_mem 77 (by decide +kernel) (by decide +kernel)
set_option maxRecDepth 20000 in
theorem tw75 : Cond.fieldLink RX6 9 "HeathFire$Weather" "from" "[I" ∈ wtb := wtb_mem 75 (by decide +kernel) (by decide +kernel)
set_option maxRecDepth 20000 in
theorem tw76 : Cond.fieldLink RX6 15 "HeathFire$Weather" "values" "[I" ∈ wtb := wtb_mem 76 (by decide +kernel) (by decide +kernel)
set_option maxRecDepth 20000 in
theorem tw397 : Cond.methodLink RX1 37 yX6_entryOf ∈ wtb := wtb_mem 397 (by decide +kernel) (by decide +kernel)
set_option maxRecDepth 20000 in
theorem tw398 : Cond.instanceMethod yX6_entryOf ∈ wtb := wtb_mem 398 (by decide +kernel) (by decide +kernel)
set_option maxRecDepth 20000 in
theorem tw399 : Cond.selects RX6 yX6_entryOf yX6_entryOf ∈ wtb := wtb_mem 399 (by decide +kernel) (by decide +kernel)
set_option maxRecDepth 20000 in
theorem tw3 : Cond.initialized RX6 ∈ wtb := wtb_mem 3 (by decide +kernel) (by decide +kernel)
set_option maxRecDepth 20000 in
theorem tw400 : Cond.code yX6_entryOf cX6_entryOf 4 (some .int) ∈ wtb := wtb_mem 400 (by decide +kernel) (by decide +kernel)
set_option maxRecDepth 20000 in
theorem tw401 : Cond.methodLink RX1 43 yX6_read ∈ wtb := wtb_mem 401 (by decide +kernel) (by decide +kernel)
set_option maxRecDepth 20000 in
theorem tw402 : Cond.instanceMethod yX6_read ∈ wtb := wtb_mem 402 (by decide +kernel) (by decide +kernel)
set_option maxRecDepth 20000 in
theorem tw403 : Cond.selects RX6 yX6_read yX6_read ∈ wtb := wtb_mem 403 (by decide +kernel) (by decide +kernel)
set_option maxRecDepth 20000 in
theorem tw404 : Cond.code yX6_read cX6_read 3 (some .int) ∈ wtb := wtb_mem 404 (by decide +kernel) (by decide +kernel)
set_option maxRecDepth 20000 in
theorem tw519 : Cond.methodLink RX1 133 yX1_burnDown ∈ wtb := wtb_mem 519 (by decide +kernel) (by decide +kernel)
set_option maxRecDepth 20000 in
theorem tw521 : Cond.instanceMethod yX1_burnDown ∈ wtb := wtb_mem 521 (by decide +kernel) (by decide +kernel)
set_option maxRecDepth 20000 in
theorem twp12 : Cond.selects RX1 yX1_burnDown yX1_burnDown ∈ wtb := wtb_memL 12 (by decide +kernel) (by decide +kernel)
set_option maxRecDepth 20000 in
theorem tw522 : Cond.code yX1_burnDown cX1_burnDown 3 none ∈ wtb := wtb_mem 522 (by decide +kernel) (by decide +kernel)
set_option maxRecDepth 20000 in
theorem tw512 : Cond.methodLink RX1 129 yX1_dryAndCatch ∈ wtb := wtb_mem 512 (by decide +kernel) (by decide +kernel)
set_option maxRecDepth 20000 in
theorem tw514 : Cond.instanceMethod yX1_dryAndCatch ∈ wtb := wtb_mem 514 (by decide +kernel) (by decide +kernel)
set_option maxRecDepth 20000 in
theorem twp11 : Cond.selects RX1 yX1_dryAndCatch yX1_dryAndCatch ∈ wtb := wtb_memL 11 (by decide +kernel) (by decide +kernel)
set_option maxRecDepth 20000 in
theorem tw515 : Cond.code yX1_dryAndCatch cX1_dryAndCatch 5 none ∈ wtb := wtb_mem 515 (by decide +kernel) (by decide +kernel)
set_option maxRecDepth 20000 in
theorem tw45 : Cond.fieldLink RX2 31 "HeathFire$Land" "cells" "I" ∈ wtb := wtb_mem 45 (by decide +kernel) (by decide +kernel)
set_option maxRecDepth 20000 in
theorem tw28 : Cond.fieldLink RX2 9 "HeathFire$Land" "ground" "[I" ∈ wtb := wtb_mem 28 (by decide +kernel) (by decide +kernel)
set_option maxRecDepth 20000 in
theorem tw32 : Cond.fieldLink RX2 15 "HeathFire$Land" "fuel" "[I" ∈ wtb := wtb_mem 32 (by decide +kernel) (by decide +kernel)
set_option maxRecDepth 20000 in
theorem tw34 : Cond.fieldLink RX2 18 "HeathFire$Land" "damp" "[I" ∈ wtb := wtb_mem 34 (by decide +kernel) (by decide +kernel)
set_option maxRecDepth 20000 in
theorem tw36 : Cond.fieldLink RX2 21 "HeathFire$Land" "height" "[I" ∈ wtb := wtb_mem 36 (by decide +kernel) (by decide +kernel)
set_option maxRecDepth 20000 in
theorem tw49 : Cond.fieldLink RX2 34 "HeathFire$Land" "age" "I" ∈ wtb := wtb_mem 49 (by decide +kernel) (by decide +kernel)
set_option maxRecDepth 20000 in
theorem tw335 : Cond.methodLink RX2 37 yX2_tell ∈ wtb := wtb_mem 335 (by decide +kernel) (by decide +kernel)
set_option maxRecDepth 20000 in
theorem tw336 : Cond.instanceMethod yX2_tell ∈ wtb := wtb_mem 336 (by decide +kernel) (by decide +kernel)
set_option maxRecDepth 20000 in
theorem tw337 : Cond.selects RX2 yX2_tell yX2_tell ∈ wtb := wtb_mem 337 (by decide +kernel) (by decide +kernel)
set_option maxRecDepth 20000 in
theorem tw338 : Cond.code yX2_tell cX2_tell 6 none ∈ wtb := wtb_mem 338 (by decide +kernel) (by decide +kernel)
set_option maxRecDepth 20000 in
theorem tw92 : Cond.fieldLink RX3 9 "HeathFire$Lights" "cells" "[I" ∈ wtb := wtb_mem 92 (by decide +kernel) (by decide +kernel)
set_option maxRecDepth 20000 in
theorem tw94 : Cond.fieldLink RX3 18 "HeathFire$Lights" "count" "I" ∈ wtb := wtb_mem 94 (by decide +kernel) (by decide +kernel)
set_option maxRecDepth 20000 in
theorem tw93 : Cond.fieldLink RX3 15 "HeathFire$Lights" "steps" "[I" ∈ wtb := wtb_mem 93 (by decide +kernel) (by decide +kernel)
set_option maxRecDepth 20000 in
theorem tw247 : Cond.fieldLink RX3 22 "HeathFire$Scene" "steps" "I" ∈ wtb := wtb_mem 247 (by decide +kernel) (by decide +kernel)
set_option maxRecDepth 20000 in
theorem tw409 : Cond.methodLink RX3 26 yX4_kindle ∈ wtb := wtb_mem 409 (by decide +kernel) (by decide +kernel)
set_option maxRecDepth 20000 in
theorem tw148 : Cond.fieldLink RX5 9 "HeathFire$Strips" "first" "[I" ∈ wtb := wtb_mem 148 (by decide +kernel) (by decide +kernel)
set_option maxRecDepth 20000 in
theorem tw151 : Cond.fieldLink RX5 15 "HeathFire$Strips" "last" "[I" ∈ wtb := wtb_mem 151 (by decide +kernel) (by decide +kernel)
set_option maxRecDepth 20000 in
theorem tw154 : Cond.fieldLink RX5 18 "HeathFire$Strips" "work" "[I" ∈ wtb := wtb_mem 154 (by decide +kernel) (by decide +kernel)
set_option maxRecDepth 20000 in
theorem tw157 : Cond.fieldLink RX5 21 "HeathFire$Strips" "count" "I" ∈ wtb := wtb_mem 157 (by decide +kernel) (by decide +kernel)
set_option maxRecDepth 20000 in
theorem tw550 : Cond.methodLink RX5 50 yX5_move ∈ wtb := wtb_mem 550 (by decide +kernel) (by decide +kernel)
set_option maxRecDepth 20000 in
theorem tw552 : Cond.instanceMethod yX5_move ∈ wtb := wtb_mem 552 (by decide +kernel) (by decide +kernel)
set_option maxRecDepth 20000 in
theorem twp15 : Cond.selects RX5 yX5_move yX5_move ∈ wtb := wtb_memL 15 (by decide +kernel) (by decide +kernel)
set_option maxRecDepth 20000 in
theorem tw7 : Cond.initialized RX5 ∈ wtb := wtb_mem 7 (by decide +kernel) (by decide +kernel)
set_option maxRecDepth 20000 in
theorem tw553 : Cond.code yX5_move cX5_move 3 none ∈ wtb := wtb_mem 553 (by decide +kernel) (by decide +kernel)
set_option maxRecDepth 20000 in
theorem tw544 : Cond.static yX7_sum ∈ wtb := wtb_mem 544 (by decide +kernel) (by decide +kernel)
set_option maxRecDepth 20000 in
theorem tw1 : Cond.initialized RX7 ∈ wtb := wtb_mem 1 (by decide +kernel) (by decide +kernel)
set_option maxRecDepth 20000 in
theorem tw545 : Cond.code yX7_sum cX7_sum 4 (some .int) ∈ wtb := wtb_mem 545 (by decide +kernel) (by decide +kernel)
set_option maxRecDepth 20000 in
theorem tw558 : Cond.methodLink RX5 43 yX5_join ∈ wtb := wtb_mem 558 (by decide +kernel) (by decide +kernel)
set_option maxRecDepth 20000 in
theorem tw560 : Cond.instanceMethod yX5_join ∈ wtb := wtb_mem 560 (by decide +kernel) (by decide +kernel)
set_option maxRecDepth 20000 in
theorem twp16 : Cond.selects RX5 yX5_join yX5_join ∈ wtb := wtb_memL 16 (by decide +kernel) (by decide +kernel)
set_option maxRecDepth 20000 in
theorem tw561 : Cond.code yX5_join cX5_join 3 none ∈ wtb := wtb_mem 561 (by decide +kernel) (by decide +kernel)
set_option maxRecDepth 20000 in
theorem tw539 : Cond.methodLink RX5 35 yX5_meanWork ∈ wtb := wtb_mem 539 (by decide +kernel) (by decide +kernel)
set_option maxRecDepth 20000 in
theorem tw541 : Cond.instanceMethod yX5_meanWork ∈ wtb := wtb_mem 541 (by decide +kernel) (by decide +kernel)
set_option maxRecDepth 20000 in
theorem twp13 : Cond.selects RX5 yX5_meanWork yX5_meanWork ∈ wtb := wtb_memL 13 (by decide +kernel) (by decide +kernel)
set_option maxRecDepth 20000 in
theorem tw542 : Cond.code yX5_meanWork cX5_meanWork 1 (some .int) ∈ wtb := wtb_mem 542 (by decide +kernel) (by decide +kernel)
set_option maxRecDepth 20000 in
theorem tw473 : Cond.methodLink RX5 31 yX5_rowsOf ∈ wtb := wtb_mem 473 (by decide +kernel) (by decide +kernel)
set_option maxRecDepth 20000 in
theorem tw474 : Cond.instanceMethod yX5_rowsOf ∈ wtb := wtb_mem 474 (by decide +kernel) (by decide +kernel)
set_option maxRecDepth 20000 in
theorem tw475 : Cond.selects RX5 yX5_rowsOf yX5_rowsOf ∈ wtb := wtb_mem 475 (by decide +kernel) (by decide +kernel)
set_option maxRecDepth 20000 in
theorem tw476 : Cond.code yX5_rowsOf cX5_rowsOf 2 (some .int) ∈ wtb := wtb_mem 476 (by decide +kernel) (by decide +kernel)
set_option maxRecDepth 20000 in
theorem tw546 : Cond.methodLink RX5 39 yX5_split ∈ wtb := wtb_mem 546 (by decide +kernel) (by decide +kernel)
set_option maxRecDepth 20000 in
theorem tw548 : Cond.instanceMethod yX5_split ∈ wtb := wtb_mem 548 (by decide +kernel) (by decide +kernel)
set_option maxRecDepth 20000 in
theorem twp14 : Cond.selects RX5 yX5_split yX5_split ∈ wtb := wtb_memL 14 (by decide +kernel) (by decide +kernel)
set_option maxRecDepth 20000 in
theorem tw549 : Cond.code yX5_split cX5_split 3 none ∈ wtb := wtb_mem 549 (by decide +kernel) (by decide +kernel)
set_option maxRecDepth 20000 in
theorem tw240 : Cond.fieldLink RX4 39 "HeathFire$Scene" "strips" "LHeathFire$Strips;" ∈ wtb := wtb_mem 240 (by decide +kernel) (by decide +kernel)
set_option maxRecDepth 20000 in
theorem tw158 : Cond.fieldLink RX4 113 "HeathFire$Strips" "count" "I" ∈ wtb := wtb_mem 158 (by decide +kernel) (by decide +kernel)
set_option maxRecDepth 20000 in
theorem tw535 : Cond.methodLink RX4 116 yX5_splitBusiest ∈ wtb := wtb_mem 535 (by decide +kernel) (by decide +kernel)
set_option maxRecDepth 20000 in
theorem tw536 : Cond.instanceMethod yX5_splitBusiest ∈ wtb := wtb_mem 536 (by decide +kernel) (by decide +kernel)
set_option maxRecDepth 20000 in
theorem tw537 : Cond.selects RX5 yX5_splitBusiest yX5_splitBusiest ∈ wtb := wtb_mem 537 (by decide +kernel) (by decide +kernel)
set_option maxRecDepth 20000 in
theorem tw538 : Cond.code yX5_splitBusiest cX5_splitBusiest 3 (some .boolean) ∈ wtb := wtb_mem 538 (by decide +kernel) (by decide +kernel)
set_option maxRecDepth 20000 in
theorem tw554 : Cond.methodLink RX4 120 yX5_joinIdle ∈ wtb := wtb_mem 554 (by decide +kernel) (by decide +kernel)
set_option maxRecDepth 20000 in
theorem tw555 : Cond.instanceMethod yX5_joinIdle ∈ wtb := wtb_mem 555 (by decide +kernel) (by decide +kernel)
set_option maxRecDepth 20000 in
theorem tw556 : Cond.selects RX5 yX5_joinIdle yX5_joinIdle ∈ wtb := wtb_mem 556 (by decide +kernel) (by decide +kernel)
set_option maxRecDepth 20000 in
theorem tw557 : Cond.code yX5_joinIdle cX5_joinIdle 3 (some .boolean) ∈ wtb := wtb_mem 557 (by decide +kernel) (by decide +kernel)
set_option maxRecDepth 20000 in
theorem tw259 : Cond.fieldLink RX4 62 "HeathFire$Scene" "joins" "I" ∈ wtb := wtb_mem 259 (by decide +kernel) (by decide +kernel)
set_option maxRecDepth 20000 in
theorem tw257 : Cond.fieldLink RX4 59 "HeathFire$Scene" "splits" "I" ∈ wtb := wtb_mem 257 (by decide +kernel) (by decide +kernel)
set_option maxRecDepth 20000 in
theorem tw222 : Cond.fieldLink RX4 15 "HeathFire$Scene" "fuel" "[I" ∈ wtb := wtb_mem 222 (by decide +kernel) (by decide +kernel)
set_option maxRecDepth 20000 in
theorem tw33 : Cond.fieldLink RX4 88 "HeathFire$Land" "fuel" "[I" ∈ wtb := wtb_mem 33 (by decide +kernel) (by decide +kernel)
set_option maxRecDepth 20000 in
theorem tw226 : Cond.fieldLink RX4 18 "HeathFire$Scene" "damp" "[I" ∈ wtb := wtb_mem 226 (by decide +kernel) (by decide +kernel)
set_option maxRecDepth 20000 in
theorem tw35 : Cond.fieldLink RX4 89 "HeathFire$Land" "damp" "[I" ∈ wtb := wtb_mem 35 (by decide +kernel) (by decide +kernel)
set_option maxRecDepth 20000 in
theorem tw229 : Cond.fieldLink RX4 21 "HeathFire$Scene" "heat" "[I" ∈ wtb := wtb_mem 229 (by decide +kernel) (by decide +kernel)
set_option maxRecDepth 20000 in
theorem tw233 : Cond.fieldLink RX4 24 "HeathFire$Scene" "smoke" "[I" ∈ wtb := wtb_mem 233 (by decide +kernel) (by decide +kernel)
set_option maxRecDepth 20000 in
theorem tw46 : Cond.fieldLink RX4 72 "HeathFire$Land" "cells" "I" ∈ wtb := wtb_mem 46 (by decide +kernel) (by decide +kernel)
set_option maxRecDepth 20000 in
theorem tw40 : Cond.fieldLink RX4 81 "HeathFire$Land" "rows" "I" ∈ wtb := wtb_mem 40 (by decide +kernel) (by decide +kernel)
set_option maxRecDepth 20000 in
theorem tw347 : Cond.methodLink RX4 84 yX5_part ∈ wtb := wtb_mem 347 (by decide +kernel) (by decide +kernel)
set_option maxRecDepth 20000 in
theorem tw348 : Cond.instanceMethod yX5_part ∈ wtb := wtb_mem 348 (by decide +kernel) (by decide +kernel)
set_option maxRecDepth 20000 in
theorem tw349 : Cond.selects RX5 yX5_part yX5_part ∈ wtb := wtb_mem 349 (by decide +kernel) (by decide +kernel)
set_option maxRecDepth 20000 in
theorem tw350 : Cond.code yX5_part cX5_part 6 none ∈ wtb := wtb_mem 350 (by decide +kernel) (by decide +kernel)
set_option maxRecDepth 20000 in
theorem tw243 : Cond.fieldLink RX4 43 "HeathFire$Scene" "crewCount" "I" ∈ wtb := wtb_mem 243 (by decide +kernel) (by decide +kernel)
set_option maxRecDepth 20000 in
theorem tw248 : Cond.fieldLink RX4 50 "HeathFire$Scene" "embers" "I" ∈ wtb := wtb_mem 248 (by decide +kernel) (by decide +kernel)
set_option maxRecDepth 20000 in
theorem tw251 : Cond.fieldLink RX4 53 "HeathFire$Scene" "burnt" "I" ∈ wtb := wtb_mem 251 (by decide +kernel) (by decide +kernel)
set_option maxRecDepth 20000 in
theorem tw254 : Cond.fieldLink RX4 56 "HeathFire$Scene" "passed" "I" ∈ wtb := wtb_mem 254 (by decide +kernel) (by decide +kernel)
set_option maxRecDepth 20000 in
theorem tw343 : Cond.methodLink RX4 77 yX4_beginCell ∈ wtb := wtb_mem 343 (by decide +kernel) (by decide +kernel)
set_option maxRecDepth 20000 in
theorem tw344 : Cond.instanceMethod yX4_beginCell ∈ wtb := wtb_mem 344 (by decide +kernel) (by decide +kernel)
set_option maxRecDepth 20000 in
theorem tw345 : Cond.selects RX4 yX4_beginCell yX4_beginCell ∈ wtb := wtb_mem 345 (by decide +kernel) (by decide +kernel)
set_option maxRecDepth 20000 in
theorem tw346 : Cond.code yX4_beginCell cX4_beginCell 3 none ∈ wtb := wtb_mem 346 (by decide +kernel) (by decide +kernel)
set_option maxRecDepth 20000 in
theorem tw657 : Cond.methodLink RX5 25 arraycopyName ∈ wtb := wtb_mem 657 (by decide +kernel) (by decide +kernel)
set_option maxRecDepth 20000 in
theorem tw653 : Cond.methodLink RX4 100 yX5_copyFrom ∈ wtb := wtb_mem 653 (by decide +kernel) (by decide +kernel)
set_option maxRecDepth 20000 in
theorem tw654 : Cond.instanceMethod yX5_copyFrom ∈ wtb := wtb_mem 654 (by decide +kernel) (by decide +kernel)
set_option maxRecDepth 20000 in
theorem tw655 : Cond.selects RX5 yX5_copyFrom yX5_copyFrom ∈ wtb := wtb_mem 655 (by decide +kernel) (by decide +kernel)
set_option maxRecDepth 20000 in
theorem tw656 : Cond.code yX5_copyFrom cX5_copyFrom 2 none ∈ wtb := wtb_mem 656 (by decide +kernel) (by decide +kernel)
set_option maxRecDepth 20000 in
theorem tw238 : Cond.fieldLink RX4 32 "HeathFire$Scene" "crews" "[LHeathFire$Crew;" ∈ wtb := wtb_mem 238 (by decide +kernel) (by decide +kernel)
set_option maxRecDepth 20000 in
theorem tw648 : Cond.methodLink RX4 96 yX0_copyFrom ∈ wtb := wtb_mem 648 (by decide +kernel) (by decide +kernel)
set_option maxRecDepth 20000 in
theorem tw649 : Cond.instanceMethod yX0_copyFrom ∈ wtb := wtb_mem 649 (by decide +kernel) (by decide +kernel)
set_option maxRecDepth 20000 in
theorem tw650 : Cond.selects RX0 yX0_copyFrom yX0_copyFrom ∈ wtb := wtb_mem 650 (by decide +kernel) (by decide +kernel)
set_option maxRecDepth 20000 in
theorem tw651 : Cond.code yX0_copyFrom cX0_copyFrom 2 none ∈ wtb := wtb_mem 651 (by decide +kernel) (by decide +kernel)
set_option maxRecDepth 20000 in
theorem tw645 : Cond.methodLink RX4 90 arraycopyName ∈ wtb := wtb_mem 645 (by decide +kernel) (by decide +kernel)
set_option maxRecDepth 20000 in
theorem tw184 : Cond.fieldLink RX4 103 "HeathFire$Crew" "cell" "I" ∈ wtb := wtb_mem 184 (by decide +kernel) (by decide +kernel)
set_option maxRecDepth 20000 in
theorem tw195 : Cond.fieldLink RX4 106 "HeathFire$Crew" "lost" "Z" ∈ wtb := wtb_mem 195 (by decide +kernel) (by decide +kernel)
set_option maxRecDepth 20000 in
theorem tw465 : Cond.methodLink RX4 110 yX0_dropPlan ∈ wtb := wtb_mem 465 (by decide +kernel) (by decide +kernel)
set_option maxRecDepth 20000 in
theorem tw293 : Cond.fieldLink RX7 12 "HeathFire" "land" "LHeathFire$Land;" ∈ wtb := wtb_mem 293 (by decide +kernel) (by decide +kernel)
set_option maxRecDepth 20000 in
theorem tw355 : Cond.methodLink RX7 85 yX2_has ∈ wtb := wtb_mem 355 (by decide +kernel) (by decide +kernel)
set_option maxRecDepth 20000 in
theorem tw356 : Cond.instanceMethod yX2_has ∈ wtb := wtb_mem 356 (by decide +kernel) (by decide +kernel)
set_option maxRecDepth 20000 in
theorem tw357 : Cond.selects RX2 yX2_has yX2_has ∈ wtb := wtb_mem 357 (by decide +kernel) (by decide +kernel)
set_option maxRecDepth 20000 in
theorem tw358 : Cond.code yX2_has cX2_has 2 (some .boolean) ∈ wtb := wtb_mem 358 (by decide +kernel) (by decide +kernel)
set_option maxRecDepth 20000 in
theorem tw297 : Cond.fieldLink RX7 40 "HeathFire" "now" "LHeathFire$Scene;" ∈ wtb := wtb_mem 297 (by decide +kernel) (by decide +kernel)
set_option maxRecDepth 20000 in
theorem tw221 : Cond.fieldLink RX7 107 "HeathFire$Scene" "state" "[I" ∈ wtb := wtb_mem 221 (by decide +kernel) (by decide +kernel)
set_option maxRecDepth 20000 in
theorem tw224 : Cond.fieldLink RX7 110 "HeathFire$Scene" "fuel" "[I" ∈ wtb := wtb_mem 224 (by decide +kernel) (by decide +kernel)
set_option maxRecDepth 20000 in
theorem tw228 : Cond.fieldLink RX7 113 "HeathFire$Scene" "damp" "[I" ∈ wtb := wtb_mem 228 (by decide +kernel) (by decide +kernel)
set_option maxRecDepth 20000 in
theorem tw231 : Cond.fieldLink RX7 116 "HeathFire$Scene" "heat" "[I" ∈ wtb := wtb_mem 231 (by decide +kernel) (by decide +kernel)
set_option maxRecDepth 20000 in
theorem tw234 : Cond.fieldLink RX7 119 "HeathFire$Scene" "smoke" "[I" ∈ wtb := wtb_mem 234 (by decide +kernel) (by decide +kernel)
set_option maxRecDepth 20000 in
theorem tw31 : Cond.fieldLink RX7 122 "HeathFire$Land" "ground" "[I" ∈ wtb := wtb_mem 31 (by decide +kernel) (by decide +kernel)
set_option maxRecDepth 20000 in
theorem tw38 : Cond.fieldLink RX7 125 "HeathFire$Land" "height" "[I" ∈ wtb := wtb_mem 38 (by decide +kernel) (by decide +kernel)
set_option maxRecDepth 20000 in
theorem tw237 : Cond.fieldLink RX7 128 "HeathFire$Scene" "arrival" "[I" ∈ wtb := wtb_mem 237 (by decide +kernel) (by decide +kernel)
set_option maxRecDepth 20000 in
theorem tw242 : Cond.fieldLink RX7 140 "HeathFire$Scene" "strips" "LHeathFire$Strips;" ∈ wtb := wtb_mem 242 (by decide +kernel) (by decide +kernel)
set_option maxRecDepth 20000 in
theorem tw159 : Cond.fieldLink RX7 144 "HeathFire$Strips" "count" "I" ∈ wtb := wtb_mem 159 (by decide +kernel) (by decide +kernel)
set_option maxRecDepth 20000 in
theorem tw296 : Cond.fieldLink RX7 33 "HeathFire" "fire" "LHeathFire$Fire;" ∈ wtb := wtb_mem 296 (by decide +kernel) (by decide +kernel)
set_option maxRecDepth 20000 in
theorem tw527 : Cond.methodLink RX7 277 yX1_layDownSmoke ∈ wtb := wtb_mem 527 (by decide +kernel) (by decide +kernel)
set_option maxRecDepth 20000 in
theorem tw528 : Cond.instanceMethod yX1_layDownSmoke ∈ wtb := wtb_mem 528 (by decide +kernel) (by decide +kernel)
set_option maxRecDepth 20000 in
theorem tw529 : Cond.selects RX1 yX1_layDownSmoke yX1_layDownSmoke ∈ wtb := wtb_mem 529 (by decide +kernel) (by decide +kernel)
set_option maxRecDepth 20000 in
theorem tw530 : Cond.code yX1_layDownSmoke cX1_layDownSmoke 4 none ∈ wtb := wtb_mem 530 (by decide +kernel) (by decide +kernel)
set_option maxRecDepth 20000 in
theorem tw246 : Cond.fieldLink RX7 67 "HeathFire$Scene" "steps" "I" ∈ wtb := wtb_mem 246 (by decide +kernel) (by decide +kernel)
set_option maxRecDepth 20000 in
theorem tw302 : Cond.fieldLink RX7 59 "HeathFire" "balancing" "Z" ∈ wtb := wtb_mem 302 (by decide +kernel) (by decide +kernel)
set_option maxRecDepth 20000 in
theorem tw531 : Cond.methodLink RX7 280 yX4_balance ∈ wtb := wtb_mem 531 (by decide +kernel) (by decide +kernel)
set_option maxRecDepth 20000 in
theorem tw532 : Cond.instanceMethod yX4_balance ∈ wtb := wtb_mem 532 (by decide +kernel) (by decide +kernel)
set_option maxRecDepth 20000 in
theorem tw533 : Cond.selects RX4 yX4_balance yX4_balance ∈ wtb := wtb_mem 533 (by decide +kernel) (by decide +kernel)
set_option maxRecDepth 20000 in
theorem tw534 : Cond.code yX4_balance cX4_balance 1 none ∈ wtb := wtb_mem 534 (by decide +kernel) (by decide +kernel)
set_option maxRecDepth 20000 in
theorem tw523 : Cond.methodLink RX7 274 yX1_blowStrip ∈ wtb := wtb_mem 523 (by decide +kernel) (by decide +kernel)
set_option maxRecDepth 20000 in
theorem tw524 : Cond.instanceMethod yX1_blowStrip ∈ wtb := wtb_mem 524 (by decide +kernel) (by decide +kernel)
set_option maxRecDepth 20000 in
theorem tw525 : Cond.selects RX1 yX1_blowStrip yX1_blowStrip ∈ wtb := wtb_mem 525 (by decide +kernel) (by decide +kernel)
set_option maxRecDepth 20000 in
theorem tw526 : Cond.code yX1_blowStrip cX1_blowStrip 11 none ∈ wtb := wtb_mem 526 (by decide +kernel) (by decide +kernel)
set_option maxRecDepth 20000 in
theorem tw508 : Cond.methodLink RX7 271 yX1_settle ∈ wtb := wtb_mem 508 (by decide +kernel) (by decide +kernel)
set_option maxRecDepth 20000 in
theorem tw509 : Cond.instanceMethod yX1_settle ∈ wtb := wtb_mem 509 (by decide +kernel) (by decide +kernel)
set_option maxRecDepth 20000 in
theorem tw510 : Cond.selects RX1 yX1_settle yX1_settle ∈ wtb := wtb_mem 510 (by decide +kernel) (by decide +kernel)
set_option maxRecDepth 20000 in
theorem tw511 : Cond.code yX1_settle cX1_settle 4 none ∈ wtb := wtb_mem 511 (by decide +kernel) (by decide +kernel)
set_option maxRecDepth 20000 in
theorem tw477 : Cond.methodLink RX7 267 yX1_burnStrip ∈ wtb := wtb_mem 477 (by decide +kernel) (by decide +kernel)
set_option maxRecDepth 20000 in
theorem tw478 : Cond.instanceMethod yX1_burnStrip ∈ wtb := wtb_mem 478 (by decide +kernel) (by decide +kernel)
set_option maxRecDepth 20000 in
theorem tw479 : Cond.selects RX1 yX1_burnStrip yX1_burnStrip ∈ wtb := wtb_mem 479 (by decide +kernel) (by decide +kernel)
set_option maxRecDepth 20000 in
theorem tw480 : Cond.code yX1_burnStrip cX1_burnStrip 7 none ∈ wtb := wtb_mem 480 (by decide +kernel) (by decide +kernel)
set_option maxRecDepth 20000 in
theorem tw244 : Cond.fieldLink RX7 137 "HeathFire$Scene" "crewCount" "I" ∈ wtb := wtb_mem 244 (by decide +kernel) (by decide +kernel)
set_option maxRecDepth 20000 in
theorem tw461 : Cond.methodLink RX7 261 yX4_loseCrews ∈ wtb := wtb_mem 461 (by decide +kernel) (by decide +kernel)
set_option maxRecDepth 20000 in
theorem tw462 : Cond.instanceMethod yX4_loseCrews ∈ wtb := wtb_mem 462 (by decide +kernel) (by decide +kernel)
set_option maxRecDepth 20000 in
theorem tw463 : Cond.selects RX4 yX4_loseCrews yX4_loseCrews ∈ wtb := wtb_mem 463 (by decide +kernel) (by decide +kernel)
set_option maxRecDepth 20000 in
theorem tw464 : Cond.code yX4_loseCrews cX4_loseCrews 2 none ∈ wtb := wtb_mem 464 (by decide +kernel) (by decide +kernel)
set_option maxRecDepth 20000 in
theorem tw44 : Cond.fieldLink RX7 134 "HeathFire$Land" "columns" "I" ∈ wtb := wtb_mem 44 (by decide +kernel) (by decide +kernel)
set_option maxRecDepth 20000 in
theorem tw469 : Cond.methodLink RX7 264 yX5_beginWork ∈ wtb := wtb_mem 469 (by decide +kernel) (by decide +kernel)
set_option maxRecDepth 20000 in
theorem tw470 : Cond.instanceMethod yX5_beginWork ∈ wtb := wtb_mem 470 (by decide +kernel) (by decide +kernel)
set_option maxRecDepth 20000 in
theorem tw471 : Cond.selects RX5 yX5_beginWork yX5_beginWork ∈ wtb := wtb_mem 471 (by decide +kernel) (by decide +kernel)
set_option maxRecDepth 20000 in
theorem tw472 : Cond.code yX5_beginWork cX5_beginWork 3 none ∈ wtb := wtb_mem 472 (by decide +kernel) (by decide +kernel)
set_option maxRecDepth 20000 in
theorem tw239 : Cond.fieldLink RX7 177 "HeathFire$Scene" "crews" "[LHeathFire$Crew;" ∈ wtb := wtb_mem 239 (by decide +kernel) (by decide +kernel)
set_option maxRecDepth 20000 in
theorem tw413 : Cond.methodLink RX7 257 yX0_act ∈ wtb := wtb_mem 413 (by decide +kernel) (by decide +kernel)
set_option maxRecDepth 20000 in
theorem tw414 : Cond.instanceMethod yX0_act ∈ wtb := wtb_mem 414 (by decide +kernel) (by decide +kernel)
set_option maxRecDepth 20000 in
theorem tw415 : Cond.selects RX0 yX0_act yX0_act ∈ wtb := wtb_mem 415 (by decide +kernel) (by decide +kernel)
set_option maxRecDepth 20000 in
theorem tw416 : Cond.code yX0_act cX0_act 3 none ∈ wtb := wtb_mem 416 (by decide +kernel) (by decide +kernel)
set_option maxRecDepth 20000 in
theorem tw294 : Cond.fieldLink RX7 19 "HeathFire" "weather" "LHeathFire$Weather;" ∈ wtb := wtb_mem 294 (by decide +kernel) (by decide +kernel)
set_option maxRecDepth 20000 in
theorem tw301 : Cond.fieldLink RX7 55 "HeathFire" "seed" "I" ∈ wtb := wtb_mem 301 (by decide +kernel) (by decide +kernel)
set_option maxRecDepth 20000 in
theorem tw393 : Cond.methodLink RX7 250 yX1_setOut ∈ wtb := wtb_mem 393 (by decide +kernel) (by decide +kernel)
set_option maxRecDepth 20000 in
theorem tw394 : Cond.instanceMethod yX1_setOut ∈ wtb := wtb_mem 394 (by decide +kernel) (by decide +kernel)
set_option maxRecDepth 20000 in
theorem tw395 : Cond.selects RX1 yX1_setOut yX1_setOut ∈ wtb := wtb_mem 395 (by decide +kernel) (by decide +kernel)
set_option maxRecDepth 20000 in
theorem tw396 : Cond.code yX1_setOut cX1_setOut 5 none ∈ wtb := wtb_mem 396 (by decide +kernel) (by decide +kernel)
set_option maxRecDepth 20000 in
theorem tw295 : Cond.fieldLink RX7 26 "HeathFire" "lights" "LHeathFire$Lights;" ∈ wtb := wtb_mem 295 (by decide +kernel) (by decide +kernel)
set_option maxRecDepth 20000 in
theorem tw405 : Cond.methodLink RX7 254 yX3_kindle ∈ wtb := wtb_mem 405 (by decide +kernel) (by decide +kernel)
set_option maxRecDepth 20000 in
theorem tw406 : Cond.instanceMethod yX3_kindle ∈ wtb := wtb_mem 406 (by decide +kernel) (by decide +kernel)
set_option maxRecDepth 20000 in
theorem tw407 : Cond.selects RX3 yX3_kindle yX3_kindle ∈ wtb := wtb_mem 407 (by decide +kernel) (by decide +kernel)
set_option maxRecDepth 20000 in
theorem tw4 : Cond.initialized RX3 ∈ wtb := wtb_mem 4 (by decide +kernel) (by decide +kernel)
set_option maxRecDepth 20000 in
theorem tw408 : Cond.code yX3_kindle cX3_kindle 3 none ∈ wtb := wtb_mem 408 (by decide +kernel) (by decide +kernel)
set_option maxRecDepth 20000 in
theorem tw298 : Cond.fieldLink RX7 44 "HeathFire" "trial" "LHeathFire$Scene;" ∈ wtb := wtb_mem 298 (by decide +kernel) (by decide +kernel)
set_option maxRecDepth 20000 in
theorem tw389 : Cond.methodLink RX7 103 yX7_work ∈ wtb := wtb_mem 389 (by decide +kernel) (by decide +kernel)
set_option maxRecDepth 20000 in
theorem tw391 : Cond.instanceMethod yX7_work ∈ wtb := wtb_mem 391 (by decide +kernel) (by decide +kernel)
set_option maxRecDepth 20000 in
theorem twp0 : Cond.selects RX7 yX7_work yX7_work ∈ wtb := wtb_memL 0 (by decide +kernel) (by decide +kernel)
set_option maxRecDepth 20000 in
theorem tw392 : Cond.code yX7_work cX7_work 3 none ∈ wtb := wtb_mem 392 (by decide +kernel) (by decide +kernel)
set_option maxRecDepth 20000 in
theorem tw328 : Cond.methodLink RX7 63 yX7_isWithin ∈ wtb := wtb_mem 328 (by decide +kernel) (by decide +kernel)
set_option maxRecDepth 20000 in
theorem tw329 : Cond.static yX7_isWithin ∈ wtb := wtb_mem 329 (by decide +kernel) (by decide +kernel)
set_option maxRecDepth 20000 in
theorem tw330 : Cond.code yX7_isWithin cX7_isWithin 3 (some .boolean) ∈ wtb := wtb_mem 330 (by decide +kernel) (by decide +kernel)
set_option maxRecDepth 20000 in
theorem tw641 : Cond.methodLink RX7 236 yX4_copyFrom ∈ wtb := wtb_mem 641 (by decide +kernel) (by decide +kernel)
set_option maxRecDepth 20000 in
theorem tw642 : Cond.instanceMethod yX4_copyFrom ∈ wtb := wtb_mem 642 (by decide +kernel) (by decide +kernel)
set_option maxRecDepth 20000 in
theorem tw643 : Cond.selects RX4 yX4_copyFrom yX4_copyFrom ∈ wtb := wtb_mem 643 (by decide +kernel) (by decide +kernel)
set_option maxRecDepth 20000 in
theorem tw644 : Cond.code yX4_copyFrom cX4_copyFrom 3 none ∈ wtb := wtb_mem 644 (by decide +kernel) (by decide +kernel)
set_option maxRecDepth 20000 in
theorem tw638 : Cond.methodLink RX7 233 yX7_isPlace ∈ wtb := wtb_mem 638 (by decide +kernel) (by decide +kernel)
set_option maxRecDepth 20000 in
theorem tw639 : Cond.static yX7_isPlace ∈ wtb := wtb_mem 639 (by decide +kernel) (by decide +kernel)
set_option maxRecDepth 20000 in
theorem tw640 : Cond.code yX7_isPlace cX7_isPlace 1 (some .boolean) ∈ wtb := wtb_mem 640 (by decide +kernel) (by decide +kernel)
set_option maxRecDepth 20000 in
theorem tw300 : Cond.fieldLink RX7 51 "HeathFire" "keptAge" "[I" ∈ wtb := wtb_mem 300 (by decide +kernel) (by decide +kernel)
set_option maxRecDepth 20000 in
theorem tw50 : Cond.fieldLink RX7 239 "HeathFire$Land" "age" "I" ∈ wtb := wtb_mem 50 (by decide +kernel) (by decide +kernel)
set_option maxRecDepth 20000 in
theorem tw299 : Cond.fieldLink RX7 47 "HeathFire" "kept" "[LHeathFire$Scene;" ∈ wtb := wtb_mem 299 (by decide +kernel) (by decide +kernel)
set_option maxRecDepth 20000 in
theorem tw359 : Cond.methodLink RX7 89 yX2_tell ∈ wtb := wtb_mem 359 (by decide +kernel) (by decide +kernel)
set_option maxRecDepth 20000 in
theorem tw360 : Cond.methodLink RX7 93 yX4_beginCell ∈ wtb := wtb_mem 360 (by decide +kernel) (by decide +kernel)
set_option maxRecDepth 20000 in
theorem tw339 : Cond.methodLink RX7 78 yX4_begin ∈ wtb := wtb_mem 339 (by decide +kernel) (by decide +kernel)
set_option maxRecDepth 20000 in
theorem tw340 : Cond.instanceMethod yX4_begin ∈ wtb := wtb_mem 340 (by decide +kernel) (by decide +kernel)
set_option maxRecDepth 20000 in
theorem tw341 : Cond.selects RX4 yX4_begin yX4_begin ∈ wtb := wtb_mem 341 (by decide +kernel) (by decide +kernel)
set_option maxRecDepth 20000 in
theorem tw342 : Cond.code yX4_begin cX4_begin 3 none ∈ wtb := wtb_mem 342 (by decide +kernel) (by decide +kernel)
set_option maxRecDepth 20000 in
theorem tw594 : Cond.methodLink RX7 181 yX0_begin ∈ wtb := wtb_mem 594 (by decide +kernel) (by decide +kernel)
set_option maxRecDepth 20000 in
theorem tw595 : Cond.instanceMethod yX0_begin ∈ wtb := wtb_mem 595 (by decide +kernel) (by decide +kernel)
set_option maxRecDepth 20000 in
theorem tw596 : Cond.selects RX0 yX0_begin yX0_begin ∈ wtb := wtb_mem 596 (by decide +kernel) (by decide +kernel)
set_option maxRecDepth 20000 in
theorem tw597 : Cond.code yX0_begin cX0_begin 2 none ∈ wtb := wtb_mem 597 (by decide +kernel) (by decide +kernel)
set_option maxRecDepth 20000 in
theorem tw47 : Cond.fieldLink RX7 82 "HeathFire$Land" "cells" "I" ∈ wtb := wtb_mem 47 (by decide +kernel) (by decide +kernel)
set_option maxRecDepth 20000 in
theorem tw666 : Cond.methodLink RX7 242 yX4_isAlikeAt ∈ wtb := wtb_mem 666 (by decide +kernel) (by decide +kernel)
set_option maxRecDepth 20000 in
theorem tw667 : Cond.instanceMethod yX4_isAlikeAt ∈ wtb := wtb_mem 667 (by decide +kernel) (by decide +kernel)
set_option maxRecDepth 20000 in
theorem tw668 : Cond.selects RX4 yX4_isAlikeAt yX4_isAlikeAt ∈ wtb := wtb_mem 668 (by decide +kernel) (by decide +kernel)
set_option maxRecDepth 20000 in
theorem tw669 : Cond.code yX4_isAlikeAt cX4_isAlikeAt 3 (some .boolean) ∈ wtb := wtb_mem 669 (by decide +kernel) (by decide +kernel)
set_option maxRecDepth 20000 in
theorem tw589 : Cond.methodLink RX7 246 yX2_off ∈ wtb := wtb_mem 589 (by decide +kernel) (by decide +kernel)
set_option maxRecDepth 20000 in
theorem tw585 : Cond.methodLink RX7 174 yX7_hasAlightNeighbour ∈ wtb := wtb_mem 585 (by decide +kernel) (by decide +kernel)
set_option maxRecDepth 20000 in
theorem tw587 : Cond.instanceMethod yX7_hasAlightNeighbour ∈ wtb := wtb_mem 587 (by decide +kernel) (by decide +kernel)
set_option maxRecDepth 20000 in
theorem twp17 : Cond.selects RX7 yX7_hasAlightNeighbour yX7_hasAlightNeighbour ∈ wtb := wtb_memL 17 (by decide +kernel) (by decide +kernel)
set_option maxRecDepth 20000 in
theorem tw588 : Cond.code yX7_hasAlightNeighbour cX7_hasAlightNeighbour 4 (some .boolean) ∈ wtb := wtb_mem 588 (by decide +kernel) (by decide +kernel)
set_option maxRecDepth 20000 in
theorem tw331 : Cond.methodLink RX7 70 yX2_layOut ∈ wtb := wtb_mem 331 (by decide +kernel) (by decide +kernel)
set_option maxRecDepth 20000 in
theorem tw332 : Cond.instanceMethod yX2_layOut ∈ wtb := wtb_mem 332 (by decide +kernel) (by decide +kernel)
set_option maxRecDepth 20000 in
theorem tw333 : Cond.selects RX2 yX2_layOut yX2_layOut ∈ wtb := wtb_mem 333 (by decide +kernel) (by decide +kernel)
set_option maxRecDepth 20000 in
theorem tw334 : Cond.code yX2_layOut cX2_layOut 4 none ∈ wtb := wtb_mem 334 (by decide +kernel) (by decide +kernel)
set_option maxRecDepth 20000 in
theorem tw78 : Cond.fieldLink RX7 74 "HeathFire$Weather" "count" "I" ∈ wtb := wtb_mem 78 (by decide +kernel) (by decide +kernel)
set_option maxRecDepth 20000 in
theorem tw95 : Cond.fieldLink RX7 77 "HeathFire$Lights" "count" "I" ∈ wtb := wtb_mem 95 (by decide +kernel) (by decide +kernel)
set_option maxRecDepth 20000 in
theorem tw603 : Cond.methodLink RX7 186 yX7_hasCrew ∈ wtb := wtb_mem 603 (by decide +kernel) (by decide +kernel)
set_option maxRecDepth 20000 in
theorem tw605 : Cond.instanceMethod yX7_hasCrew ∈ wtb := wtb_mem 605 (by decide +kernel) (by decide +kernel)
set_option maxRecDepth 20000 in
theorem twp18 : Cond.selects RX7 yX7_hasCrew yX7_hasCrew ∈ wtb := wtb_memL 18 (by decide +kernel) (by decide +kernel)
set_option maxRecDepth 20000 in
theorem tw606 : Cond.code yX7_hasCrew cX7_hasCrew 2 (some .boolean) ∈ wtb := wtb_mem 606 (by decide +kernel) (by decide +kernel)
set_option maxRecDepth 20000 in
theorem tw196 : Cond.fieldLink RX7 189 "HeathFire$Crew" "lost" "Z" ∈ wtb := wtb_mem 196 (by decide +kernel) (by decide +kernel)
set_option maxRecDepth 20000 in
theorem tw181 : Cond.fieldLink RX7 192 "HeathFire$Crew" "acts" "I" ∈ wtb := wtb_mem 181 (by decide +kernel) (by decide +kernel)
set_option maxRecDepth 20000 in
theorem tw615 : Cond.methodLink RX7 198 yX0_dropPlan ∈ wtb := wtb_mem 615 (by decide +kernel) (by decide +kernel)
set_option maxRecDepth 20000 in
theorem tw377 : Cond.methodLink RX7 101 yX3_add ∈ wtb := wtb_mem 377 (by decide +kernel) (by decide +kernel)
set_option maxRecDepth 20000 in
theorem tw378 : Cond.instanceMethod yX3_add ∈ wtb := wtb_mem 378 (by decide +kernel) (by decide +kernel)
set_option maxRecDepth 20000 in
theorem tw379 : Cond.selects RX3 yX3_add yX3_add ∈ wtb := wtb_mem 379 (by decide +kernel) (by decide +kernel)
set_option maxRecDepth 20000 in
theorem tw380 : Cond.code yX3_add cX3_add 3 none ∈ wtb := wtb_mem 380 (by decide +kernel) (by decide +kernel)
set_option maxRecDepth 20000 in
theorem tw185 : Cond.fieldLink RX7 201 "HeathFire$Crew" "cell" "I" ∈ wtb := wtb_mem 185 (by decide +kernel) (by decide +kernel)
set_option maxRecDepth 20000 in
theorem tw187 : Cond.fieldLink RX7 204 "HeathFire$Crew" "water" "I" ∈ wtb := wtb_mem 187 (by decide +kernel) (by decide +kernel)
set_option maxRecDepth 20000 in
theorem tw178 : Cond.fieldLink RX7 207 "HeathFire$Crew" "kinds" "[I" ∈ wtb := wtb_mem 178 (by decide +kernel) (by decide +kernel)
set_option maxRecDepth 20000 in
theorem tw189 : Cond.fieldLink RX7 210 "HeathFire$Crew" "heldUp" "I" ∈ wtb := wtb_mem 189 (by decide +kernel) (by decide +kernel)
set_option maxRecDepth 20000 in
theorem tw191 : Cond.fieldLink RX7 213 "HeathFire$Crew" "cut" "I" ∈ wtb := wtb_mem 191 (by decide +kernel) (by decide +kernel)
set_option maxRecDepth 20000 in
theorem tw193 : Cond.fieldLink RX7 216 "HeathFire$Crew" "doused" "I" ∈ wtb := wtb_mem 193 (by decide +kernel) (by decide +kernel)
set_option maxRecDepth 20000 in
theorem tw607 : Cond.methodLink RX7 195 yX0_addAct ∈ wtb := wtb_mem 607 (by decide +kernel) (by decide +kernel)
set_option maxRecDepth 20000 in
theorem tw608 : Cond.instanceMethod yX0_addAct ∈ wtb := wtb_mem 608 (by decide +kernel) (by decide +kernel)
set_option maxRecDepth 20000 in
theorem tw609 : Cond.selects RX0 yX0_addAct yX0_addAct ∈ wtb := wtb_mem 609 (by decide +kernel) (by decide +kernel)
set_option maxRecDepth 20000 in
theorem tw610 : Cond.code yX0_addAct cX0_addAct 3 none ∈ wtb := wtb_mem 610 (by decide +kernel) (by decide +kernel)
set_option maxRecDepth 20000 in
theorem tw579 : Cond.methodLink RX7 166 yX6_entryOf ∈ wtb := wtb_mem 579 (by decide +kernel) (by decide +kernel)
set_option maxRecDepth 20000 in
theorem tw580 : Cond.methodLink RX7 170 yX6_read ∈ wtb := wtb_mem 580 (by decide +kernel) (by decide +kernel)
set_option maxRecDepth 20000 in
theorem tw150 : Cond.fieldLink RX7 225 "HeathFire$Strips" "first" "[I" ∈ wtb := wtb_mem 150 (by decide +kernel) (by decide +kernel)
set_option maxRecDepth 20000 in
theorem tw153 : Cond.fieldLink RX7 228 "HeathFire$Strips" "last" "[I" ∈ wtb := wtb_mem 153 (by decide +kernel) (by decide +kernel)
set_option maxRecDepth 20000 in
theorem tw156 : Cond.fieldLink RX7 231 "HeathFire$Strips" "work" "[I" ∈ wtb := wtb_mem 156 (by decide +kernel) (by decide +kernel)
set_option maxRecDepth 20000 in
theorem tw41 : Cond.fieldLink RX7 131 "HeathFire$Land" "rows" "I" ∈ wtb := wtb_mem 41 (by decide +kernel) (by decide +kernel)
set_option maxRecDepth 20000 in
theorem tw624 : Cond.methodLink RX7 219 yX5_part ∈ wtb := wtb_mem 624 (by decide +kernel) (by decide +kernel)
set_option maxRecDepth 20000 in
theorem tw625 : Cond.methodLink RX7 222 yX5_rowsOf ∈ wtb := wtb_mem 625 (by decide +kernel) (by decide +kernel)
set_option maxRecDepth 20000 in
theorem tw574 : Cond.methodLink RX7 147 yX7_sum ∈ wtb := wtb_mem 574 (by decide +kernel) (by decide +kernel)
set_option maxRecDepth 20000 in
theorem tw250 : Cond.fieldLink RX7 151 "HeathFire$Scene" "embers" "I" ∈ wtb := wtb_mem 250 (by decide +kernel) (by decide +kernel)
set_option maxRecDepth 20000 in
theorem tw253 : Cond.fieldLink RX7 154 "HeathFire$Scene" "burnt" "I" ∈ wtb := wtb_mem 253 (by decide +kernel) (by decide +kernel)
set_option maxRecDepth 20000 in
theorem tw256 : Cond.fieldLink RX7 157 "HeathFire$Scene" "passed" "I" ∈ wtb := wtb_mem 256 (by decide +kernel) (by decide +kernel)
set_option maxRecDepth 20000 in
theorem tw258 : Cond.fieldLink RX7 160 "HeathFire$Scene" "splits" "I" ∈ wtb := wtb_mem 258 (by decide +kernel) (by decide +kernel)
set_option maxRecDepth 20000 in
theorem tw260 : Cond.fieldLink RX7 163 "HeathFire$Scene" "joins" "I" ∈ wtb := wtb_mem 260 (by decide +kernel) (by decide +kernel)
set_option maxRecDepth 20000 in
theorem tw365 : Cond.methodLink RX7 97 yX6_add ∈ wtb := wtb_mem 365 (by decide +kernel) (by decide +kernel)
set_option maxRecDepth 20000 in
theorem tw366 : Cond.instanceMethod yX6_add ∈ wtb := wtb_mem 366 (by decide +kernel) (by decide +kernel)
set_option maxRecDepth 20000 in
theorem tw367 : Cond.selects RX6 yX6_add yX6_add ∈ wtb := wtb_mem 367 (by decide +kernel) (by decide +kernel)
set_option maxRecDepth 20000 in
theorem tw368 : Cond.code yX6_add cX6_add 6 none ∈ wtb := wtb_mem 368 (by decide +kernel) (by decide +kernel)
set_option maxRecDepth 20000 in
theorem tw686 : Cond.fieldLink RX8 16 "HeathFireModel" "cells" "I" ∈ wtb := wtb_mem 686 (by decide +kernel) (by decide +kernel)
set_option maxRecDepth 20000 in
theorem tw761 : Cond.methodLink RX8 74 yX8_in ∈ wtb := wtb_mem 761 (by decide +kernel) (by decide +kernel)
set_option maxRecDepth 20000 in
theorem tw762 : Cond.static yX8_in ∈ wtb := wtb_mem 762 (by decide +kernel) (by decide +kernel)
set_option maxRecDepth 20000 in
theorem tw10 : Cond.initialized RX8 ∈ wtb := wtb_mem 10 (by decide +kernel) (by decide +kernel)
set_option maxRecDepth 20000 in
theorem tw763 : Cond.code yX8_in cX8_in 3 (some .boolean) ∈ wtb := wtb_mem 763 (by decide +kernel) (by decide +kernel)
set_option maxRecDepth 20000 in
theorem tw768 : Cond.methodLink RX8 84 yX8_isCell ∈ wtb := wtb_mem 768 (by decide +kernel) (by decide +kernel)
set_option maxRecDepth 20000 in
theorem tw770 : Cond.instanceMethod yX8_isCell ∈ wtb := wtb_mem 770 (by decide +kernel) (by decide +kernel)
set_option maxRecDepth 20000 in
theorem twp20 : Cond.selects RX8 yX8_isCell yX8_isCell ∈ wtb := wtb_memL 20 (by decide +kernel) (by decide +kernel)
set_option maxRecDepth 20000 in
theorem tw771 : Cond.code yX8_isCell cX8_isCell 2 (some .boolean) ∈ wtb := wtb_mem 771 (by decide +kernel) (by decide +kernel)
set_option maxRecDepth 20000 in
theorem tw701 : Cond.fieldLink RX8 50 "HeathFireModel" "now" "[I" ∈ wtb := wtb_mem 701 (by decide +kernel) (by decide +kernel)
set_option maxRecDepth 20000 in
theorem tw687 : Cond.fieldLink RX8 19 "HeathFireModel" "ground" "[I" ∈ wtb := wtb_mem 687 (by decide +kernel) (by decide +kernel)
set_option maxRecDepth 20000 in
theorem tw688 : Cond.fieldLink RX8 23 "HeathFireModel" "height" "[I" ∈ wtb := wtb_mem 688 (by decide +kernel) (by decide +kernel)
set_option maxRecDepth 20000 in
theorem tw685 : Cond.fieldLink RX8 13 "HeathFireModel" "columns" "I" ∈ wtb := wtb_mem 685 (by decide +kernel) (by decide +kernel)
set_option maxRecDepth 20000 in
theorem tw812 : Cond.methodLink RX8 158 yX8_over ∈ wtb := wtb_mem 812 (by decide +kernel) (by decide +kernel)
set_option maxRecDepth 20000 in
theorem tw814 : Cond.instanceMethod yX8_over ∈ wtb := wtb_mem 814 (by decide +kernel) (by decide +kernel)
set_option maxRecDepth 20000 in
theorem twp25 : Cond.selects RX8 yX8_over yX8_over ∈ wtb := wtb_memL 25 (by decide +kernel) (by decide +kernel)
set_option maxRecDepth 20000 in
theorem tw815 : Cond.code yX8_over cX8_over 4 none ∈ wtb := wtb_mem 815 (by decide +kernel) (by decide +kernel)
set_option maxRecDepth 20000 in
theorem tw824 : Cond.methodLink RX8 161 yX8_isAbout ∈ wtb := wtb_mem 824 (by decide +kernel) (by decide +kernel)
set_option maxRecDepth 20000 in
theorem tw826 : Cond.instanceMethod yX8_isAbout ∈ wtb := wtb_mem 826 (by decide +kernel) (by decide +kernel)
set_option maxRecDepth 20000 in
theorem twp28 : Cond.selects RX8 yX8_isAbout yX8_isAbout ∈ wtb := wtb_memL 28 (by decide +kernel) (by decide +kernel)
set_option maxRecDepth 20000 in
theorem tw827 : Cond.code yX8_isAbout cX8_isAbout 5 (some .boolean) ∈ wtb := wtb_mem 827 (by decide +kernel) (by decide +kernel)
set_option maxRecDepth 20000 in
theorem tw816 : Cond.methodLink RX8 165 yX8_goes ∈ wtb := wtb_mem 816 (by decide +kernel) (by decide +kernel)
set_option maxRecDepth 20000 in
theorem tw818 : Cond.instanceMethod yX8_goes ∈ wtb := wtb_mem 818 (by decide +kernel) (by decide +kernel)
set_option maxRecDepth 20000 in
theorem twp26 : Cond.selects RX8 yX8_goes yX8_goes ∈ wtb := wtb_memL 26 (by decide +kernel) (by decide +kernel)
set_option maxRecDepth 20000 in
theorem tw819 : Cond.code yX8_goes cX8_goes 8 none ∈ wtb := wtb_mem 819 (by decide +kernel) (by decide +kernel)
set_option maxRecDepth 20000 in
theorem tw820 : Cond.methodLink RX8 168 yX8_douses ∈ wtb := wtb_mem 820 (by decide +kernel) (by decide +kernel)
set_option maxRecDepth 20000 in
theorem tw822 : Cond.instanceMethod yX8_douses ∈ wtb := wtb_mem 822 (by decide +kernel) (by decide +kernel)
set_option maxRecDepth 20000 in
theorem twp27 : Cond.selects RX8 yX8_douses yX8_douses ∈ wtb := wtb_memL 27 (by decide +kernel) (by decide +kernel)
set_option maxRecDepth 20000 in
theorem tw823 : Cond.code yX8_douses cX8_douses 6 none ∈ wtb := wtb_mem 823 (by decide +kernel) (by decide +kernel)
set_option maxRecDepth 20000 in
theorem tw828 : Cond.methodLink RX8 171 yX8_fills ∈ wtb := wtb_mem 828 (by decide +kernel) (by decide +kernel)
set_option maxRecDepth 20000 in
theorem tw830 : Cond.instanceMethod yX8_fills ∈ wtb := wtb_mem 830 (by decide +kernel) (by decide +kernel)
set_option maxRecDepth 20000 in
theorem twp29 : Cond.selects RX8 yX8_fills yX8_fills ∈ wtb := wtb_memL 29 (by decide +kernel) (by decide +kernel)
set_option maxRecDepth 20000 in
theorem tw831 : Cond.code yX8_fills cX8_fills 5 none ∈ wtb := wtb_mem 831 (by decide +kernel) (by decide +kernel)
set_option maxRecDepth 20000 in
theorem tw804 : Cond.methodLink RX8 125 yX8_kindle ∈ wtb := wtb_mem 804 (by decide +kernel) (by decide +kernel)
set_option maxRecDepth 20000 in
theorem tw806 : Cond.instanceMethod yX8_kindle ∈ wtb := wtb_mem 806 (by decide +kernel) (by decide +kernel)
set_option maxRecDepth 20000 in
theorem twp23 : Cond.selects RX8 yX8_kindle yX8_kindle ∈ wtb := wtb_memL 23 (by decide +kernel) (by decide +kernel)
set_option maxRecDepth 20000 in
theorem tw807 : Cond.code yX8_kindle cX8_kindle 2 none ∈ wtb := wtb_mem 807 (by decide +kernel) (by decide +kernel)
set_option maxRecDepth 20000 in
theorem tw702 : Cond.fieldLink RX8 53 "HeathFireModel" "kept" "[I" ∈ wtb := wtb_mem 702 (by decide +kernel) (by decide +kernel)
set_option maxRecDepth 20000 in
theorem tw696 : Cond.fieldLink RX8 88 "HeathFireModel" "seed" "I" ∈ wtb := wtb_mem 696 (by decide +kernel) (by decide +kernel)
set_option maxRecDepth 20000 in
theorem tw865 : Cond.constant RX8 95 (69069) ∈ wtb := wtb_mem 865 (by decide +kernel) (by decide +kernel)
set_option maxRecDepth 20000 in
theorem tw866 : Cond.constant RX8 96 (40503) ∈ wtb := wtb_mem 866 (by decide +kernel) (by decide +kernel)
set_option maxRecDepth 20000 in
theorem tw867 : Cond.constant RX8 97 (2654435) ∈ wtb := wtb_mem 867 (by decide +kernel) (by decide +kernel)
set_option maxRecDepth 20000 in
theorem tw868 : Cond.constant RX8 98 (739982445) ∈ wtb := wtb_mem 868 (by decide +kernel) (by decide +kernel)
set_option maxRecDepth 20000 in
theorem tw847 : Cond.methodLink RX8 99 yX8_down ∈ wtb := wtb_mem 847 (by decide +kernel) (by decide +kernel)
set_option maxRecDepth 20000 in
theorem tw848 : Cond.static yX8_down ∈ wtb := wtb_mem 848 (by decide +kernel) (by decide +kernel)
set_option maxRecDepth 20000 in
theorem tw849 : Cond.code yX8_down cX8_down 1 (some .int) ∈ wtb := wtb_mem 849 (by decide +kernel) (by decide +kernel)
set_option maxRecDepth 20000 in
theorem tw850 : Cond.methodLink RX8 102 yX8_right ∈ wtb := wtb_mem 850 (by decide +kernel) (by decide +kernel)
set_option maxRecDepth 20000 in
theorem tw851 : Cond.static yX8_right ∈ wtb := wtb_mem 851 (by decide +kernel) (by decide +kernel)
set_option maxRecDepth 20000 in
theorem tw852 : Cond.code yX8_right cX8_right 1 (some .int) ∈ wtb := wtb_mem 852 (by decide +kernel) (by decide +kernel)
set_option maxRecDepth 20000 in
theorem tw684 : Cond.fieldLink RX8 7 "HeathFireModel" "rows" "I" ∈ wtb := wtb_mem 684 (by decide +kernel) (by decide +kernel)
set_option maxRecDepth 20000 in
theorem tw835 : Cond.methodLink RX8 105 yX8_stripOf ∈ wtb := wtb_mem 835 (by decide +kernel) (by decide +kernel)
set_option maxRecDepth 20000 in
theorem tw837 : Cond.instanceMethod yX8_stripOf ∈ wtb := wtb_mem 837 (by decide +kernel) (by decide +kernel)
set_option maxRecDepth 20000 in
theorem twp30 : Cond.selects RX8 yX8_stripOf yX8_stripOf ∈ wtb := wtb_memL 30 (by decide +kernel) (by decide +kernel)
set_option maxRecDepth 20000 in
theorem tw838 : Cond.code yX8_stripOf cX8_stripOf 5 (some .int) ∈ wtb := wtb_mem 838 (by decide +kernel) (by decide +kernel)
set_option maxRecDepth 20000 in
theorem tw705 : Cond.fieldLink RX8 62 "HeathFireModel" "burn" "[I" ∈ wtb := wtb_mem 705 (by decide +kernel) (by decide +kernel)
set_option maxRecDepth 20000 in
theorem tw853 : Cond.methodLink RX8 112 yX8_windOf ∈ wtb := wtb_mem 853 (by decide +kernel) (by decide +kernel)
set_option maxRecDepth 20000 in
theorem tw855 : Cond.instanceMethod yX8_windOf ∈ wtb := wtb_mem 855 (by decide +kernel) (by decide +kernel)
set_option maxRecDepth 20000 in
theorem twp33 : Cond.selects RX8 yX8_windOf yX8_windOf ∈ wtb := wtb_memL 33 (by decide +kernel) (by decide +kernel)
set_option maxRecDepth 20000 in
theorem tw856 : Cond.code yX8_windOf cX8_windOf 5 (some .int) ∈ wtb := wtb_mem 856 (by decide +kernel) (by decide +kernel)
set_option maxRecDepth 20000 in
theorem tw706 : Cond.fieldLink RX8 65 "HeathFireModel" "given" "[I" ∈ wtb := wtb_mem 706 (by decide +kernel) (by decide +kernel)
set_option maxRecDepth 20000 in
theorem tw857 : Cond.methodLink RX8 115 yX8_passes ∈ wtb := wtb_mem 857 (by decide +kernel) (by decide +kernel)
set_option maxRecDepth 20000 in
theorem tw859 : Cond.instanceMethod yX8_passes ∈ wtb := wtb_mem 859 (by decide +kernel) (by decide +kernel)
set_option maxRecDepth 20000 in
theorem twp34 : Cond.selects RX8 yX8_passes yX8_passes ∈ wtb := wtb_memL 34 (by decide +kernel) (by decide +kernel)
set_option maxRecDepth 20000 in
theorem tw860 : Cond.code yX8_passes cX8_passes 3 none ∈ wtb := wtb_mem 860 (by decide +kernel) (by decide +kernel)
set_option maxRecDepth 20000 in
theorem tw861 : Cond.methodLink RX8 119 yX8_lot ∈ wtb := wtb_mem 861 (by decide +kernel) (by decide +kernel)
set_option maxRecDepth 20000 in
theorem tw863 : Cond.instanceMethod yX8_lot ∈ wtb := wtb_mem 863 (by decide +kernel) (by decide +kernel)
set_option maxRecDepth 20000 in
theorem twp35 : Cond.selects RX8 yX8_lot yX8_lot ∈ wtb := wtb_memL 35 (by decide +kernel) (by decide +kernel)
set_option maxRecDepth 20000 in
theorem tw864 : Cond.code yX8_lot cX8_lot 5 (some .int) ∈ wtb := wtb_mem 864 (by decide +kernel) (by decide +kernel)
set_option maxRecDepth 20000 in
theorem tw843 : Cond.methodLink RX8 108 yX8_off ∈ wtb := wtb_mem 843 (by decide +kernel) (by decide +kernel)
set_option maxRecDepth 20000 in
theorem tw845 : Cond.instanceMethod yX8_off ∈ wtb := wtb_mem 845 (by decide +kernel) (by decide +kernel)
set_option maxRecDepth 20000 in
theorem twp32 : Cond.selects RX8 yX8_off yX8_off ∈ wtb := wtb_memL 32 (by decide +kernel) (by decide +kernel)
set_option maxRecDepth 20000 in
theorem tw846 : Cond.code yX8_off cX8_off 6 (some .int) ∈ wtb := wtb_mem 846 (by decide +kernel) (by decide +kernel)
set_option maxRecDepth 20000 in
theorem tw692 : Cond.fieldLink RX8 32 "HeathFireModel" "skyStep" "[I" ∈ wtb := wtb_mem 692 (by decide +kernel) (by decide +kernel)
set_option maxRecDepth 20000 in
theorem tw691 : Cond.fieldLink RX8 78 "HeathFireModel" "skies" "I" ∈ wtb := wtb_mem 691 (by decide +kernel) (by decide +kernel)
set_option maxRecDepth 20000 in
theorem tw707 : Cond.fieldLink RX8 68 "HeathFireModel" "arrives" "[I" ∈ wtb := wtb_mem 707 (by decide +kernel) (by decide +kernel)
set_option maxRecDepth 20000 in
theorem tw873 : Cond.methodLink RX8 122 yX8_catches ∈ wtb := wtb_mem 873 (by decide +kernel) (by decide +kernel)
set_option maxRecDepth 20000 in
theorem tw874 : Cond.static yX8_catches ∈ wtb := wtb_mem 874 (by decide +kernel) (by decide +kernel)
set_option maxRecDepth 20000 in
theorem tw875 : Cond.code yX8_catches cX8_catches 1 (some .int) ∈ wtb := wtb_mem 875 (by decide +kernel) (by decide +kernel)
set_option maxRecDepth 20000 in
theorem tw876 : Cond.methodLink RX8 142 yX8_smokes ∈ wtb := wtb_mem 876 (by decide +kernel) (by decide +kernel)
set_option maxRecDepth 20000 in
theorem tw878 : Cond.instanceMethod yX8_smokes ∈ wtb := wtb_mem 878 (by decide +kernel) (by decide +kernel)
set_option maxRecDepth 20000 in
theorem twp37 : Cond.selects RX8 yX8_smokes yX8_smokes ∈ wtb := wtb_memL 37 (by decide +kernel) (by decide +kernel)
set_option maxRecDepth 20000 in
theorem tw879 : Cond.code yX8_smokes cX8_smokes 7 none ∈ wtb := wtb_mem 879 (by decide +kernel) (by decide +kernel)
set_option maxRecDepth 20000 in
theorem tw700 : Cond.fieldLink RX8 145 "HeathFireModel" "isBalanced" "Z" ∈ wtb := wtb_mem 700 (by decide +kernel) (by decide +kernel)
set_option maxRecDepth 20000 in
theorem tw880 : Cond.methodLink RX8 149 yX8_balance ∈ wtb := wtb_mem 880 (by decide +kernel) (by decide +kernel)
set_option maxRecDepth 20000 in
theorem tw882 : Cond.instanceMethod yX8_balance ∈ wtb := wtb_mem 882 (by decide +kernel) (by decide +kernel)
set_option maxRecDepth 20000 in
theorem twp38 : Cond.selects RX8 yX8_balance yX8_balance ∈ wtb := wtb_memL 38 (by decide +kernel) (by decide +kernel)
set_option maxRecDepth 20000 in
theorem tw883 : Cond.code yX8_balance cX8_balance 9 none ∈ wtb := wtb_mem 883 (by decide +kernel) (by decide +kernel)
set_option maxRecDepth 20000 in
theorem tw869 : Cond.methodLink RX8 139 yX8_turns ∈ wtb := wtb_mem 869 (by decide +kernel) (by decide +kernel)
set_option maxRecDepth 20000 in
theorem tw871 : Cond.instanceMethod yX8_turns ∈ wtb := wtb_mem 871 (by decide +kernel) (by decide +kernel)
set_option maxRecDepth 20000 in
theorem twp36 : Cond.selects RX8 yX8_turns yX8_turns ∈ wtb := wtb_memL 36 (by decide +kernel) (by decide +kernel)
set_option maxRecDepth 20000 in
theorem tw872 : Cond.code yX8_turns cX8_turns 4 none ∈ wtb := wtb_mem 872 (by decide +kernel) (by decide +kernel)
set_option maxRecDepth 20000 in
theorem tw839 : Cond.methodLink RX8 135 yX8_burns ∈ wtb := wtb_mem 839 (by decide +kernel) (by decide +kernel)
set_option maxRecDepth 20000 in
theorem tw841 : Cond.instanceMethod yX8_burns ∈ wtb := wtb_mem 841 (by decide +kernel) (by decide +kernel)
set_option maxRecDepth 20000 in
theorem twp31 : Cond.selects RX8 yX8_burns yX8_burns ∈ wtb := wtb_memL 31 (by decide +kernel) (by decide +kernel)
set_option maxRecDepth 20000 in
theorem tw842 : Cond.code yX8_burns cX8_burns 8 none ∈ wtb := wtb_mem 842 (by decide +kernel) (by decide +kernel)
set_option maxRecDepth 20000 in
theorem tw832 : Cond.methodLink RX8 132 yX8_rate ∈ wtb := wtb_mem 832 (by decide +kernel) (by decide +kernel)
set_option maxRecDepth 20000 in
theorem tw833 : Cond.static yX8_rate ∈ wtb := wtb_mem 833 (by decide +kernel) (by decide +kernel)
set_option maxRecDepth 20000 in
theorem tw834 : Cond.code yX8_rate cX8_rate 1 (some .int) ∈ wtb := wtb_mem 834 (by decide +kernel) (by decide +kernel)
set_option maxRecDepth 20000 in
theorem tw808 : Cond.methodLink RX8 129 yX8_acts ∈ wtb := wtb_mem 808 (by decide +kernel) (by decide +kernel)
set_option maxRecDepth 20000 in
theorem tw810 : Cond.instanceMethod yX8_acts ∈ wtb := wtb_mem 810 (by decide +kernel) (by decide +kernel)
set_option maxRecDepth 20000 in
theorem twp24 : Cond.selects RX8 yX8_acts yX8_acts ∈ wtb := wtb_memL 24 (by decide +kernel) (by decide +kernel)
set_option maxRecDepth 20000 in
theorem tw811 : Cond.code yX8_acts cX8_acts 5 none ∈ wtb := wtb_mem 811 (by decide +kernel) (by decide +kernel)
set_option maxRecDepth 20000 in
theorem tw697 : Cond.fieldLink RX8 81 "HeathFireModel" "lights" "I" ∈ wtb := wtb_mem 697 (by decide +kernel) (by decide +kernel)
set_option maxRecDepth 20000 in
theorem tw699 : Cond.fieldLink RX8 47 "HeathFireModel" "lightStep" "[I" ∈ wtb := wtb_mem 699 (by decide +kernel) (by decide +kernel)
set_option maxRecDepth 20000 in
theorem tw698 : Cond.fieldLink RX8 44 "HeathFireModel" "lightCell" "[I" ∈ wtb := wtb_mem 698 (by decide +kernel) (by decide +kernel)
set_option maxRecDepth 20000 in
theorem tw695 : Cond.fieldLink RX8 41 "HeathFireModel" "skyRain" "[I" ∈ wtb := wtb_mem 695 (by decide +kernel) (by decide +kernel)
set_option maxRecDepth 20000 in
theorem tw694 : Cond.fieldLink RX8 38 "HeathFireModel" "skyStrength" "[I" ∈ wtb := wtb_mem 694 (by decide +kernel) (by decide +kernel)
set_option maxRecDepth 20000 in
theorem tw792 : Cond.methodLink RX8 91 yX8_skyOf ∈ wtb := wtb_mem 792 (by decide +kernel) (by decide +kernel)
set_option maxRecDepth 20000 in
theorem tw794 : Cond.instanceMethod yX8_skyOf ∈ wtb := wtb_mem 794 (by decide +kernel) (by decide +kernel)
set_option maxRecDepth 20000 in
theorem twp21 : Cond.selects RX8 yX8_skyOf yX8_skyOf ∈ wtb := wtb_memL 21 (by decide +kernel) (by decide +kernel)
set_option maxRecDepth 20000 in
theorem tw795 : Cond.code yX8_skyOf cX8_skyOf 5 (some .int) ∈ wtb := wtb_mem 795 (by decide +kernel) (by decide +kernel)
set_option maxRecDepth 20000 in
theorem tw693 : Cond.fieldLink RX8 35 "HeathFireModel" "skyWind" "[I" ∈ wtb := wtb_mem 693 (by decide +kernel) (by decide +kernel)
set_option maxRecDepth 20000 in
theorem tw952 : Cond.methodLink RX8 183 yX8_load ∈ wtb := wtb_mem 952 (by decide +kernel) (by decide +kernel)
set_option maxRecDepth 20000 in
theorem tw954 : Cond.instanceMethod yX8_load ∈ wtb := wtb_mem 954 (by decide +kernel) (by decide +kernel)
set_option maxRecDepth 20000 in
theorem twp43 : Cond.selects RX8 yX8_load yX8_load ∈ wtb := wtb_memL 43 (by decide +kernel) (by decide +kernel)
set_option maxRecDepth 20000 in
theorem tw955 : Cond.code yX8_load cX8_load 3 none ∈ wtb := wtb_mem 955 (by decide +kernel) (by decide +kernel)
set_option maxRecDepth 20000 in
theorem tw800 : Cond.methodLink RX8 152 yX8_step1 ∈ wtb := wtb_mem 800 (by decide +kernel) (by decide +kernel)
set_option maxRecDepth 20000 in
theorem tw802 : Cond.instanceMethod yX8_step1 ∈ wtb := wtb_mem 802 (by decide +kernel) (by decide +kernel)
set_option maxRecDepth 20000 in
theorem twp22 : Cond.selects RX8 yX8_step1 yX8_step1 ∈ wtb := wtb_memL 22 (by decide +kernel) (by decide +kernel)
set_option maxRecDepth 20000 in
theorem tw803 : Cond.code yX8_step1 cX8_step1 9 none ∈ wtb := wtb_mem 803 (by decide +kernel) (by decide +kernel)
set_option maxRecDepth 20000 in
theorem tw940 : Cond.methodLink RX8 177 yX8_save ∈ wtb := wtb_mem 940 (by decide +kernel) (by decide +kernel)
set_option maxRecDepth 20000 in
theorem tw942 : Cond.instanceMethod yX8_save ∈ wtb := wtb_mem 942 (by decide +kernel) (by decide +kernel)
set_option maxRecDepth 20000 in
theorem twp41 : Cond.selects RX8 yX8_save yX8_save ∈ wtb := wtb_memL 41 (by decide +kernel) (by decide +kernel)
set_option maxRecDepth 20000 in
theorem tw943 : Cond.code yX8_save cX8_save 3 none ∈ wtb := wtb_mem 943 (by decide +kernel) (by decide +kernel)
set_option maxRecDepth 20000 in
theorem tw703 : Cond.fieldLink RX8 56 "HeathFireModel" "keptAt" "[I" ∈ wtb := wtb_mem 703 (by decide +kernel) (by decide +kernel)
set_option maxRecDepth 20000 in
theorem tw704 : Cond.fieldLink RX8 59 "HeathFireModel" "changes" "I" ∈ wtb := wtb_mem 704 (by decide +kernel) (by decide +kernel)
set_option maxRecDepth 20000 in
theorem tw948 : Cond.methodLink RX8 180 yX8_bars ∈ wtb := wtb_mem 948 (by decide +kernel) (by decide +kernel)
set_option maxRecDepth 20000 in
theorem tw950 : Cond.instanceMethod yX8_bars ∈ wtb := wtb_mem 950 (by decide +kernel) (by decide +kernel)
set_option maxRecDepth 20000 in
theorem twp42 : Cond.selects RX8 yX8_bars yX8_bars ∈ wtb := wtb_memL 42 (by decide +kernel) (by decide +kernel)
set_option maxRecDepth 20000 in
theorem tw951 : Cond.code yX8_bars cX8_bars 2 (some .int) ∈ wtb := wtb_mem 951 (by decide +kernel) (by decide +kernel)
set_option maxRecDepth 20000 in
theorem tw689 : Cond.fieldLink RX8 26 "HeathFireModel" "firstFuel" "[I" ∈ wtb := wtb_mem 689 (by decide +kernel) (by decide +kernel)
set_option maxRecDepth 20000 in
theorem tw690 : Cond.fieldLink RX8 29 "HeathFireModel" "firstDamp" "[I" ∈ wtb := wtb_mem 690 (by decide +kernel) (by decide +kernel)
set_option maxRecDepth 20000 in
theorem tw680 : Cond.methodLink RX8 71 yX8_begin ∈ wtb := wtb_mem 680 (by decide +kernel) (by decide +kernel)
set_option maxRecDepth 20000 in
theorem tw682 : Cond.instanceMethod yX8_begin ∈ wtb := wtb_mem 682 (by decide +kernel) (by decide +kernel)
set_option maxRecDepth 20000 in
theorem twp19 : Cond.selects RX8 yX8_begin yX8_begin ∈ wtb := wtb_memL 19 (by decide +kernel) (by decide +kernel)
set_option maxRecDepth 20000 in
theorem tw683 : Cond.code yX8_begin cX8_begin 2 none ∈ wtb := wtb_mem 683 (by decide +kernel) (by decide +kernel)
set_option maxRecDepth 20000 in
theorem tw892 : Cond.methodLink RX8 155 yX8_isCrew ∈ wtb := wtb_mem 892 (by decide +kernel) (by decide +kernel)
set_option maxRecDepth 20000 in
theorem tw894 : Cond.instanceMethod yX8_isCrew ∈ wtb := wtb_mem 894 (by decide +kernel) (by decide +kernel)
set_option maxRecDepth 20000 in
theorem twp39 : Cond.selects RX8 yX8_isCrew yX8_isCrew ∈ wtb := wtb_memL 39 (by decide +kernel) (by decide +kernel)
set_option maxRecDepth 20000 in
theorem tw895 : Cond.code yX8_isCrew cX8_isCrew 2 (some .boolean) ∈ wtb := wtb_mem 895 (by decide +kernel) (by decide +kernel)
set_option maxRecDepth 20000 in
theorem tw928 : Cond.methodLink RX8 174 yX8_sum ∈ wtb := wtb_mem 928 (by decide +kernel) (by decide +kernel)
set_option maxRecDepth 20000 in
theorem tw930 : Cond.instanceMethod yX8_sum ∈ wtb := wtb_mem 930 (by decide +kernel) (by decide +kernel)
set_option maxRecDepth 20000 in
theorem twp40 : Cond.selects RX8 yX8_sum yX8_sum ∈ wtb := wtb_memL 40 (by decide +kernel) (by decide +kernel)
set_option maxRecDepth 20000 in
theorem tw931 : Cond.code yX8_sum cX8_sum 4 (some .int) ∈ wtb := wtb_mem 931 (by decide +kernel) (by decide +kernel)
theorem fi_0_2 : ∀ c, c < 221 → hf_kd c = 0 + 3 → (hf_rs c)[2]? = some none := by decide +kernel
theorem fi_0_3 : ∀ c, c < 221 → hf_kd c = 0 + 3 → (hf_rs c)[3]? = some none := by decide +kernel
theorem fi_0_4 : ∀ c, c < 221 → hf_kd c = 0 + 3 → (hf_rs c)[4]? = some none := by decide +kernel
theorem fi_0_7 : ∀ c, c < 221 → hf_kd c = 0 + 3 → (hf_rs c)[7]? = some none := by decide +kernel
theorem fi_2_5 : ∀ c, c < 221 → hf_kd c = 2 + 3 → (hf_rs c)[5]? = some none := by decide +kernel
theorem fi_2_4 : ∀ c, c < 221 → hf_kd c = 2 + 3 → (hf_rs c)[4]? = some none := by decide +kernel
theorem hdy_X2_off : yX2_off.cls ≠ "java/lang/invoke/MethodHandle" ∧ yX2_off.cls ≠ "java/lang/invoke/VarHandle" ∧ (parseMethodDescriptor yX2_off.desc).map (fun d => d.parameters.length) = some 3 := by decide +kernel
theorem fi_0_5 : ∀ c, c < 221 → hf_kd c = 0 + 3 → (hf_rs c)[5]? = some none := by decide +kernel
theorem hdy_X0_hottestAbout : yX0_hottestAbout.cls ≠ "java/lang/invoke/MethodHandle" ∧ yX0_hottestAbout.cls ≠ "java/lang/invoke/VarHandle" ∧ (parseMethodDescriptor yX0_hottestAbout.desc).map (fun d => d.parameters.length) = some 2 := by decide +kernel
theorem fi_0_8 : ∀ c, c < 221 → hf_kd c = 0 + 3 → (hf_rs c)[8]? = some none := by decide +kernel
theorem hdy_J6_compare_7cf53 : yJ6_compare_7cf53.cls ≠ "java/lang/invoke/MethodHandle" ∧ yJ6_compare_7cf53.cls ≠ "java/lang/invoke/VarHandle" ∧ (parseMethodDescriptor yJ6_compare_7cf53.desc).map (fun d => d.parameters.length) = some 2 := by decide +kernel
theorem fi_0_6 : ∀ c, c < 221 → hf_kd c = 0 + 3 → (hf_rs c)[6]? = some none := by decide +kernel
theorem hdy_X2_nearer : yX2_nearer.cls ≠ "java/lang/invoke/MethodHandle" ∧ yX2_nearer.cls ≠ "java/lang/invoke/VarHandle" ∧ (parseMethodDescriptor yX2_nearer.desc).map (fun d => d.parameters.length) = some 2 := by decide +kernel
theorem fi_4_9 : ∀ c, c < 221 → hf_kd c = 4 + 3 → (hf_rs c)[9]? = some none := by decide +kernel
theorem hdy_X0_goOn : yX0_goOn.cls ≠ "java/lang/invoke/MethodHandle" ∧ yX0_goOn.cls ≠ "java/lang/invoke/VarHandle" ∧ (parseMethodDescriptor yX0_goOn.desc).map (fun d => d.parameters.length) = some 2 := by decide +kernel
theorem hdy_X0_cutOn : yX0_cutOn.cls ≠ "java/lang/invoke/MethodHandle" ∧ yX0_cutOn.cls ≠ "java/lang/invoke/VarHandle" ∧ (parseMethodDescriptor yX0_cutOn.desc).map (fun d => d.parameters.length) = some 1 := by decide +kernel
theorem hdy_X0_douse : yX0_douse.cls ≠ "java/lang/invoke/MethodHandle" ∧ yX0_douse.cls ≠ "java/lang/invoke/VarHandle" ∧ (parseMethodDescriptor yX0_douse.desc).map (fun d => d.parameters.length) = some 2 := by decide +kernel
theorem hdy_X0_fill : yX0_fill.cls ≠ "java/lang/invoke/MethodHandle" ∧ yX0_fill.cls ≠ "java/lang/invoke/VarHandle" ∧ (parseMethodDescriptor yX0_fill.desc).map (fun d => d.parameters.length) = some 1 := by decide +kernel
theorem hdy_X4_kindle : yX4_kindle.cls ≠ "java/lang/invoke/MethodHandle" ∧ yX4_kindle.cls ≠ "java/lang/invoke/VarHandle" ∧ (parseMethodDescriptor yX4_kindle.desc).map (fun d => d.parameters.length) = some 1 := by decide +kernel
theorem hdy_X0_isOver : yX0_isOver.cls ≠ "java/lang/invoke/MethodHandle" ∧ yX0_isOver.cls ≠ "java/lang/invoke/VarHandle" ∧ (parseMethodDescriptor yX0_isOver.desc).map (fun d => d.parameters.length) = some 2 := by decide +kernel
theorem hdy_X0_endAct : yX0_endAct.cls ≠ "java/lang/invoke/MethodHandle" ∧ yX0_endAct.cls ≠ "java/lang/invoke/VarHandle" ∧ (parseMethodDescriptor yX0_endAct.desc).map (fun d => d.parameters.length) = some 0 := by decide +kernel
theorem hdy_X0_dropPlan : yX0_dropPlan.cls ≠ "java/lang/invoke/MethodHandle" ∧ yX0_dropPlan.cls ≠ "java/lang/invoke/VarHandle" ∧ (parseMethodDescriptor yX0_dropPlan.desc).map (fun d => d.parameters.length) = some 0 := by decide +kernel
theorem fi_0_9 : ∀ c, c < 221 → hf_kd c = 0 + 3 → (hf_rs c)[9]? = some none := by decide +kernel
theorem fi_4_12 : ∀ c, c < 221 → hf_kd c = 4 + 3 → (hf_rs c)[12]? = some none := by decide +kernel
theorem fi_1_5 : ∀ c, c < 221 → hf_kd c = 1 + 3 → (hf_rs c)[5]? = some none := by decide +kernel
theorem fi_1_6 : ∀ c, c < 221 → hf_kd c = 1 + 3 → (hf_rs c)[6]? = some none := by decide +kernel
theorem fi_1_4 : ∀ c, c < 221 → hf_kd c = 1 + 3 → (hf_rs c)[4]? = some none := by decide +kernel
theorem fi_1_3 : ∀ c, c < 221 → hf_kd c = 1 + 3 → (hf_rs c)[3]? = some none := by decide +kernel
theorem fi_1_7 : ∀ c, c < 221 → hf_kd c = 1 + 3 → (hf_rs c)[7]? = some none := by decide +kernel
theorem hdy_X1_lot : yX1_lot.cls ≠ "java/lang/invoke/MethodHandle" ∧ yX1_lot.cls ≠ "java/lang/invoke/VarHandle" ∧ (parseMethodDescriptor yX1_lot.desc).map (fun d => d.parameters.length) = some 2 := by decide +kernel
theorem fi_4_10 : ∀ c, c < 221 → hf_kd c = 4 + 3 → (hf_rs c)[10]? = some none := by decide +kernel
theorem fi_4_11 : ∀ c, c < 221 → hf_kd c = 4 + 3 → (hf_rs c)[11]? = some none := by decide +kernel
theorem hdy_X1_giveHeat : yX1_giveHeat.cls ≠ "java/lang/invoke/MethodHandle" ∧ yX1_giveHeat.cls ≠ "java/lang/invoke/VarHandle" ∧ (parseMethodDescriptor yX1_giveHeat.desc).map (fun d => d.parameters.length) = some 4 := by decide +kernel
theorem hdy_X1_throwEmber : yX1_throwEmber.cls ≠ "java/lang/invoke/MethodHandle" ∧ yX1_throwEmber.cls ≠ "java/lang/invoke/VarHandle" ∧ (parseMethodDescriptor yX1_throwEmber.desc).map (fun d => d.parameters.length) = some 5 := by decide +kernel
theorem fi_2_6 : ∀ c, c < 221 → hf_kd c = 2 + 3 → (hf_rs c)[6]? = some none := by decide +kernel
theorem fi_6_2 : ∀ c, c < 221 → hf_kd c = 6 + 3 → (hf_rs c)[2]? = some none := by decide +kernel
theorem hdy_X6_entryOf : yX6_entryOf.cls ≠ "java/lang/invoke/MethodHandle" ∧ yX6_entryOf.cls ≠ "java/lang/invoke/VarHandle" ∧ (parseMethodDescriptor yX6_entryOf.desc).map (fun d => d.parameters.length) = some 1 := by decide +kernel
theorem hdy_X6_read : yX6_read.cls ≠ "java/lang/invoke/MethodHandle" ∧ yX6_read.cls ≠ "java/lang/invoke/VarHandle" ∧ (parseMethodDescriptor yX6_read.desc).map (fun d => d.parameters.length) = some 2 := by decide +kernel
theorem hdy_X1_burnDown : yX1_burnDown.cls ≠ "java/lang/invoke/MethodHandle" ∧ yX1_burnDown.cls ≠ "java/lang/invoke/VarHandle" ∧ (parseMethodDescriptor yX1_burnDown.desc).map (fun d => d.parameters.length) = some 2 := by decide +kernel
theorem hdy_X1_dryAndCatch : yX1_dryAndCatch.cls ≠ "java/lang/invoke/MethodHandle" ∧ yX1_dryAndCatch.cls ≠ "java/lang/invoke/VarHandle" ∧ (parseMethodDescriptor yX1_dryAndCatch.desc).map (fun d => d.parameters.length) = some 3 := by decide +kernel
theorem fi_2_7 : ∀ c, c < 221 → hf_kd c = 2 + 3 → (hf_rs c)[7]? = some none := by decide +kernel
theorem hdy_X2_tell : yX2_tell.cls ≠ "java/lang/invoke/MethodHandle" ∧ yX2_tell.cls ≠ "java/lang/invoke/VarHandle" ∧ (parseMethodDescriptor yX2_tell.desc).map (fun d => d.parameters.length) = some 5 := by decide +kernel
theorem fi_3_2 : ∀ c, c < 221 → hf_kd c = 3 + 3 → (hf_rs c)[2]? = some none := by decide +kernel
theorem fi_5_3 : ∀ c, c < 221 → hf_kd c = 5 + 3 → (hf_rs c)[3]? = some none := by decide +kernel
theorem hdy_X5_move : yX5_move.cls ≠ "java/lang/invoke/MethodHandle" ∧ yX5_move.cls ≠ "java/lang/invoke/VarHandle" ∧ (parseMethodDescriptor yX5_move.desc).map (fun d => d.parameters.length) = some 2 := by decide +kernel
theorem hdy_X7_sum : yX7_sum.cls ≠ "java/lang/invoke/MethodHandle" ∧ yX7_sum.cls ≠ "java/lang/invoke/VarHandle" ∧ (parseMethodDescriptor yX7_sum.desc).map (fun d => d.parameters.length) = some 2 := by decide +kernel
theorem hdy_X5_join : yX5_join.cls ≠ "java/lang/invoke/MethodHandle" ∧ yX5_join.cls ≠ "java/lang/invoke/VarHandle" ∧ (parseMethodDescriptor yX5_join.desc).map (fun d => d.parameters.length) = some 1 := by decide +kernel
theorem hdy_X5_meanWork : yX5_meanWork.cls ≠ "java/lang/invoke/MethodHandle" ∧ yX5_meanWork.cls ≠ "java/lang/invoke/VarHandle" ∧ (parseMethodDescriptor yX5_meanWork.desc).map (fun d => d.parameters.length) = some 0 := by decide +kernel
theorem hdy_X5_rowsOf : yX5_rowsOf.cls ≠ "java/lang/invoke/MethodHandle" ∧ yX5_rowsOf.cls ≠ "java/lang/invoke/VarHandle" ∧ (parseMethodDescriptor yX5_rowsOf.desc).map (fun d => d.parameters.length) = some 1 := by decide +kernel
theorem hdy_X5_split : yX5_split.cls ≠ "java/lang/invoke/MethodHandle" ∧ yX5_split.cls ≠ "java/lang/invoke/VarHandle" ∧ (parseMethodDescriptor yX5_split.desc).map (fun d => d.parameters.length) = some 1 := by decide +kernel
theorem hdy_X5_splitBusiest : yX5_splitBusiest.cls ≠ "java/lang/invoke/MethodHandle" ∧ yX5_splitBusiest.cls ≠ "java/lang/invoke/VarHandle" ∧ (parseMethodDescriptor yX5_splitBusiest.desc).map (fun d => d.parameters.length) = some 0 := by decide +kernel
theorem hdy_X5_joinIdle : yX5_joinIdle.cls ≠ "java/lang/invoke/MethodHandle" ∧ yX5_joinIdle.cls ≠ "java/lang/invoke/VarHandle" ∧ (parseMethodDescriptor yX5_joinIdle.desc).map (fun d => d.parameters.length) = some 0 := by decide +kernel
theorem fi_4_14 : ∀ c, c < 221 → hf_kd c = 4 + 3 → (hf_rs c)[14]? = some none := by decide +kernel
theorem fi_4_13 : ∀ c, c < 221 → hf_kd c = 4 + 3 → (hf_rs c)[13]? = some none := by decide +kernel
theorem hdy_X5_part : yX5_part.cls ≠ "java/lang/invoke/MethodHandle" ∧ yX5_part.cls ≠ "java/lang/invoke/VarHandle" ∧ (parseMethodDescriptor yX5_part.desc).map (fun d => d.parameters.length) = some 2 := by decide +kernel
theorem fi_4_8 : ∀ c, c < 221 → hf_kd c = 4 + 3 → (hf_rs c)[8]? = some none := by decide +kernel
theorem hdy_X4_beginCell : yX4_beginCell.cls ≠ "java/lang/invoke/MethodHandle" ∧ yX4_beginCell.cls ≠ "java/lang/invoke/VarHandle" ∧ (parseMethodDescriptor yX4_beginCell.desc).map (fun d => d.parameters.length) = some 2 := by decide +kernel
theorem hdy_X5_copyFrom : yX5_copyFrom.cls ≠ "java/lang/invoke/MethodHandle" ∧ yX5_copyFrom.cls ≠ "java/lang/invoke/VarHandle" ∧ (parseMethodDescriptor yX5_copyFrom.desc).map (fun d => d.parameters.length) = some 1 := by decide +kernel
theorem hdy_X0_copyFrom : yX0_copyFrom.cls ≠ "java/lang/invoke/MethodHandle" ∧ yX0_copyFrom.cls ≠ "java/lang/invoke/VarHandle" ∧ (parseMethodDescriptor yX0_copyFrom.desc).map (fun d => d.parameters.length) = some 1 := by decide +kernel
theorem hdy_X2_has : yX2_has.cls ≠ "java/lang/invoke/MethodHandle" ∧ yX2_has.cls ≠ "java/lang/invoke/VarHandle" ∧ (parseMethodDescriptor yX2_has.desc).map (fun d => d.parameters.length) = some 1 := by decide +kernel
theorem hdy_X1_layDownSmoke : yX1_layDownSmoke.cls ≠ "java/lang/invoke/MethodHandle" ∧ yX1_layDownSmoke.cls ≠ "java/lang/invoke/VarHandle" ∧ (parseMethodDescriptor yX1_layDownSmoke.desc).map (fun d => d.parameters.length) = some 2 := by decide +kernel
theorem fi_7_9 : ∀ c, c < 221 → hf_kd c = 7 + 3 → (hf_rs c)[9]? = some none := by decide +kernel
theorem hdy_X4_balance : yX4_balance.cls ≠ "java/lang/invoke/MethodHandle" ∧ yX4_balance.cls ≠ "java/lang/invoke/VarHandle" ∧ (parseMethodDescriptor yX4_balance.desc).map (fun d => d.parameters.length) = some 0 := by decide +kernel
theorem hdy_X1_blowStrip : yX1_blowStrip.cls ≠ "java/lang/invoke/MethodHandle" ∧ yX1_blowStrip.cls ≠ "java/lang/invoke/VarHandle" ∧ (parseMethodDescriptor yX1_blowStrip.desc).map (fun d => d.parameters.length) = some 3 := by decide +kernel
theorem hdy_X1_settle : yX1_settle.cls ≠ "java/lang/invoke/MethodHandle" ∧ yX1_settle.cls ≠ "java/lang/invoke/VarHandle" ∧ (parseMethodDescriptor yX1_settle.desc).map (fun d => d.parameters.length) = some 2 := by decide +kernel
theorem hdy_X1_burnStrip : yX1_burnStrip.cls ≠ "java/lang/invoke/MethodHandle" ∧ yX1_burnStrip.cls ≠ "java/lang/invoke/VarHandle" ∧ (parseMethodDescriptor yX1_burnStrip.desc).map (fun d => d.parameters.length) = some 3 := by decide +kernel
theorem hdy_X4_loseCrews : yX4_loseCrews.cls ≠ "java/lang/invoke/MethodHandle" ∧ yX4_loseCrews.cls ≠ "java/lang/invoke/VarHandle" ∧ (parseMethodDescriptor yX4_loseCrews.desc).map (fun d => d.parameters.length) = some 0 := by decide +kernel
theorem hdy_X5_beginWork : yX5_beginWork.cls ≠ "java/lang/invoke/MethodHandle" ∧ yX5_beginWork.cls ≠ "java/lang/invoke/VarHandle" ∧ (parseMethodDescriptor yX5_beginWork.desc).map (fun d => d.parameters.length) = some 1 := by decide +kernel
theorem hdy_X0_act : yX0_act.cls ≠ "java/lang/invoke/MethodHandle" ∧ yX0_act.cls ≠ "java/lang/invoke/VarHandle" ∧ (parseMethodDescriptor yX0_act.desc).map (fun d => d.parameters.length) = some 2 := by decide +kernel
theorem fi_7_8 : ∀ c, c < 221 → hf_kd c = 7 + 3 → (hf_rs c)[8]? = some none := by decide +kernel
theorem hdy_X1_setOut : yX1_setOut.cls ≠ "java/lang/invoke/MethodHandle" ∧ yX1_setOut.cls ≠ "java/lang/invoke/VarHandle" ∧ (parseMethodDescriptor yX1_setOut.desc).map (fun d => d.parameters.length) = some 3 := by decide +kernel
theorem hdy_X3_kindle : yX3_kindle.cls ≠ "java/lang/invoke/MethodHandle" ∧ yX3_kindle.cls ≠ "java/lang/invoke/VarHandle" ∧ (parseMethodDescriptor yX3_kindle.desc).map (fun d => d.parameters.length) = some 1 := by decide +kernel
theorem hdy_X7_work : yX7_work.cls ≠ "java/lang/invoke/MethodHandle" ∧ yX7_work.cls ≠ "java/lang/invoke/VarHandle" ∧ (parseMethodDescriptor yX7_work.desc).map (fun d => d.parameters.length) = some 1 := by decide +kernel
theorem hdy_X7_isWithin : yX7_isWithin.cls ≠ "java/lang/invoke/MethodHandle" ∧ yX7_isWithin.cls ≠ "java/lang/invoke/VarHandle" ∧ (parseMethodDescriptor yX7_isWithin.desc).map (fun d => d.parameters.length) = some 3 := by decide +kernel
theorem hdy_X4_copyFrom : yX4_copyFrom.cls ≠ "java/lang/invoke/MethodHandle" ∧ yX4_copyFrom.cls ≠ "java/lang/invoke/VarHandle" ∧ (parseMethodDescriptor yX4_copyFrom.desc).map (fun d => d.parameters.length) = some 1 := by decide +kernel
theorem hdy_X7_isPlace : yX7_isPlace.cls ≠ "java/lang/invoke/MethodHandle" ∧ yX7_isPlace.cls ≠ "java/lang/invoke/VarHandle" ∧ (parseMethodDescriptor yX7_isPlace.desc).map (fun d => d.parameters.length) = some 1 := by decide +kernel
theorem hdy_X4_begin : yX4_begin.cls ≠ "java/lang/invoke/MethodHandle" ∧ yX4_begin.cls ≠ "java/lang/invoke/VarHandle" ∧ (parseMethodDescriptor yX4_begin.desc).map (fun d => d.parameters.length) = some 1 := by decide +kernel
theorem hdy_X0_begin : yX0_begin.cls ≠ "java/lang/invoke/MethodHandle" ∧ yX0_begin.cls ≠ "java/lang/invoke/VarHandle" ∧ (parseMethodDescriptor yX0_begin.desc).map (fun d => d.parameters.length) = some 1 := by decide +kernel
theorem hdy_X4_isAlikeAt : yX4_isAlikeAt.cls ≠ "java/lang/invoke/MethodHandle" ∧ yX4_isAlikeAt.cls ≠ "java/lang/invoke/VarHandle" ∧ (parseMethodDescriptor yX4_isAlikeAt.desc).map (fun d => d.parameters.length) = some 2 := by decide +kernel
theorem hdy_X7_hasAlightNeighbour : yX7_hasAlightNeighbour.cls ≠ "java/lang/invoke/MethodHandle" ∧ yX7_hasAlightNeighbour.cls ≠ "java/lang/invoke/VarHandle" ∧ (parseMethodDescriptor yX7_hasAlightNeighbour.desc).map (fun d => d.parameters.length) = some 1 := by decide +kernel
theorem hdy_X2_layOut : yX2_layOut.cls ≠ "java/lang/invoke/MethodHandle" ∧ yX2_layOut.cls ≠ "java/lang/invoke/VarHandle" ∧ (parseMethodDescriptor yX2_layOut.desc).map (fun d => d.parameters.length) = some 2 := by decide +kernel
theorem hdy_X7_hasCrew : yX7_hasCrew.cls ≠ "java/lang/invoke/MethodHandle" ∧ yX7_hasCrew.cls ≠ "java/lang/invoke/VarHandle" ∧ (parseMethodDescriptor yX7_hasCrew.desc).map (fun d => d.parameters.length) = some 1 := by decide +kernel
theorem hdy_X3_add : yX3_add.cls ≠ "java/lang/invoke/MethodHandle" ∧ yX3_add.cls ≠ "java/lang/invoke/VarHandle" ∧ (parseMethodDescriptor yX3_add.desc).map (fun d => d.parameters.length) = some 2 := by decide +kernel
theorem hdy_X0_addAct : yX0_addAct.cls ≠ "java/lang/invoke/MethodHandle" ∧ yX0_addAct.cls ≠ "java/lang/invoke/VarHandle" ∧ (parseMethodDescriptor yX0_addAct.desc).map (fun d => d.parameters.length) = some 2 := by decide +kernel
theorem hdy_X6_add : yX6_add.cls ≠ "java/lang/invoke/MethodHandle" ∧ yX6_add.cls ≠ "java/lang/invoke/VarHandle" ∧ (parseMethodDescriptor yX6_add.desc).map (fun d => d.parameters.length) = some 4 := by decide +kernel
theorem fi_8_2 : ∀ c, c < 221 → hf_kd c = 8 + 3 → (hf_rs c)[2]? = some none := by decide +kernel
theorem hdy_X8_in : yX8_in.cls ≠ "java/lang/invoke/MethodHandle" ∧ yX8_in.cls ≠ "java/lang/invoke/VarHandle" ∧ (parseMethodDescriptor yX8_in.desc).map (fun d => d.parameters.length) = some 3 := by decide +kernel
theorem hdy_X8_isCell : yX8_isCell.cls ≠ "java/lang/invoke/MethodHandle" ∧ yX8_isCell.cls ≠ "java/lang/invoke/VarHandle" ∧ (parseMethodDescriptor yX8_isCell.desc).map (fun d => d.parameters.length) = some 1 := by decide +kernel
theorem fi_8_1 : ∀ c, c < 221 → hf_kd c = 8 + 3 → (hf_rs c)[1]? = some none := by decide +kernel
theorem hdy_X8_over : yX8_over.cls ≠ "java/lang/invoke/MethodHandle" ∧ yX8_over.cls ≠ "java/lang/invoke/VarHandle" ∧ (parseMethodDescriptor yX8_over.desc).map (fun d => d.parameters.length) = some 1 := by decide +kernel
theorem hdy_X8_isAbout : yX8_isAbout.cls ≠ "java/lang/invoke/MethodHandle" ∧ yX8_isAbout.cls ≠ "java/lang/invoke/VarHandle" ∧ (parseMethodDescriptor yX8_isAbout.desc).map (fun d => d.parameters.length) = some 2 := by decide +kernel
theorem hdy_X8_goes : yX8_goes.cls ≠ "java/lang/invoke/MethodHandle" ∧ yX8_goes.cls ≠ "java/lang/invoke/VarHandle" ∧ (parseMethodDescriptor yX8_goes.desc).map (fun d => d.parameters.length) = some 2 := by decide +kernel
theorem hdy_X8_douses : yX8_douses.cls ≠ "java/lang/invoke/MethodHandle" ∧ yX8_douses.cls ≠ "java/lang/invoke/VarHandle" ∧ (parseMethodDescriptor yX8_douses.desc).map (fun d => d.parameters.length) = some 1 := by decide +kernel
theorem hdy_X8_fills : yX8_fills.cls ≠ "java/lang/invoke/MethodHandle" ∧ yX8_fills.cls ≠ "java/lang/invoke/VarHandle" ∧ (parseMethodDescriptor yX8_fills.desc).map (fun d => d.parameters.length) = some 1 := by decide +kernel
theorem hdy_X8_kindle : yX8_kindle.cls ≠ "java/lang/invoke/MethodHandle" ∧ yX8_kindle.cls ≠ "java/lang/invoke/VarHandle" ∧ (parseMethodDescriptor yX8_kindle.desc).map (fun d => d.parameters.length) = some 1 := by decide +kernel
theorem fi_8_12 : ∀ c, c < 221 → hf_kd c = 8 + 3 → (hf_rs c)[12]? = some none := by decide +kernel
theorem hdy_X8_down : yX8_down.cls ≠ "java/lang/invoke/MethodHandle" ∧ yX8_down.cls ≠ "java/lang/invoke/VarHandle" ∧ (parseMethodDescriptor yX8_down.desc).map (fun d => d.parameters.length) = some 1 := by decide +kernel
theorem hdy_X8_right : yX8_right.cls ≠ "java/lang/invoke/MethodHandle" ∧ yX8_right.cls ≠ "java/lang/invoke/VarHandle" ∧ (parseMethodDescriptor yX8_right.desc).map (fun d => d.parameters.length) = some 1 := by decide +kernel
theorem fi_8_0 : ∀ c, c < 221 → hf_kd c = 8 + 3 → (hf_rs c)[0]? = some none := by decide +kernel
theorem hdy_X8_stripOf : yX8_stripOf.cls ≠ "java/lang/invoke/MethodHandle" ∧ yX8_stripOf.cls ≠ "java/lang/invoke/VarHandle" ∧ (parseMethodDescriptor yX8_stripOf.desc).map (fun d => d.parameters.length) = some 1 := by decide +kernel
theorem hdy_X8_windOf : yX8_windOf.cls ≠ "java/lang/invoke/MethodHandle" ∧ yX8_windOf.cls ≠ "java/lang/invoke/VarHandle" ∧ (parseMethodDescriptor yX8_windOf.desc).map (fun d => d.parameters.length) = some 3 := by decide +kernel
theorem hdy_X8_passes : yX8_passes.cls ≠ "java/lang/invoke/MethodHandle" ∧ yX8_passes.cls ≠ "java/lang/invoke/VarHandle" ∧ (parseMethodDescriptor yX8_passes.desc).map (fun d => d.parameters.length) = some 2 := by decide +kernel
theorem hdy_X8_lot : yX8_lot.cls ≠ "java/lang/invoke/MethodHandle" ∧ yX8_lot.cls ≠ "java/lang/invoke/VarHandle" ∧ (parseMethodDescriptor yX8_lot.desc).map (fun d => d.parameters.length) = some 3 := by decide +kernel
theorem hdy_X8_off : yX8_off.cls ≠ "java/lang/invoke/MethodHandle" ∧ yX8_off.cls ≠ "java/lang/invoke/VarHandle" ∧ (parseMethodDescriptor yX8_off.desc).map (fun d => d.parameters.length) = some 3 := by decide +kernel
theorem fi_8_7 : ∀ c, c < 221 → hf_kd c = 8 + 3 → (hf_rs c)[7]? = some none := by decide +kernel
theorem hdy_X8_catches : yX8_catches.cls ≠ "java/lang/invoke/MethodHandle" ∧ yX8_catches.cls ≠ "java/lang/invoke/VarHandle" ∧ (parseMethodDescriptor yX8_catches.desc).map (fun d => d.parameters.length) = some 1 := by decide +kernel
theorem hdy_X8_smokes : yX8_smokes.cls ≠ "java/lang/invoke/MethodHandle" ∧ yX8_smokes.cls ≠ "java/lang/invoke/VarHandle" ∧ (parseMethodDescriptor yX8_smokes.desc).map (fun d => d.parameters.length) = some 2 := by decide +kernel
theorem fi_8_16 : ∀ c, c < 221 → hf_kd c = 8 + 3 → (hf_rs c)[16]? = some none := by decide +kernel
theorem hdy_X8_balance : yX8_balance.cls ≠ "java/lang/invoke/MethodHandle" ∧ yX8_balance.cls ≠ "java/lang/invoke/VarHandle" ∧ (parseMethodDescriptor yX8_balance.desc).map (fun d => d.parameters.length) = some 0 := by decide +kernel
theorem hdy_X8_turns : yX8_turns.cls ≠ "java/lang/invoke/MethodHandle" ∧ yX8_turns.cls ≠ "java/lang/invoke/VarHandle" ∧ (parseMethodDescriptor yX8_turns.desc).map (fun d => d.parameters.length) = some 2 := by decide +kernel
theorem hdy_X8_burns : yX8_burns.cls ≠ "java/lang/invoke/MethodHandle" ∧ yX8_burns.cls ≠ "java/lang/invoke/VarHandle" ∧ (parseMethodDescriptor yX8_burns.desc).map (fun d => d.parameters.length) = some 3 := by decide +kernel
theorem hdy_X8_rate : yX8_rate.cls ≠ "java/lang/invoke/MethodHandle" ∧ yX8_rate.cls ≠ "java/lang/invoke/VarHandle" ∧ (parseMethodDescriptor yX8_rate.desc).map (fun d => d.parameters.length) = some 1 := by decide +kernel
theorem hdy_X8_acts : yX8_acts.cls ≠ "java/lang/invoke/MethodHandle" ∧ yX8_acts.cls ≠ "java/lang/invoke/VarHandle" ∧ (parseMethodDescriptor yX8_acts.desc).map (fun d => d.parameters.length) = some 1 := by decide +kernel
theorem fi_8_13 : ∀ c, c < 221 → hf_kd c = 8 + 3 → (hf_rs c)[13]? = some none := by decide +kernel
theorem hdy_X8_skyOf : yX8_skyOf.cls ≠ "java/lang/invoke/MethodHandle" ∧ yX8_skyOf.cls ≠ "java/lang/invoke/VarHandle" ∧ (parseMethodDescriptor yX8_skyOf.desc).map (fun d => d.parameters.length) = some 1 := by decide +kernel
theorem hdy_X8_load : yX8_load.cls ≠ "java/lang/invoke/MethodHandle" ∧ yX8_load.cls ≠ "java/lang/invoke/VarHandle" ∧ (parseMethodDescriptor yX8_load.desc).map (fun d => d.parameters.length) = some 1 := by decide +kernel
theorem hdy_X8_step1 : yX8_step1.cls ≠ "java/lang/invoke/MethodHandle" ∧ yX8_step1.cls ≠ "java/lang/invoke/VarHandle" ∧ (parseMethodDescriptor yX8_step1.desc).map (fun d => d.parameters.length) = some 0 := by decide +kernel
theorem hdy_X8_save : yX8_save.cls ≠ "java/lang/invoke/MethodHandle" ∧ yX8_save.cls ≠ "java/lang/invoke/VarHandle" ∧ (parseMethodDescriptor yX8_save.desc).map (fun d => d.parameters.length) = some 1 := by decide +kernel
theorem fi_8_20 : ∀ c, c < 221 → hf_kd c = 8 + 3 → (hf_rs c)[20]? = some none := by decide +kernel
theorem hdy_X8_bars : yX8_bars.cls ≠ "java/lang/invoke/MethodHandle" ∧ yX8_bars.cls ≠ "java/lang/invoke/VarHandle" ∧ (parseMethodDescriptor yX8_bars.desc).map (fun d => d.parameters.length) = some 1 := by decide +kernel
theorem hdy_X8_begin : yX8_begin.cls ≠ "java/lang/invoke/MethodHandle" ∧ yX8_begin.cls ≠ "java/lang/invoke/VarHandle" ∧ (parseMethodDescriptor yX8_begin.desc).map (fun d => d.parameters.length) = some 0 := by decide +kernel
theorem hdy_X8_isCrew : yX8_isCrew.cls ≠ "java/lang/invoke/MethodHandle" ∧ yX8_isCrew.cls ≠ "java/lang/invoke/VarHandle" ∧ (parseMethodDescriptor yX8_isCrew.desc).map (fun d => d.parameters.length) = some 1 := by decide +kernel
theorem hdy_X8_sum : yX8_sum.cls ≠ "java/lang/invoke/MethodHandle" ∧ yX8_sum.cls ≠ "java/lang/invoke/VarHandle" ∧ (parseMethodDescriptor yX8_sum.desc).map (fun d => d.parameters.length) = some 1 := by decide +kernel
