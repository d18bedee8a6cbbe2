/-! every instruction of the program, looked at by the kernel: it decodes so, links so, goes on there -/
def ilen : Instr → Nat
  | .bipush _ => 2
  | .sipush _ => 3
  | .ldc _ => 2
  | .ldc_w _ => 3
  | .ldc2_w _ => 3
  | .iload _ => 2
  | .lload _ => 2
  | .aload _ => 2
  | .istore _ => 2
  | .lstore _ => 2
  | .astore _ => 2
  | .iinc _ _ => 3
  | .getfield _ => 3
  | .putfield _ => 3
  | .invokevirtual _ => 3
  | .invokestatic _ => 3
  | .ifCond _ _ => 3
  | .if_icmp _ _ => 3
  | .goto _ => 3
  | _ => 1
def isTS : Instr → Bool
  | .tableswitch _ _ _ _ => true
  | _ => false
def termI : Instr → Bool
  | .tableswitch _ _ _ _ => true
  | .goto _ => true
  | .ireturn => true
  | .lreturn => true
  | .areturn => true
  | .return_ => true
  | _ => false
def okD (y pc : Nat) (o : Op) : Bool := match decode (mb y) pc with
  | .ok q => decide (q.1 = o.1) && (isTS o.1 || decide (q.2 = ilen o.1))
  | .error _ => false
def okC (y z : Nat) : Bool := decide (z < NM) && decide (mf z + 1 ≤ mf y) && decide (8 + (mL z + 11) + mo z ≤ mo y)
def okN (y : Nat) : Bool := decide (1 ≤ mf y) && decide (60 ≤ mo y)
def okS (y pc : Nat) (a : Nat) (dflt low high : Int) (offs : Array Int) : Bool := match jtT[a]? with
  | some (lo, ts, df) => decide (lo = low) && decide (lo + (ts.length : Int) = high + 1) && decide (offs.size = ts.length) && decide ((pc : Int) + dflt = (bs y df : Int)) && (List.range ts.length).all (fun i => decide ((pc : Int) + offs.getD i 0 = (bs y (ts.getD i 0) : Int)))
  | none => false
def okX (y pc : Nat) (o : Op) : Bool := match o.1 with
  | .iconst k => decide (Int32.ofInt k = cI o.2.1 o.2.2.1)
  | .bipush k => decide ((Int8.ofInt k).toInt32 = cI o.2.1 o.2.2.1)
  | .sipush k => decide ((Int16.ofInt k).toInt32 = cI o.2.1 o.2.2.1)
  | .ldc i => cuL.any (fun q => decide (q.2 = (mc y, i, o.2.1, o.2.2.1)))
  | .ldc_w i => cuL.any (fun q => decide (q.2 = (mc y, i, o.2.1, o.2.2.1)))
  | .ldc2_w i => clL.any (fun q => decide (q.2 = (mc y, i, o.2.1, o.2.2.1)))
  | .lconst k => decide (Int64.ofNat k.val = cL o.2.1 o.2.2.1)
  | .iload k => decide (k = o.2.1)
  | .lload k => decide (k = o.2.1)
  | .aload k => decide (k = o.2.1)
  | .iload_n k => decide (k.val = o.2.1)
  | .lload_n k => decide (k.val = o.2.1)
  | .aload_n k => decide (k.val = o.2.1)
  | .istore k => decide (k = o.2.1) && decide (o.2.1 < mL y)
  | .astore k => decide (k = o.2.1) && decide (o.2.1 < mL y)
  | .lstore k => decide (k = o.2.1) && decide (o.2.1 + 1 < mL y)
  | .istore_n k => decide (k.val = o.2.1) && decide (o.2.1 < mL y)
  | .astore_n k => decide (k.val = o.2.1) && decide (o.2.1 < mL y)
  | .lstore_n k => decide (k.val = o.2.1) && decide (o.2.1 + 1 < mL y)
  | .iinc k n => decide (k = o.2.1) && decide (o.2.1 < mL y) && decide (Int32.ofInt n = cI o.2.2.1 o.2.2.2)
  | .getfield i => fuL.any (fun q => decide (q.2 = (mc y, i, o.2.1, o.2.2.1)))
  | .putfield i => fuL.any (fun q => decide (q.2 = (mc y, i, o.2.1, o.2.2.1))) && decide ((tT o.2.1 o.2.2.1).2.2.2 = false)
  | .invokevirtual i => okC y o.2.1 && muL.any (fun q => decide (q.2 = (mc y, i, o.2.1))) && decide (stc o.2.1 = 0) && decide (np o.2.1 = o.2.2.1) && decide (mc o.2.1 = o.2.2.2) && decide (mc o.2.1 < 12)
  | .invokestatic i => if o.2.1 = 999 then okN y && acL.any (fun q => decide (q.2 = (mc y, i)))
    else if o.2.1 = 998 then okN y && minL.any (fun q => decide (q.2 = (mc y, i)))
    else if o.2.1 = 997 then okN y && maxL.any (fun q => decide (q.2 = (mc y, i)))
    else okC y o.2.1 && decide (stc o.2.1 = 1) && decide (np o.2.1 = o.2.2.1) && (if o.2.2.2 = 1 then nuL.any (fun q => decide (q = (mc y, i, o.2.1))) else muL.any (fun q => decide (q.2 = (mc y, i, o.2.1))))
  | .ireturn => if o.2.1 = 0 then decide (mr y = some .int) else decide (mr y = some .boolean)
  | .lreturn => decide (mr y = some .long)
  | .areturn => match mr y with
    | some (.object _) => true
    | _ => false
  | .return_ => decide (mr y = none)
  | .ifCond _ k => decide ((pc : Int) + k = (bs y o.2.1 : Int))
  | .if_icmp _ k => decide ((pc : Int) + k = (bs y o.2.1 : Int))
  | .goto k => decide ((pc : Int) + k = (bs y o.2.1 : Int))
  | .tableswitch df lo hi offs => okS y pc o.2.1 df lo hi offs
  | _ => true
def okL (y : Nat) : Nat → List Op → Nat → Bool
  | pc, [], ft => decide (pc = bs y ft)
  | pc, o :: is, ft => okD y pc o && okX y pc o && (termI o.1 || okL y (pc + ilen o.1) is ft)
def okM (z : Nat) : Bool := (List.range (blkT.getD z []).length).all (fun k => okL z (bs z k) (blk z k).1 (blk z k).2) && decide (bs z 0 = 0) && decide ((bsT.getD z []).length = (blkT.getD z []).length)
theorem okM_0 : ((List.range 10).map (· + 0)).all okM = true := by decide +kernel
theorem okM_1 : ((List.range 10).map (· + 10)).all okM = true := by decide +kernel
theorem okM_2 : ((List.range 10).map (· + 20)).all okM = true := by decide +kernel
theorem okM_3 : ((List.range 10).map (· + 30)).all okM = true := by decide +kernel
theorem okM_4 : ((List.range 10).map (· + 40)).all okM = true := by decide +kernel
theorem okM_5 : ((List.range 10).map (· + 50)).all okM = true := by decide +kernel
theorem okM_6 : ((List.range 10).map (· + 60)).all okM = true := by decide +kernel
theorem okM_7 : ((List.range 10).map (· + 70)).all okM = true := by decide +kernel
theorem okM_8 : ((List.range 10).map (· + 80)).all okM = true := by decide +kernel
theorem okM_9 : ((List.range 10).map (· + 90)).all okM = true := by decide +kernel
theorem okM_10 : ((List.range 10).map (· + 100)).all okM = true := by decide +kernel
theorem okM_11 : ((List.range 10).map (· + 110)).all okM = true := by decide +kernel
theorem okM_12 : ((List.range 10).map (· + 120)).all okM = true := by decide +kernel
theorem okM_13 : ((List.range 10).map (· + 130)).all okM = true := by decide +kernel
theorem okM_14 : ((List.range 10).map (· + 140)).all okM = true := by decide +kernel
theorem okM_15 : ((List.range 10).map (· + 150)).all okM = true := by decide +kernel
theorem okM_16 : ((List.range 10).map (· + 160)).all okM = true := by decide +kernel
theorem okM_17 : ((List.range 10).map (· + 170)).all okM = true := by decide +kernel
theorem okM_18 : ((List.range 10).map (· + 180)).all okM = true := by decide +kernel
theorem okM_19 : ((List.range 8).map (· + 190)).all okM = true := by decide +kernel
theorem okM_in {z : Nat} (h : z < NM) : okM z = true := by
  have h : z < 198 := h
  by_cases q0 : z < 10
  · exact in_rng (k := 0) (P := fun z => okM z = true) (List.all_eq_true.mp okM_0) (by omega) (by omega)
  by_cases q1 : z < 20
  · exact in_rng (k := 0) (P := fun z => okM z = true) (List.all_eq_true.mp okM_1) (by omega) (by omega)
  by_cases q2 : z < 30
  · exact in_rng (k := 0) (P := fun z => okM z = true) (List.all_eq_true.mp okM_2) (by omega) (by omega)
  by_cases q3 : z < 40
  · exact in_rng (k := 0) (P := fun z => okM z = true) (List.all_eq_true.mp okM_3) (by omega) (by omega)
  by_cases q4 : z < 50
  · exact in_rng (k := 0) (P := fun z => okM z = true) (List.all_eq_true.mp okM_4) (by omega) (by omega)
  by_cases q5 : z < 60
  · exact in_rng (k := 0) (P := fun z => okM z = true) (List.all_eq_true.mp okM_5) (by omega) (by omega)
  by_cases q6 : z < 70
  · exact in_rng (k := 0) (P := fun z => okM z = true) (List.all_eq_true.mp okM_6) (by omega) (by omega)
  by_cases q7 : z < 80
  · exact in_rng (k := 0) (P := fun z => okM z = true) (List.all_eq_true.mp okM_7) (by omega) (by omega)
  by_cases q8 : z < 90
  · exact in_rng (k := 0) (P := fun z => okM z = true) (List.all_eq_true.mp okM_8) (by omega) (by omega)
  by_cases q9 : z < 100
  · exact in_rng (k := 0) (P := fun z => okM z = true) (List.all_eq_true.mp okM_9) (by omega) (by omega)
  by_cases q10 : z < 110
  · exact in_rng (k := 0) (P := fun z => okM z = true) (List.all_eq_true.mp okM_10) (by omega) (by omega)
  by_cases q11 : z < 120
  · exact in_rng (k := 0) (P := fun z => okM z = true) (List.all_eq_true.mp okM_11) (by omega) (by omega)
  by_cases q12 : z < 130
  · exact in_rng (k := 0) (P := fun z => okM z = true) (List.all_eq_true.mp okM_12) (by omega) (by omega)
  by_cases q13 : z < 140
  · exact in_rng (k := 0) (P := fun z => okM z = true) (List.all_eq_true.mp okM_13) (by omega) (by omega)
  by_cases q14 : z < 150
  · exact in_rng (k := 0) (P := fun z => okM z = true) (List.all_eq_true.mp okM_14) (by omega) (by omega)
  by_cases q15 : z < 160
  · exact in_rng (k := 0) (P := fun z => okM z = true) (List.all_eq_true.mp okM_15) (by omega) (by omega)
  by_cases q16 : z < 170
  · exact in_rng (k := 0) (P := fun z => okM z = true) (List.all_eq_true.mp okM_16) (by omega) (by omega)
  by_cases q17 : z < 180
  · exact in_rng (k := 0) (P := fun z => okM z = true) (List.all_eq_true.mp okM_17) (by omega) (by omega)
  by_cases q18 : z < 190
  · exact in_rng (k := 0) (P := fun z => okM z = true) (List.all_eq_true.mp okM_18) (by omega) (by omega)
  exact in_rng (k := 0) (P := fun z => okM z = true) (List.all_eq_true.mp okM_19) (by omega) (by omega)

