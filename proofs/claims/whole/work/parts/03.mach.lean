/-! THE ABSTRACT MACHINE: the class and the reference have a fixed set of cells (part 02, sh); memory is Nat → Nat → Int32 (cell, place); a run is a function with fuel -/
abbrev Mem : Type := Nat → Nat → Int32
abbrev Lo : Type := List (Option Value)
abbrev Rs : Type := Option Value × Mem
def mI (n : Nat) : Int32 := Int32.ofInt (-(n : Int))
def mN (n : Nat) : Int64 := Int64.ofInt (-(n : Int))
def cI (a b : Nat) : Int32 := if b = 0 then nI a else mI a
def cL (a b : Nat) : Int64 := if b = 0 then lN a else mN a
def lget : Lo → Nat → Option Value
  | [], _ => none
  | v :: _, 0 => v
  | _ :: L, k + 1 => lget L k
def lput : Lo → Nat → Option Value → Lo
  | [], _, _ => []
  | _ :: L, 0, v => v :: L
  | u :: L, k + 1, v => u :: lput L k v
def kl (v : Option Value) : Option Value := match v with
  | some (.long _) => none
  | some (.double _) => none
  | v => v
/-- a store at place k: what of two slots began ahead of it is gone -/
def lkill : Lo → Nat → Lo
  | [], _ => []
  | L, 0 => L
  | u :: L, 1 => kl u :: L
  | u :: L, k + 2 => u :: lkill L (k + 1)
def setC (M : Mem) (c : Nat) (f : Nat → Int32) : Mem := fun c' => if c' = c then f else M c'
def stM (M : Mem) (c i : Nat) (x : Int32) : Mem := setC M c (upd (M c) i x)
def jnl (x : Int64) : Int32 := Int32.ofNat (x.toBitVec.toNat % 2 ^ 32)
def jnh (x : Int64) : Int32 := Int32.ofNat (x.toBitVec.toNat / 2 ^ 32)
def jn (a b : Int32) : Int64 := Int64.ofNat (a.toBitVec.toNat + 2 ^ 32 * b.toBitVec.toNat)
def cls (c : Nat) : Nat := match sh c with
  | some (.inr (.inr o)) => o.1
  | _ => 99
def fld (c a b : Nat) : Option (Nat × Nat × Nat) := match sh c with
  | some (.inr (.inr o)) => if o.1 = a then o.2[b]? else none
  | _ => none
def alen (c : Nat) : Option Nat := match sh c with
  | some (.inl n) => some n
  | _ => none
def rarr (c : Nat) : List Nat := match sh c with
  | some (.inr (.inl cs)) => cs
  | _ => []
def fval (M : Mem) (c : Nat) (f : Nat × Nat × Nat) : Value := match f.1 with
  | 0 => .ref f.2.1
  | 1 => .int (M c f.2.1)
  | 2 => .int (M c f.2.1)
  | _ => .long (jn (M c f.2.1) (M c f.2.2))
/-- a value comes into a field -/
def fput (M : Mem) (c : Nat) (f : Nat × Nat × Nat) (v : Value) : Option Mem := match f.1, v with
  | 1, .int x => some (stM M c f.2.1 x)
  | 2, .int x => if x = 0 ∨ x = 1 then some (stM M c f.2.1 x) else none
  | 3, .long x => some (stM (stM M c f.2.1 (jnl x)) c f.2.2 (jnh x))
  | _, _ => none
def cmpI (cd : Jvm.ClassFile.Cond) (x y : Int32) : Bool := match cd with
  | .eq => decide (x = y)
  | .ne => decide (¬ x = y)
  | .lt => decide (x < y)
  | .ge => decide (y ≤ x)
  | .gt => decide (y < x)
  | .le => decide (x ≤ y)
def brI (o : Op) (S : List Value) : Option (Bool × List Value) := match o.1 with
  | .ifCond cd _ => match S with
    | .int x :: S => some (cmpI cd x 0, S)
    | _ => none
  | .if_icmp cd _ => match S with
    | .int y :: .int x :: S => some (cmpI cd x y, S)
    | _ => none
  | _ => none
def swt (k : Nat) (x : Int32) : Nat := match jtT[k]? with
  | some (lo, ts, df) => if x.toInt < lo ∨ lo + (ts.length : Int) ≤ x.toInt then df else ts.getD (x.toInt - lo).toNat 0
  | none => 0
def cpyM (M : Mem) (cs cd sp dp n : Nat) : Mem := setC M cd (va_cpy (M cs) (M cd) sp dp n)
abbrev St3 : Type := Lo × List Value × Mem
def gI (v : Option Value) (K : Int32 → Option St3) : Option St3 := match v with
  | some (.int x) => K x
  | _ => none
def gL (v : Option Value) (K : Int64 → Option St3) : Option St3 := match v with
  | some (.long x) => K x
  | _ => none
def gR (v : Option Value) (K : Nat → Option St3) : Option St3 := match v with
  | some (.ref x) => K x
  | _ => none
def s1 (S : List Value) (K : Int32 → List Value → Option St3) : Option St3 := match S with
  | .int x :: S => K x S
  | _ => none
def s2 (S : List Value) (K : Int32 → Int32 → List Value → Option St3) : Option St3 := match S with
  | .int y :: .int x :: S => K x y S
  | _ => none
def s1L (S : List Value) (K : Int64 → List Value → Option St3) : Option St3 := match S with
  | .long x :: S => K x S
  | _ => none
def s2L (S : List Value) (K : Int64 → Int64 → List Value → Option St3) : Option St3 := match S with
  | .long y :: .long x :: S => K x y S
  | _ => none
def acp (L : Lo) (S : List Value) (M : Mem) : Option St3 := match S with
  | .int n :: .int dp :: .ref cd :: .int sp :: .ref cs :: S => match alen cs, alen cd with
    | some n0, some n1 => if ¬ sp < 0 ∧ ¬ dp < 0 ∧ ¬ n < 0 ∧ sp.toNatClampNeg + n.toNatClampNeg ≤ n0 ∧ dp.toNatClampNeg + n.toNatClampNeg ≤ n1 ∧ S.length ≤ 4 then some (L, S, cpyM M cs cd sp.toNatClampNeg dp.toNatClampNeg n.toNatClampNeg) else none
    | _, _ => none
  | _ => none
def mm2 (S : List Value) (K : Int32 → Int32 → List Value → Option St3) : Option St3 := match S with
  | .int y :: .int x :: S => if S.length ≤ 4 then K x y S else none
  | _ => none
/-- what an instruction that neither calls, nor branches, nor returns does -/
def eff (o : Op) (L : Lo) (S : List Value) (M : Mem) : Option St3 := match o.1 with
  | .iconst _ => some (L, .int (cI o.2.1 o.2.2.1) :: S, M)
  | .bipush _ => some (L, .int (cI o.2.1 o.2.2.1) :: S, M)
  | .sipush _ => some (L, .int (cI o.2.1 o.2.2.1) :: S, M)
  | .ldc _ => some (L, .int (cI o.2.1 o.2.2.1) :: S, M)
  | .ldc_w _ => some (L, .int (cI o.2.1 o.2.2.1) :: S, M)
  | .lconst _ => some (L, .long (cL o.2.1 o.2.2.1) :: S, M)
  | .ldc2_w _ => some (L, .long (cL o.2.1 o.2.2.1) :: S, M)
  | .iload _ => gI (lget L o.2.1) fun x => some (L, .int x :: S, M)
  | .iload_n _ => gI (lget L o.2.1) fun x => some (L, .int x :: S, M)
  | .lload _ => gL (lget L o.2.1) fun x => some (L, .long x :: S, M)
  | .lload_n _ => gL (lget L o.2.1) fun x => some (L, .long x :: S, M)
  | .aload _ => gR (lget L o.2.1) fun x => some (L, .ref x :: S, M)
  | .aload_n _ => gR (lget L o.2.1) fun x => some (L, .ref x :: S, M)
  | .istore _ => s1 S fun x S => some (lput (lkill L o.2.1) o.2.1 (some (.int x)), S, M)
  | .istore_n _ => s1 S fun x S => some (lput (lkill L o.2.1) o.2.1 (some (.int x)), S, M)
  | .lstore _ => s1L S fun x S => some (lput (lput (lkill L o.2.1) o.2.1 (some (.long x))) (o.2.1 + 1) none, S, M)
  | .lstore_n _ => s1L S fun x S => some (lput (lput (lkill L o.2.1) o.2.1 (some (.long x))) (o.2.1 + 1) none, S, M)
  | .astore _ => match S with
    | .ref c :: S => some (lput (lkill L o.2.1) o.2.1 (some (.ref c)), S, M)
    | _ => none
  | .astore_n _ => match S with
    | .ref c :: S => some (lput (lkill L o.2.1) o.2.1 (some (.ref c)), S, M)
    | _ => none
  | .iinc _ _ => gI (lget L o.2.1) fun x => some (lput (lkill L o.2.1) o.2.1 (some (.int (x + cI o.2.2.1 o.2.2.2))), S, M)
  | .iadd => s2 S fun x y S => some (L, .int (x + y) :: S, M)
  | .isub => s2 S fun x y S => some (L, .int (x - y) :: S, M)
  | .imul => s2 S fun x y S => some (L, .int (x * y) :: S, M)
  | .idiv => s2 S fun x y S => if y = 0 then none else some (L, .int (x / y) :: S, M)
  | .irem => s2 S fun x y S => if y = 0 then none else some (L, .int (x - x / y * y) :: S, M)
  | .iand => s2 S fun x y S => some (L, .int (x &&& y) :: S, M)
  | .ior => s2 S fun x y S => some (L, .int (x ||| y) :: S, M)
  | .ixor => s2 S fun x y S => some (L, .int (x ^^^ y) :: S, M)
  | .ishl => s2 S fun x y S => some (L, .int (x <<< (y &&& 31)) :: S, M)
  | .ishr => s2 S fun x y S => some (L, .int (x >>> (y &&& 31)) :: S, M)
  | .iushr => s2 S fun x y S => some (L, .int (x.toUInt32 >>> (y.toUInt32 &&& Int32.toUInt32 31)).toInt32 :: S, M)
  | .ladd => s2L S fun x y S => some (L, .long (x + y) :: S, M)
  | .lsub => s2L S fun x y S => some (L, .long (x - y) :: S, M)
  | .lmul => s2L S fun x y S => some (L, .long (x * y) :: S, M)
  | .ldiv => s2L S fun x y S => if y = 0 then none else some (L, .long (x / y) :: S, M)
  | .lrem => s2L S fun x y S => if y = 0 then none else some (L, .long (x - x / y * y) :: S, M)
  | .lshl => match S with
    | .int y :: .long x :: S => some (L, .long (x <<< (y.toInt64 &&& 63)) :: S, M)
    | _ => none
  | .i2l => s1 S fun x S => some (L, .long x.toInt64 :: S, M)
  | .i2b => s1 S fun x S => some (L, .int x.toInt8.toInt32 :: S, M)
  | .i2s => s1 S fun x S => some (L, .int x.toInt16.toInt32 :: S, M)
  | .lcmp => s2L S fun x y S => some (L, .int (lg_cmp x y) :: S, M)
  | .dup => match S with
    | .int x :: S => some (L, .int x :: .int x :: S, M)
    | .ref x :: S => some (L, .ref x :: .ref x :: S, M)
    | _ => none
  | .dup2 => match S with
    | .int x :: .int y :: S => some (L, .int x :: .int y :: .int x :: .int y :: S, M)
    | .int x :: .ref y :: S => some (L, .int x :: .ref y :: .int x :: .ref y :: S, M)
    | .long x :: S => some (L, .long x :: .long x :: S, M)
    | _ => none
  | .pop => s1 S fun _ S => some (L, S, M)
  | .getfield _ => match S with
    | .ref c :: S => match fld c o.2.1 o.2.2.1 with
      | some f => some (L, fval M c f :: S, M)
      | none => none
    | _ => none
  | .putfield _ => match S with
    | v :: .ref c :: S => match fld c o.2.1 o.2.2.1 with
      | some f => match fput M c f v with
        | some M' => some (L, S, M')
        | none => none
      | none => none
    | _ => none
  | .iaload => match S with
    | .int i :: .ref c :: S => match alen c with
      | some n => if i < 0 ∨ n ≤ i.toNatClampNeg then none else some (L, .int (M c i.toNatClampNeg) :: S, M)
      | none => none
    | _ => none
  | .iastore => match S with
    | .int x :: .int i :: .ref c :: S => match alen c with
      | some n => if i < 0 ∨ n ≤ i.toNatClampNeg then none else some (L, S, stM M c i.toNatClampNeg x)
      | none => none
    | _ => none
  | .aaload => match S with
    | .int i :: .ref c :: S => if i < 0 ∨ (rarr c).length ≤ i.toNatClampNeg then none else some (L, .ref ((rarr c).getD i.toNatClampNeg 0) :: S, M)
    | _ => none
  | .arraylength => match S with
    | .ref c :: S => match alen c with
      | some n => some (L, .int (nI n) :: S, M)
      | none => none
    | _ => none
  | .invokestatic _ => if o.2.1 = 999 then acp L S M
    else if o.2.1 = 998 then mm2 S fun x y S => some (L, .int (if y < x then y else x) :: S, M)
    else if o.2.1 = 997 then mm2 S fun x y S => some (L, .int (if x < y then y else x) :: S, M)
    else none
  | _ => none
def entL : List Value → Lo
  | [] => []
  | .long x :: vs => some (.long x) :: none :: entL vs
  | .double x :: vs => some (.double x) :: none :: entL vs
  | v :: vs => some v :: entL vs
def ent (z : Nat) (vs : List Value) : Lo := entL vs ++ List.replicate (mL z - (entL vs).length) none
abbrev RcT : Type := Nat → List Op → Nat → Lo → List Value → Mem → Option Rs
def cal (rc : RcT) (z : Nat) (as : List Value) (M : Mem) : Option Rs := if (ent z as).length = mL z then rc z [] 0 (ent z as) [] M else none
def onE (x : Option St3) (K : Lo → List Value → Mem → Option Rs) : Option Rs := match x with
  | some q => K q.1 q.2.1 q.2.2
  | none => none
def onC (x : Option Rs) (K : Option Value → Mem → Option Rs) : Option Rs := match x with
  | some q => K q.1 q.2
  | none => none
def onB (x : Option (Bool × List Value)) (K1 K2 : List Value → Option Rs) (K : Option Rs) : Option Rs := match x with
  | some q => if q.1 then K1 q.2 else K2 q.2
  | none => K
def rtI (a : Nat) (S : List Value) (M : Mem) : Option Rs := match S with
  | [.int x] => if a = 0 ∨ x = 0 ∨ x = 1 then some (some (.int x), M) else none
  | _ => none
def rtL (S : List Value) (M : Mem) : Option Rs := match S with
  | [.long x] => some (some (.long x), M)
  | _ => none
def rtR (S : List Value) (M : Mem) : Option Rs := match S with
  | [.ref x] => some (some (.ref x), M)
  | _ => none
def rtV (S : List Value) (M : Mem) : Option Rs := match S with
  | [] => some (none, M)
  | _ => none
def swI (S : List Value) (K : Int32 → List Value → Option Rs) : Option Rs := match S with
  | .int x :: S => K x S
  | _ => none
def ivI (S : List Value) (K : Nat → List Value → Option Rs) : Option Rs := match S with
  | .ref c :: S => K c S
  | _ => none
def stp (rc : RcT) (y : Nat) (is : List Op) (ft : Nat) (L : Lo) (S : List Value) (M : Mem) : Option Rs := match is with
  | [] => rc y (blk y ft).1 (blk y ft).2 L S M
  | o :: is => match o.1 with
    | .ireturn => rtI o.2.1 S M
    | .lreturn => rtL S M
    | .areturn => rtR S M
    | .return_ => rtV S M
    | .goto _ => rc y [] o.2.1 L S M
    | .tableswitch _ _ _ _ => swI S fun x S => rc y [] (swt o.2.1 x) L S M
    | .invokevirtual _ => ivI (S.drop o.2.2.1) fun c S' => if cls c = o.2.2.2 ∧ S'.length ≤ 4 then
          onC (cal rc o.2.1 (.ref c :: (S.take o.2.2.1).reverse) M) fun r M' => rc y is ft L (r.toList ++ S') M'
        else none
    | .invokestatic _ =>
      if 997 ≤ o.2.1 then onE (eff o L S M) fun L' S' M' => rc y is ft L' S' M'
      else if o.2.2.1 ≤ S.length ∧ (S.drop o.2.2.1).length ≤ 4 then
        onC (cal rc o.2.1 (S.take o.2.2.1).reverse M) fun r M' => rc y is ft L (r.toList ++ S.drop o.2.2.1) M'
      else none
    | _ => onB (brI o S) (fun S' => rc y [] o.2.1 L S' M) (fun S' => rc y is ft L S' M) (onE (eff o L S M) fun L' S' M' => rc y is ft L' S' M')
/-- the run: fuel, method, the rest of a block, the block behind it, locals, stack, memory -/
def arun : Nat → RcT
  | 0 => fun _ _ _ _ _ _ => none
  | n + 1 => fun y is ft L S M => stp (arun n) y is ft L S M
def WP (y : Nat) (is : List Op) (ft : Nat) (L : Lo) (S : List Value) (M : Mem) (Q : Option Value → Mem → Prop) : Prop := ∃ n r, arun n y is ft L S M = some r ∧ Q r.1 r.2
def Ct (z : Nat) (as : List Value) (M : Mem) (Q : Option Value → Mem → Prop) : Prop := ∃ n r, cal (arun n) z as M = some r ∧ Q r.1 r.2
/-- the call's one outcome -/
def Ev (z : Nat) (as : List Value) (M : Mem) (r : Option Value) (M' : Mem) : Prop := ∃ n, cal (arun n) z as M = some (r, M')
theorem onE_mono {x : Option St3} {K K' : Lo → List Value → Mem → Option Rs} {r : Rs} (hk : ∀ L S M r, K L S M = some r → K' L S M = some r) (h : onE x K = some r) : onE x K' = some r := by
  cases x with
  | none => cases h
  | some q => exact hk _ _ _ _ h
theorem onC_mono {x x' : Option Rs} {K K' : Option Value → Mem → Option Rs} {r : Rs} (hx : ∀ r, x = some r → x' = some r) (hk : ∀ v M r, K v M = some r → K' v M = some r) (h : onC x K = some r) : onC x' K' = some r := by
  cases x with
  | none => cases h
  | some q => rw [hx q rfl]; exact hk _ _ _ h
theorem onB_mono {x : Option (Bool × List Value)} {K1 K2 K1' K2' : List Value → Option Rs} {K K' : Option Rs} {r : Rs} (h1 : ∀ S r, K1 S = some r → K1' S = some r) (h2 : ∀ S r, K2 S = some r → K2' S = some r) (hk : K = some r → K' = some r) (h : onB x K1 K2 K = some r) : onB x K1' K2' K' = some r := by
  cases x with
  | none => exact hk h
  | some q =>
    obtain ⟨b, S⟩ := q
    cases b
    · exact h2 _ _ h
    · exact h1 _ _ h
theorem cal_mono {rc rc' : RcT} (ih : ∀ y is ft L S M r, rc y is ft L S M = some r → rc' y is ft L S M = some r) {z : Nat} {as : List Value} {M : Mem} {r : Rs} (h : cal rc z as M = some r) : cal rc' z as M = some r := by
  unfold cal at h ⊢
  split at h
  · rename_i hc; rw [if_pos hc]; exact ih _ _ _ _ _ _ _ h
  · cases h
theorem stp_mono {rc rc' : RcT} (ih : ∀ y is ft L S M r, rc y is ft L S M = some r → rc' y is ft L S M = some r) {y : Nat} {is : List Op} {ft : Nat} {L : Lo} {S : List Value} {M : Mem} {r : Rs} (h : stp rc y is ft L S M = some r) : stp rc' y is ft L S M = some r := by
  cases is with
  | nil => exact ih _ _ _ _ _ _ _ h
  | cons o is =>
    obtain ⟨i, a, b, c⟩ := o
    cases i with
    | ireturn => exact h
    | lreturn => exact h
    | areturn => exact h
    | return_ => exact h
    | goto _ => exact ih _ _ _ _ _ _ _ h
    | tableswitch _ _ _ _ =>
      dsimp only [stp] at h ⊢
      unfold swI at h ⊢
      split at h
      · exact ih _ _ _ _ _ _ _ h
      · cases h
    | invokevirtual _ =>
      dsimp only [stp] at h ⊢
      unfold ivI at h ⊢
      split at h
      · dsimp only at h
        split at h
        · rename_i hc; dsimp only; rw [if_pos hc]; exact onC_mono (fun _ => cal_mono ih) (fun _ _ _ => ih _ _ _ _ _ _ _) h
        · cases h
      · cases h
    | invokestatic _ =>
      dsimp only [stp] at h ⊢
      split at h
      · rename_i hc; rw [if_pos hc]; exact onE_mono (fun _ _ _ _ => ih _ _ _ _ _ _ _) h
      · rename_i hc; rw [if_neg hc]
        split at h
        · rename_i hc; rw [if_pos hc]; exact onC_mono (fun _ => cal_mono ih) (fun _ _ _ => ih _ _ _ _ _ _ _) h
        · cases h
    | _ =>
      dsimp only [stp] at h ⊢
      exact onB_mono (K1 := fun S' => rc y [] a L S' M) (K2 := fun S' => rc y is ft L S' M) (fun _ _ => ih _ _ _ _ _ _ _) (fun _ _ => ih _ _ _ _ _ _ _) (onE_mono (K := fun L' S' M' => rc y is ft L' S' M') (fun _ _ _ _ => ih _ _ _ _ _ _ _)) h
theorem arun_mono : ∀ (n y : Nat) (is : List Op) (ft : Nat) (L : Lo) (S : List Value) (M : Mem) (r : Rs), arun n y is ft L S M = some r → arun (n + 1) y is ft L S M = some r
  | 0 => fun _ _ _ _ _ _ _ h => by cases h
  | n + 1 => fun _ _ _ _ _ _ _ h => stp_mono (rc := arun n) (rc' := arun (n + 1)) (arun_mono n) h
theorem arun_le {n k y : Nat} {is : List Op} {ft : Nat} {L : Lo} {S : List Value} {M : Mem} {r : Rs} (h : arun n y is ft L S M = some r) (hk : n ≤ k) : arun k y is ft L S M = some r := by
  induction hk with
  | refl => exact h
  | step _ ih => exact arun_mono _ _ _ _ _ _ _ _ ih
theorem cal_le {n k z : Nat} {as : List Value} {M : Mem} {r : Rs} (h : cal (arun n) z as M = some r) (hk : n ≤ k) : cal (arun k) z as M = some r := cal_mono (fun _ _ _ _ _ _ _ q => arun_le q hk) h
