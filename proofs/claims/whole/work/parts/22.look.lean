/-! looking at a summer that has run: short orders, heights, what was seen -/
def popc (n : Nat) : Nat := smN (fun i => (n.testBit i).toNat) 12
def bcf (x : Int32) : Int32 :=
  let a := x - ((x.toUInt32 >>> ((nI 1).toUInt32 &&& Int32.toUInt32 31)).toInt32 &&& nI 1431655765)
  let b := (a &&& nI 858993459) + ((a.toUInt32 >>> ((nI 2).toUInt32 &&& Int32.toUInt32 31)).toInt32 &&& nI 858993459)
  let c := (b + (b.toUInt32 >>> ((nI 4).toUInt32 &&& Int32.toUInt32 31)).toInt32) &&& nI 252645135
  let d := c + (c.toUInt32 >>> ((nI 8).toUInt32 &&& Int32.toUInt32 31)).toInt32
  let e := d + (d.toUInt32 >>> ((nI 16).toUInt32 &&& Int32.toUInt32 31)).toInt32
  e &&& nI 63
theorem bcf_all : (List.range 4096).all (fun n => decide (bcf (nI n) = nI (popc n))) = true := by decide +kernel
theorem s_bitCount {n : Nat} (h : n < 2 ^ 12) (M : Mem) : Ev 196 [.int (nI n)] M (some (.int (nI (popc n)))) M := by
  apply Ev.of
  simp only [E_196, B_196_0, r_iconst_p, r_iconst_m, r_bipush_p, r_bipush_m, r_sipush_p, r_sipush_m, r_ldc_p, r_ldc_m, r_ldc_w_p, r_ldc_w_m, r_lconst_p, r_lconst_m, r_ldc2_w_p, r_ldc2_w_m, r_iload, r_iload_n, r_lload, r_lload_n, r_aload, r_aload_n, r_istore, r_istore_n, r_astore, r_astore_n, r_lstore, r_lstore_n, r_iinc_p, r_iinc_m, r_iadd, r_isub, r_imul, r_iand, r_ior, r_ixor, r_ishl, r_ishr, r_iushr, r_idiv, r_irem, r_ladd, r_lsub, r_lmul, r_ldiv, r_lrem, r_lshl, r_lcmp, r_i2l, r_i2b, r_i2s, r_dup_i, r_dup_r, r_dup2_ii, r_dup2_ir, r_dup2_l, r_pop, r_getfield, r_putfield, r_iaload, r_iastore, r_aaload, r_arraylength, r_if_eq, r_icmp_eq, r_if_ne, r_icmp_ne, r_if_lt, r_icmp_lt, r_if_ge, r_icmp_ge, r_if_gt, r_icmp_gt, r_if_le, r_icmp_le, r_goto, r_switch, r_ireturn0, r_ireturn1, r_lreturn, r_areturn, r_return, r_inv0, r_inv1, r_inv2, r_inv3, r_inv4, r_inv5, r_min, r_max, r_acopy, onI_s, onL_s, onR_s, onO_s, fv0, fv1, fv2, fv3, fp1, fp20, fp21, fp3, tl_s, tl_n, lg0, lg1, lg2, lg3, lg4, lg5, lg6, lg7, lg8, lg9, lg10, lg11, lg12, lg13, lg14, lg15, lg16, lg17, ls0, ls1, ls2, ls3, ls4, ls5, ls6, ls7, ls8, ls9, ls10, ls11, ls12, ls13, ls14, ls15, ls16, ls17, lk0, lk1, lk2, lk3, lk4, lk5, lk6, lk7, lk8, lk9, lk10, lk11, lk12, lk13, lk14, lk15, lk16, lk17, kl_n, kl_i, kl_r, kl_l, Nat.reduceAdd, Nat.reduceLeDiff, not_false_eq_true, r_ins0, r_ins1, r_ins2, r_ins3, r_ins4, r_ins5]
  exact ⟨congrArg (fun x => some (Value.int x)) (of_decide_eq_true (List.all_eq_true.mp bcf_all n (List.mem_range.mpr h))), trivial⟩
/-- how many are short -/
def shN (I : Inp) : Nat := smN (fun i => if (yr I 24).2 i < I.2.2.2.1 i then 1 else 0) I.2.1
theorem smN_zero {f : Nat → Nat} : ∀ n, (∀ i, i < n → f i = 0) → smN f n = 0
  | 0, _ => rfl
  | n + 1, h => by rw [smN_s, smN_zero n (fun i hi => h i (by omega)), h n (by omega)]
theorem pop_sh {I : Inp} {sb : Nat} (hn : I.2.1 ≤ 12) (h : ∀ j, sb.testBit j = decide (j < I.2.1 ∧ (yr I 24).2 j < I.2.2.2.1 j)) : popc sb = shN I := by
  unfold popc shN
  rw [show 12 = I.2.1 + (12 - I.2.1) by omega, smN_split]
  rw [smN_zero (12 - I.2.1) (fun i _ => by rw [h, decide_eq_false (by omega)]; rfl), Nat.add_zero]
  apply smN_congr
  intro i hi
  rw [h]
  by_cases q : (yr I 24).2 i < I.2.2.2.1 i
  · rw [if_pos q, decide_eq_true ⟨hi, q⟩]; rfl
  · rw [if_neg q, decide_eq_false (fun w => q w.2)]; rfl
theorem shN_le {I : Inp} (hn : I.2.1 ≤ 12) : shN I ≤ 12 := by
  have := smN_le (f := fun i => if (yr I 24).2 i < I.2.2.2.1 i then 1 else 0) (k := 1) I.2.1 (fun i _ => by split <;> omega)
  unfold shN
  omega
theorem sb_zero {sb : Nat} (h8 : sb < 2 ^ 12) : sb = 0 ↔ popc sb = 0 := by
  constructor
  · intro h; subst h; decide
  · intro h
    have key : (List.range 4096).all (fun n => decide (popc n = 0 → n = 0)) = true := by decide +kernel
    exact of_decide_eq_true (List.all_eq_true.mp key sb (List.mem_range.mpr h8)) h
theorem s_short_21 {I : Inp} {k : Nat} {M : Mem} (hI : okI I) (h : Oc 21 k I M) : Ev 48 [.ref 21] M (some (.int (nI (shN I)))) M := by
  obtain ⟨-, -, -, -, ⟨sb, h7, h8, h9⟩, -⟩ := h
  apply Ev.of
  simp only [E_48, B_48_0, cP, cS, r_iconst_p, r_iconst_m, r_bipush_p, r_bipush_m, r_sipush_p, r_sipush_m, r_ldc_p, r_ldc_m, r_ldc_w_p, r_ldc_w_m, r_lconst_p, r_lconst_m, r_ldc2_w_p, r_ldc2_w_m, r_iload, r_iload_n, r_lload, r_lload_n, r_aload, r_aload_n, r_istore, r_istore_n, r_astore, r_astore_n, r_lstore, r_lstore_n, r_iinc_p, r_iinc_m, r_iadd, r_isub, r_imul, r_iand, r_ior, r_ixor, r_ishl, r_ishr, r_iushr, r_idiv, r_irem, r_ladd, r_lsub, r_lmul, r_ldiv, r_lrem, r_lshl, r_lcmp, r_i2l, r_i2b, r_i2s, r_dup_i, r_dup_r, r_dup2_ii, r_dup2_ir, r_dup2_l, r_pop, r_getfield, r_putfield, r_iaload, r_iastore, r_aaload, r_arraylength, r_if_eq, r_icmp_eq, r_if_ne, r_icmp_ne, r_if_lt, r_icmp_lt, r_if_ge, r_icmp_ge, r_if_gt, r_icmp_gt, r_if_le, r_icmp_le, r_goto, r_switch, r_ireturn0, r_ireturn1, r_lreturn, r_areturn, r_return, r_inv0, r_inv1, r_inv2, r_inv3, r_inv4, r_inv5, r_min, r_max, r_acopy, onI_s, onL_s, onR_s, onO_s, fv0, fv1, fv2, fv3, fp1, fp20, fp21, fp3, tl_s, tl_n, lg0, lg1, lg2, lg3, lg4, lg5, lg6, lg7, lg8, lg9, lg10, lg11, lg12, lg13, lg14, lg15, lg16, lg17, ls0, ls1, ls2, ls3, ls4, ls5, ls6, ls7, ls8, ls9, ls10, ls11, ls12, ls13, ls14, ls15, ls16, ls17, lk0, lk1, lk2, lk3, lk4, lk5, lk6, lk7, lk8, lk9, lk10, lk11, lk12, lk13, lk14, lk15, lk16, lk17, kl_n, kl_i, kl_r, kl_l, Nat.reduceAdd, Nat.reduceLeDiff, not_false_eq_true, r_ins0, r_ins1, r_ins2, r_ins3, r_ins4, r_ins5]
  rw [h7, (s_bitCount h8 M).ct, pop_sh hI.2.1 h9]
  simp only [B_48_0, cP, cS, r_iconst_p, r_iconst_m, r_bipush_p, r_bipush_m, r_sipush_p, r_sipush_m, r_ldc_p, r_ldc_m, r_ldc_w_p, r_ldc_w_m, r_lconst_p, r_lconst_m, r_ldc2_w_p, r_ldc2_w_m, r_iload, r_iload_n, r_lload, r_lload_n, r_aload, r_aload_n, r_istore, r_istore_n, r_astore, r_astore_n, r_lstore, r_lstore_n, r_iinc_p, r_iinc_m, r_iadd, r_isub, r_imul, r_iand, r_ior, r_ixor, r_ishl, r_ishr, r_iushr, r_idiv, r_irem, r_ladd, r_lsub, r_lmul, r_ldiv, r_lrem, r_lshl, r_lcmp, r_i2l, r_i2b, r_i2s, r_dup_i, r_dup_r, r_dup2_ii, r_dup2_ir, r_dup2_l, r_pop, r_getfield, r_putfield, r_iaload, r_iastore, r_aaload, r_arraylength, r_if_eq, r_icmp_eq, r_if_ne, r_icmp_ne, r_if_lt, r_icmp_lt, r_if_ge, r_icmp_ge, r_if_gt, r_icmp_gt, r_if_le, r_icmp_le, r_goto, r_switch, r_ireturn0, r_ireturn1, r_lreturn, r_areturn, r_return, r_inv0, r_inv1, r_inv2, r_inv3, r_inv4, r_inv5, r_min, r_max, r_acopy, onI_s, onL_s, onR_s, onO_s, fv0, fv1, fv2, fv3, fp1, fp20, fp21, fp3, tl_s, tl_n, lg0, lg1, lg2, lg3, lg4, lg5, lg6, lg7, lg8, lg9, lg10, lg11, lg12, lg13, lg14, lg15, lg16, lg17, ls0, ls1, ls2, ls3, ls4, ls5, ls6, ls7, ls8, ls9, ls10, ls11, ls12, ls13, ls14, ls15, ls16, ls17, lk0, lk1, lk2, lk3, lk4, lk5, lk6, lk7, lk8, lk9, lk10, lk11, lk12, lk13, lk14, lk15, lk16, lk17, kl_n, kl_i, kl_r, kl_l, Nat.reduceAdd, Nat.reduceLeDiff, not_false_eq_true, r_ins0, r_ins1, r_ins2, r_ins3, r_ins4, r_ins5]
  simp
theorem s_short_38 {I : Inp} {k : Nat} {M : Mem} (hI : okI I) (h : Oc 38 k I M) : Ev 48 [.ref 38] M (some (.int (nI (shN I)))) M := by
  obtain ⟨-, -, -, -, ⟨sb, h7, h8, h9⟩, -⟩ := h
  apply Ev.of
  simp only [E_48, B_48_0, cP, cS, r_iconst_p, r_iconst_m, r_bipush_p, r_bipush_m, r_sipush_p, r_sipush_m, r_ldc_p, r_ldc_m, r_ldc_w_p, r_ldc_w_m, r_lconst_p, r_lconst_m, r_ldc2_w_p, r_ldc2_w_m, r_iload, r_iload_n, r_lload, r_lload_n, r_aload, r_aload_n, r_istore, r_istore_n, r_astore, r_astore_n, r_lstore, r_lstore_n, r_iinc_p, r_iinc_m, r_iadd, r_isub, r_imul, r_iand, r_ior, r_ixor, r_ishl, r_ishr, r_iushr, r_idiv, r_irem, r_ladd, r_lsub, r_lmul, r_ldiv, r_lrem, r_lshl, r_lcmp, r_i2l, r_i2b, r_i2s, r_dup_i, r_dup_r, r_dup2_ii, r_dup2_ir, r_dup2_l, r_pop, r_getfield, r_putfield, r_iaload, r_iastore, r_aaload, r_arraylength, r_if_eq, r_icmp_eq, r_if_ne, r_icmp_ne, r_if_lt, r_icmp_lt, r_if_ge, r_icmp_ge, r_if_gt, r_icmp_gt, r_if_le, r_icmp_le, r_goto, r_switch, r_ireturn0, r_ireturn1, r_lreturn, r_areturn, r_return, r_inv0, r_inv1, r_inv2, r_inv3, r_inv4, r_inv5, r_min, r_max, r_acopy, onI_s, onL_s, onR_s, onO_s, fv0, fv1, fv2, fv3, fp1, fp20, fp21, fp3, tl_s, tl_n, lg0, lg1, lg2, lg3, lg4, lg5, lg6, lg7, lg8, lg9, lg10, lg11, lg12, lg13, lg14, lg15, lg16, lg17, ls0, ls1, ls2, ls3, ls4, ls5, ls6, ls7, ls8, ls9, ls10, ls11, ls12, ls13, ls14, ls15, ls16, ls17, lk0, lk1, lk2, lk3, lk4, lk5, lk6, lk7, lk8, lk9, lk10, lk11, lk12, lk13, lk14, lk15, lk16, lk17, kl_n, kl_i, kl_r, kl_l, Nat.reduceAdd, Nat.reduceLeDiff, not_false_eq_true, r_ins0, r_ins1, r_ins2, r_ins3, r_ins4, r_ins5]
  rw [h7, (s_bitCount h8 M).ct, pop_sh hI.2.1 h9]
  simp only [B_48_0, cP, cS, r_iconst_p, r_iconst_m, r_bipush_p, r_bipush_m, r_sipush_p, r_sipush_m, r_ldc_p, r_ldc_m, r_ldc_w_p, r_ldc_w_m, r_lconst_p, r_lconst_m, r_ldc2_w_p, r_ldc2_w_m, r_iload, r_iload_n, r_lload, r_lload_n, r_aload, r_aload_n, r_istore, r_istore_n, r_astore, r_astore_n, r_lstore, r_lstore_n, r_iinc_p, r_iinc_m, r_iadd, r_isub, r_imul, r_iand, r_ior, r_ixor, r_ishl, r_ishr, r_iushr, r_idiv, r_irem, r_ladd, r_lsub, r_lmul, r_ldiv, r_lrem, r_lshl, r_lcmp, r_i2l, r_i2b, r_i2s, r_dup_i, r_dup_r, r_dup2_ii, r_dup2_ir, r_dup2_l, r_pop, r_getfield, r_putfield, r_iaload, r_iastore, r_aaload, r_arraylength, r_if_eq, r_icmp_eq, r_if_ne, r_icmp_ne, r_if_lt, r_icmp_lt, r_if_ge, r_icmp_ge, r_if_gt, r_icmp_gt, r_if_le, r_icmp_le, r_goto, r_switch, r_ireturn0, r_ireturn1, r_lreturn, r_areturn, r_return, r_inv0, r_inv1, r_inv2, r_inv3, r_inv4, r_inv5, r_min, r_max, r_acopy, onI_s, onL_s, onR_s, onO_s, fv0, fv1, fv2, fv3, fp1, fp20, fp21, fp3, tl_s, tl_n, lg0, lg1, lg2, lg3, lg4, lg5, lg6, lg7, lg8, lg9, lg10, lg11, lg12, lg13, lg14, lg15, lg16, lg17, ls0, ls1, ls2, ls3, ls4, ls5, ls6, ls7, ls8, ls9, ls10, ls11, ls12, ls13, ls14, ls15, ls16, ls17, lk0, lk1, lk2, lk3, lk4, lk5, lk6, lk7, lk8, lk9, lk10, lk11, lk12, lk13, lk14, lk15, lk16, lk17, kl_n, kl_i, kl_r, kl_l, Nat.reduceAdd, Nat.reduceLeDiff, not_false_eq_true, r_ins0, r_ins1, r_ins2, r_ins3, r_ins4, r_ins5]
  simp
theorem s_highIn {C : Col} (hC : okC6 C) {c : Nat} (hc : c < 6) (M : Mem) : Ev 40 [.int (nI (shp C 6)), .int (nI c)] M (some (.int (nI (C c).length))) M := by
  apply Ev.of
  have hl := shp_lt hC 6
  simp only [E_40, B_40_0, r_iconst_p, r_iconst_m, r_bipush_p, r_bipush_m, r_sipush_p, r_sipush_m, r_ldc_p, r_ldc_m, r_ldc_w_p, r_ldc_w_m, r_lconst_p, r_lconst_m, r_ldc2_w_p, r_ldc2_w_m, r_iload, r_iload_n, r_lload, r_lload_n, r_aload, r_aload_n, r_istore, r_istore_n, r_astore, r_astore_n, r_lstore, r_lstore_n, r_iinc_p, r_iinc_m, r_iadd, r_isub, r_imul, r_iand, r_ior, r_ixor, r_ishl, r_ishr, r_iushr, r_idiv, r_irem, r_ladd, r_lsub, r_lmul, r_ldiv, r_lrem, r_lshl, r_lcmp, r_i2l, r_i2b, r_i2s, r_dup_i, r_dup_r, r_dup2_ii, r_dup2_ir, r_dup2_l, r_pop, r_getfield, r_putfield, r_iaload, r_iastore, r_aaload, r_arraylength, r_if_eq, r_icmp_eq, r_if_ne, r_icmp_ne, r_if_lt, r_icmp_lt, r_if_ge, r_icmp_ge, r_if_gt, r_icmp_gt, r_if_le, r_icmp_le, r_goto, r_switch, r_ireturn0, r_ireturn1, r_lreturn, r_areturn, r_return, r_inv0, r_inv1, r_inv2, r_inv3, r_inv4, r_inv5, r_min, r_max, r_acopy, onI_s, onL_s, onR_s, onO_s, fv0, fv1, fv2, fv3, fp1, fp20, fp21, fp3, tl_s, tl_n, lg0, lg1, lg2, lg3, lg4, lg5, lg6, lg7, lg8, lg9, lg10, lg11, lg12, lg13, lg14, lg15, lg16, lg17, ls0, ls1, ls2, ls3, ls4, ls5, ls6, ls7, ls8, ls9, ls10, ls11, ls12, ls13, ls14, ls15, ls16, ls17, lk0, lk1, lk2, lk3, lk4, lk5, lk6, lk7, lk8, lk9, lk10, lk11, lk12, lk13, lk14, lk15, lk16, lk17, kl_n, kl_i, kl_r, kl_l, Nat.reduceAdd, Nat.reduceLeDiff, not_false_eq_true, r_ins0, r_ins1, r_ins2, r_ins3, r_ins4, r_ins5]
  rw [q_mul, shr_nI (by omega) (by omega), q_and, shp_bit hC 6 c hc]
  exact ⟨rfl, trivial⟩
/-- what was seen (cells 16 to 19) -/
def RSn (M : Mem) (ns : Nat) (nw nc nv : Nat → Nat) : Prop := M 16 3 = nI ns ∧ ns ≤ 8 ∧ (∀ i, i < ns → M 17 i = nI (nw i) ∧ M 18 i = nI (nc i) ∧ M 19 i = nI (nv i)) ∧ ∀ i, nw i ≤ 23 ∧ nc i ≤ 5 ∧ nv i ≤ 6
theorem RSn.fr {l : List Nat} {M N : Mem} (h : Fr l M N) (h12 : 16 ∉ l) (h13 : 17 ∉ l) (h14 : 18 ∉ l) (h15 : 19 ∉ l) {ne : Nat} {ek ew ec : Nat → Nat} (H : RSn M ne ek ew ec) : RSn N ne ek ew ec := by
  unfold RSn
  rw [h 16 h12, h 17 h13, h 18 h14, h 19 h15]
  exact H
def fit (I : Inp) (nw nc nv : Nat → Nat) : Nat → Bool
  | 0 => true
  | n + 1 => fit I nw nc nv n && decide (((yr I (nw n + 1)).1 (nc n)).length = nv n)
theorem fit_F {I : Inp} {nw nc nv : Nat → Nat} : ∀ {n i : Nat}, i < n → ¬ ((yr I (nw i + 1)).1 (nc i)).length = nv i → fit I nw nc nv n = false
  | 0, i, h, _ => absurd h (Nat.not_lt_zero i)
  | n + 1, i, h, hn => by
    unfold fit
    by_cases e : i = n
    · subst e; rw [decide_eq_false hn, Bool.and_false]
    · rw [fit_F (n := n) (by omega) hn, Bool.false_and]
theorem s_fits {I : Inp} {k ns : Nat} {nw nc nv : Nat → Nat} {M : Mem} (hI : okI I) (h : Oc 21 k I M) (hS : RSn M ns nw nc nv) : Ev 26 [.ref 16, .ref 33] M (some (.int (nI (fit I nw nc nv ns).toNat))) M := by
  apply Ev.of
  simp only [E_26, B_26_0, B_26_2, B_26_3, cB, cP, r_iconst_p, r_iconst_m, r_bipush_p, r_bipush_m, r_sipush_p, r_sipush_m, r_ldc_p, r_ldc_m, r_ldc_w_p, r_ldc_w_m, r_lconst_p, r_lconst_m, r_ldc2_w_p, r_ldc2_w_m, r_iload, r_iload_n, r_lload, r_lload_n, r_aload, r_aload_n, r_istore, r_istore_n, r_astore, r_astore_n, r_lstore, r_lstore_n, r_iinc_p, r_iinc_m, r_iadd, r_isub, r_imul, r_iand, r_ior, r_ixor, r_ishl, r_ishr, r_iushr, r_idiv, r_irem, r_ladd, r_lsub, r_lmul, r_ldiv, r_lrem, r_lshl, r_lcmp, r_i2l, r_i2b, r_i2s, r_dup_i, r_dup_r, r_dup2_ii, r_dup2_ir, r_dup2_l, r_pop, r_getfield, r_putfield, r_iaload, r_iastore, r_aaload, r_arraylength, r_if_eq, r_icmp_eq, r_if_ne, r_icmp_ne, r_if_lt, r_icmp_lt, r_if_ge, r_icmp_ge, r_if_gt, r_icmp_gt, r_if_le, r_icmp_le, r_goto, r_switch, r_ireturn0, r_ireturn1, r_lreturn, r_areturn, r_return, r_inv0, r_inv1, r_inv2, r_inv3, r_inv4, r_inv5, r_min, r_max, r_acopy, onI_s, onL_s, onR_s, onO_s, fv0, fv1, fv2, fv3, fp1, fp20, fp21, fp3, tl_s, tl_n, lg0, lg1, lg2, lg3, lg4, lg5, lg6, lg7, lg8, lg9, lg10, lg11, lg12, lg13, lg14, lg15, lg16, lg17, ls0, ls1, ls2, ls3, ls4, ls5, ls6, ls7, ls8, ls9, ls10, ls11, ls12, ls13, ls14, ls15, ls16, ls17, lk0, lk1, lk2, lk3, lk4, lk5, lk6, lk7, lk8, lk9, lk10, lk11, lk12, lk13, lk14, lk15, lk16, lk17, kl_n, kl_i, kl_r, kl_l, Nat.reduceAdd, Nat.reduceLeDiff, not_false_eq_true, r_ins0, r_ins1, r_ins2, r_ins3, r_ins4, r_ins5]
  have h8 := hS.2.1
  have key : ∀ n i, i + n = ns → fit I nw nc nv i = true → WP 26 [] 1 [some (.ref 16), some (.ref 33), some (.int (nI i))] [] M (fun v N => v = some (.int (nI (fit I nw nc nv ns).toNat)) ∧ N = M) := by
    intro n
    induction n with
    | zero =>
      intro i hi hf
      obtain rfl : i = ns := by omega
      rw [B_26_1]
      simp only [B_26_0, B_26_2, B_26_3, cB, cP, r_iconst_p, r_iconst_m, r_bipush_p, r_bipush_m, r_sipush_p, r_sipush_m, r_ldc_p, r_ldc_m, r_ldc_w_p, r_ldc_w_m, r_lconst_p, r_lconst_m, r_ldc2_w_p, r_ldc2_w_m, r_iload, r_iload_n, r_lload, r_lload_n, r_aload, r_aload_n, r_istore, r_istore_n, r_astore, r_astore_n, r_lstore, r_lstore_n, r_iinc_p, r_iinc_m, r_iadd, r_isub, r_imul, r_iand, r_ior, r_ixor, r_ishl, r_ishr, r_iushr, r_idiv, r_irem, r_ladd, r_lsub, r_lmul, r_ldiv, r_lrem, r_lshl, r_lcmp, r_i2l, r_i2b, r_i2s, r_dup_i, r_dup_r, r_dup2_ii, r_dup2_ir, r_dup2_l, r_pop, r_getfield, r_putfield, r_iaload, r_iastore, r_aaload, r_arraylength, r_if_eq, r_icmp_eq, r_if_ne, r_icmp_ne, r_if_lt, r_icmp_lt, r_if_ge, r_icmp_ge, r_if_gt, r_icmp_gt, r_if_le, r_icmp_le, r_goto, r_switch, r_ireturn0, r_ireturn1, r_lreturn, r_areturn, r_return, r_inv0, r_inv1, r_inv2, r_inv3, r_inv4, r_inv5, r_min, r_max, r_acopy, onI_s, onL_s, onR_s, onO_s, fv0, fv1, fv2, fv3, fp1, fp20, fp21, fp3, tl_s, tl_n, lg0, lg1, lg2, lg3, lg4, lg5, lg6, lg7, lg8, lg9, lg10, lg11, lg12, lg13, lg14, lg15, lg16, lg17, ls0, ls1, ls2, ls3, ls4, ls5, ls6, ls7, ls8, ls9, ls10, ls11, ls12, ls13, ls14, ls15, ls16, ls17, lk0, lk1, lk2, lk3, lk4, lk5, lk6, lk7, lk8, lk9, lk10, lk11, lk12, lk13, lk14, lk15, lk16, lk17, kl_n, kl_i, kl_r, kl_l, Nat.reduceAdd, Nat.reduceLeDiff, not_false_eq_true, r_ins0, r_ins1, r_ins2, r_ins3, r_ins4, r_ins5]
      rw [hS.1, brc_pos (Int32.le_refl _), hf]
      exact ⟨Or.inr trivial, rfl, trivial⟩
    | succ n ih =>
      intro i hi hf
      obtain ⟨b1, b2, b3⟩ := hS.2.2.2 i
      obtain ⟨e1, e2, e3⟩ := hS.2.2.1 i (by omega)
      have hC := (yr_ok hI (nw i + 1)).1
      have hl := (hC (nc i)).1
      rw [B_26_1]
      simp only [B_26_0, B_26_2, B_26_3, cB, cP, nI_clamp (show i < 2 ^ 31 by omega), e1, e2, e3, nI_clamp (show nw i < 2 ^ 31 by omega), h.2.2.1 (nw i) (by omega), (s_highIn hC (show nc i < 6 by omega) M).ct, r_iconst_p, r_iconst_m, r_bipush_p, r_bipush_m, r_sipush_p, r_sipush_m, r_ldc_p, r_ldc_m, r_ldc_w_p, r_ldc_w_m, r_lconst_p, r_lconst_m, r_ldc2_w_p, r_ldc2_w_m, r_iload, r_iload_n, r_lload, r_lload_n, r_aload, r_aload_n, r_istore, r_istore_n, r_astore, r_astore_n, r_lstore, r_lstore_n, r_iinc_p, r_iinc_m, r_iadd, r_isub, r_imul, r_iand, r_ior, r_ixor, r_ishl, r_ishr, r_iushr, r_idiv, r_irem, r_ladd, r_lsub, r_lmul, r_ldiv, r_lrem, r_lshl, r_lcmp, r_i2l, r_i2b, r_i2s, r_dup_i, r_dup_r, r_dup2_ii, r_dup2_ir, r_dup2_l, r_pop, r_getfield, r_putfield, r_iaload, r_iastore, r_aaload, r_arraylength, r_if_eq, r_icmp_eq, r_if_ne, r_icmp_ne, r_if_lt, r_icmp_lt, r_if_ge, r_icmp_ge, r_if_gt, r_icmp_gt, r_if_le, r_icmp_le, r_goto, r_switch, r_ireturn0, r_ireturn1, r_lreturn, r_areturn, r_return, r_inv0, r_inv1, r_inv2, r_inv3, r_inv4, r_inv5, r_min, r_max, r_acopy, onI_s, onL_s, onR_s, onO_s, fv0, fv1, fv2, fv3, fp1, fp20, fp21, fp3, tl_s, tl_n, lg0, lg1, lg2, lg3, lg4, lg5, lg6, lg7, lg8, lg9, lg10, lg11, lg12, lg13, lg14, lg15, lg16, lg17, ls0, ls1, ls2, ls3, ls4, ls5, ls6, ls7, ls8, ls9, ls10, ls11, ls12, ls13, ls14, ls15, ls16, ls17, lk0, lk1, lk2, lk3, lk4, lk5, lk6, lk7, lk8, lk9, lk10, lk11, lk12, lk13, lk14, lk15, lk16, lk17, kl_n, kl_i, kl_r, kl_l, Nat.reduceAdd, Nat.reduceLeDiff, not_false_eq_true, r_ins0, r_ins1, r_ins2, r_ins3, r_ins4, r_ins5]
      rw [hS.1, brc_neg (nI_ge (by omega) (by omega)), inb_n (n := 8) rfl (by omega) (by omega), inb_n (n := 24) rfl (by omega) (by omega), inb_n (n := 8) rfl (by omega) (by omega), inb_n (n := 8) rfl (by omega) (by omega), q_eq (by omega) (by omega)]
      refine ⟨by omega, by omega, by omega, by simp, by omega, brc_i (fun hz => ?_) (fun hz => ?_)⟩
      · rw [q_add]
        exact ih (i + 1) (by omega) (by unfold fit; rw [hf, decide_eq_true hz]; rfl)
      · rw [fit_F (i := i) (by omega) hz]
        exact ⟨Or.inl trivial, rfl, trivial⟩
  exact key ns 0 (by omega) rfl
