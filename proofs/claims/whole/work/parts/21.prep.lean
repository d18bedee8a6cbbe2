/-! Weather, Summer.prepare -/
def hap (k w n : Nat) (x : Wth) : Wth := if k = 0 then (x.1 ||| 1 <<< w, x.2.1, x.2.2) else if k = 1 then (x.1, x.2.1 ||| 1 <<< w, x.2.2) else (x.1, x.2.1, fun i => if i = n then min (x.2.2 n) w else x.2.2 i)
def evw (ek ew ec : Nat → Nat) (e : Nat) : Nat → Wth
  | 0 => (0, 0, fun _ => 24)
  | n + 1 => if e.testBit n = true then hap (ek n) (ew n) (ec n) (evw ek ew ec e n) else evw ek ew ec e n
theorem hap_ok {k w n : Nat} {x : Wth} (h : okWt x) (hw : w ≤ 23) : okWt (hap k w n x) := by
  unfold hap
  split
  · exact ⟨Nat.or_lt_two_pow h.1 (bit_lt (by omega)), h.2.1, h.2.2⟩
  · split
    · exact ⟨h.1, Nat.or_lt_two_pow h.2.1 (bit_lt (by omega)), h.2.2⟩
    · refine ⟨h.1, h.2.1, fun c => ?_⟩
      have := h.2.2 c
      dsimp only
      split
      · omega
      · exact this
theorem evw_ok {ek ew ec : Nat → Nat} {e : Nat} (hw : ∀ i, ew i ≤ 23) : ∀ n, okWt (evw ek ew ec e n)
  | 0 => ⟨Nat.lt_of_lt_of_le Nat.zero_lt_one (by decide), Nat.lt_of_lt_of_le Nat.zero_lt_one (by decide), fun _ => Nat.le_refl _⟩
  | n + 1 => by
    unfold evw
    split
    · exact hap_ok (evw_ok hw n) (hw n)
    · exact evw_ok hw n
theorem s_calm_28 (M : Mem) : Ct 50 [.ref 28] M (fun r N => r = none ∧ Fr [28, 29] M N ∧ RWt N 28 (0, 0, fun _ => 24)) := by
  simp only [E_50, B_50_0, cP, cS, r_iconst_p, r_iconst_m, r_bipush_p, r_bipush_m, r_sipush_p, r_sipush_m, r_ldc_p, r_ldc_m, r_ldc_w_p, r_ldc_w_m, r_lconst_p, r_lconst_m, r_ldc2_w_p, r_ldc2_w_m, r_iload, r_iload_n, r_lload, r_lload_n, r_aload, r_aload_n, r_istore, r_istore_n, r_astore, r_astore_n, r_lstore, r_lstore_n, r_iinc_p, r_iinc_m, r_iadd, r_isub, r_imul, r_iand, r_ior, r_ixor, r_ishl, r_ishr, r_iushr, r_idiv, r_irem, r_ladd, r_lsub, r_lmul, r_ldiv, r_lrem, r_lshl, r_lcmp, r_i2l, r_i2b, r_i2s, r_dup_i, r_dup_r, r_dup2_ii, r_dup2_ir, r_dup2_l, r_pop, r_getfield, r_putfield, r_iaload, r_iastore, r_aaload, r_arraylength, r_if_eq, r_icmp_eq, r_if_ne, r_icmp_ne, r_if_lt, r_icmp_lt, r_if_ge, r_icmp_ge, r_if_gt, r_icmp_gt, r_if_le, r_icmp_le, r_goto, r_switch, r_ireturn0, r_ireturn1, r_lreturn, r_areturn, r_return, r_inv0, r_inv1, r_inv2, r_inv3, r_inv4, r_inv5, r_min, r_max, r_acopy, onI_s, onL_s, onR_s, onO_s, fv0, fv1, fv2, fv3, fp1, fp20, fp21, fp3, tl_s, tl_n, lg0, lg1, lg2, lg3, lg4, lg5, lg6, lg7, lg8, lg9, lg10, lg11, lg12, lg13, lg14, lg15, lg16, lg17, ls0, ls1, ls2, ls3, ls4, ls5, ls6, ls7, ls8, ls9, ls10, ls11, ls12, ls13, ls14, ls15, ls16, ls17, lk0, lk1, lk2, lk3, lk4, lk5, lk6, lk7, lk8, lk9, lk10, lk11, lk12, lk13, lk14, lk15, lk16, lk17, kl_n, kl_i, kl_r, kl_l, Nat.reduceAdd, Nat.reduceLeDiff, not_false_eq_true, r_ins0, r_ins1, r_ins2, r_ins3, r_ins4, r_ins5]
  refine ⟨by simp, ?_⟩
  rw [(s_fill (c := 29) (n := 6) rfl (by omega) (nI 24) M).ct]
  simp only [B_50_0, cP, cS, r_iconst_p, r_iconst_m, r_bipush_p, r_bipush_m, r_sipush_p, r_sipush_m, r_ldc_p, r_ldc_m, r_ldc_w_p, r_ldc_w_m, r_lconst_p, r_lconst_m, r_ldc2_w_p, r_ldc2_w_m, r_iload, r_iload_n, r_lload, r_lload_n, r_aload, r_aload_n, r_istore, r_istore_n, r_astore, r_astore_n, r_lstore, r_lstore_n, r_iinc_p, r_iinc_m, r_iadd, r_isub, r_imul, r_iand, r_ior, r_ixor, r_ishl, r_ishr, r_iushr, r_idiv, r_irem, r_ladd, r_lsub, r_lmul, r_ldiv, r_lrem, r_lshl, r_lcmp, r_i2l, r_i2b, r_i2s, r_dup_i, r_dup_r, r_dup2_ii, r_dup2_ir, r_dup2_l, r_pop, r_getfield, r_putfield, r_iaload, r_iastore, r_aaload, r_arraylength, r_if_eq, r_icmp_eq, r_if_ne, r_icmp_ne, r_if_lt, r_icmp_lt, r_if_ge, r_icmp_ge, r_if_gt, r_icmp_gt, r_if_le, r_icmp_le, r_goto, r_switch, r_ireturn0, r_ireturn1, r_lreturn, r_areturn, r_return, r_inv0, r_inv1, r_inv2, r_inv3, r_inv4, r_inv5, r_min, r_max, r_acopy, onI_s, onL_s, onR_s, onO_s, fv0, fv1, fv2, fv3, fp1, fp20, fp21, fp3, tl_s, tl_n, lg0, lg1, lg2, lg3, lg4, lg5, lg6, lg7, lg8, lg9, lg10, lg11, lg12, lg13, lg14, lg15, lg16, lg17, ls0, ls1, ls2, ls3, ls4, ls5, ls6, ls7, ls8, ls9, ls10, ls11, ls12, ls13, ls14, ls15, ls16, ls17, lk0, lk1, lk2, lk3, lk4, lk5, lk6, lk7, lk8, lk9, lk10, lk11, lk12, lk13, lk14, lk15, lk16, lk17, kl_n, kl_i, kl_r, kl_l, Nat.reduceAdd, Nat.reduceLeDiff, not_false_eq_true, r_ins0, r_ins1, r_ins2, r_ins3, r_ins4, r_ins5]
  refine ⟨trivial, ?_, ?_, ?_, fun c hc => ?_⟩
  · intro d hd
    have h1 : ¬ d = 28 := fun q => hd (by rw [q]; decide)
    have h2 : ¬ d = 29 := fun q => hd (by rw [q]; decide)
    rw [sm_ne h1, sm_ne h1, msc_ne h2]
  · rw [sm_eq, u_ne (by decide), sm_eq, u_eq]
  · rw [sm_eq, u_eq]
  · rw [sm_ne (by decide), sm_ne (by decide), msc_eq, if_pos hc]
theorem s_happen_28 {M : Mem} {x : Wth} {k w n : Nat} (hk : k ≤ 2) (hw : w ≤ 23) (hn : n ≤ 5) (h : RWt M 28 x) (hx : okWt x) : Ct 51 [.ref 28, .int (nI k), .int (nI w), .int (nI n)] M (fun r N => r = none ∧ Fr [28, 29] M N ∧ RWt N 28 (hap k w n x)) := by
  have h3 := hx.2.2 n
  simp only [E_51, B_51_0, B_51_1, B_51_2, B_51_3, cP, cS, r_iconst_p, r_iconst_m, r_bipush_p, r_bipush_m, r_sipush_p, r_sipush_m, r_ldc_p, r_ldc_m, r_ldc_w_p, r_ldc_w_m, r_lconst_p, r_lconst_m, r_ldc2_w_p, r_ldc2_w_m, r_iload, r_iload_n, r_lload, r_lload_n, r_aload, r_aload_n, r_istore, r_istore_n, r_astore, r_astore_n, r_lstore, r_lstore_n, r_iinc_p, r_iinc_m, r_iadd, r_isub, r_imul, r_iand, r_ior, r_ixor, r_ishl, r_ishr, r_iushr, r_idiv, r_irem, r_ladd, r_lsub, r_lmul, r_ldiv, r_lrem, r_lshl, r_lcmp, r_i2l, r_i2b, r_i2s, r_dup_i, r_dup_r, r_dup2_ii, r_dup2_ir, r_dup2_l, r_pop, r_getfield, r_putfield, r_iaload, r_iastore, r_aaload, r_arraylength, r_if_eq, r_icmp_eq, r_if_ne, r_icmp_ne, r_if_lt, r_icmp_lt, r_if_ge, r_icmp_ge, r_if_gt, r_icmp_gt, r_if_le, r_icmp_le, r_goto, r_switch, r_ireturn0, r_ireturn1, r_lreturn, r_areturn, r_return, r_inv0, r_inv1, r_inv2, r_inv3, r_inv4, r_inv5, r_min, r_max, r_acopy, onI_s, onL_s, onR_s, onO_s, fv0, fv1, fv2, fv3, fp1, fp20, fp21, fp3, tl_s, tl_n, lg0, lg1, lg2, lg3, lg4, lg5, lg6, lg7, lg8, lg9, lg10, lg11, lg12, lg13, lg14, lg15, lg16, lg17, ls0, ls1, ls2, ls3, ls4, ls5, ls6, ls7, ls8, ls9, ls10, ls11, ls12, ls13, ls14, ls15, ls16, ls17, lk0, lk1, lk2, lk3, lk4, lk5, lk6, lk7, lk8, lk9, lk10, lk11, lk12, lk13, lk14, lk15, lk16, lk17, kl_n, kl_i, kl_r, kl_l, Nat.reduceAdd, Nat.reduceLeDiff, not_false_eq_true, r_ins0, r_ins1, r_ins2, r_ins3, r_ins4, r_ins5]
  rw [q_eq (by omega) (by omega), q_eq (by omega) (by omega), q_eq (by omega) (by omega), h.1, h.2.1, shl1 (by omega), q_or, q_or]
  refine brc_i (fun h0 => brc_i (fun h1 => brc_i (fun h2 => by omega) (fun h2 => ?_)) (fun h1 => ?_)) (fun h0 => ?_)
  · rw [inb_n (n := 6) rfl (by omega) (by omega), nI_clamp (by omega), h.2.2 n (by omega), minI (by omega) (by omega)]
    refine ⟨by omega, by simp, by omega, trivial, Fr.rf.st (by decide), ?_⟩
    unfold hap
    rw [if_neg h0, if_neg h1]
    refine ⟨by rw [sm_ne (by decide)]; exact h.1, by rw [sm_ne (by decide)]; exact h.2.1, fun c hc => ?_⟩
    rw [sm_eq, u_if]
    dsimp only
    by_cases e : c = n
    · rw [if_pos e, if_pos e]
    · rw [if_neg e, if_neg e]; exact h.2.2 c hc
  · have h1 : k = 1 := by omega
    refine ⟨trivial, Fr.rf.st (by decide), ?_⟩
    unfold hap
    rw [if_neg h0, if_pos h1]
    exact ⟨by rw [sm_eq, u_ne (by decide)]; exact h.1, by rw [sm_eq, u_eq], fun c hc => by rw [sm_ne (by decide)]; exact h.2.2 c hc⟩
  · have h0 : k = 0 := by omega
    refine ⟨trivial, Fr.rf.st (by decide), ?_⟩
    unfold hap
    rw [if_pos h0]
    exact ⟨by rw [sm_eq, u_eq], by rw [sm_eq, u_ne (by decide)]; exact h.2.1, fun c hc => by rw [sm_ne (by decide)]; exact h.2.2 c hc⟩
theorem s_calm_45 (M : Mem) : Ct 50 [.ref 45] M (fun r N => r = none ∧ Fr [45, 46] M N ∧ RWt N 45 (0, 0, fun _ => 24)) := by
  simp only [E_50, B_50_0, cP, cS, r_iconst_p, r_iconst_m, r_bipush_p, r_bipush_m, r_sipush_p, r_sipush_m, r_ldc_p, r_ldc_m, r_ldc_w_p, r_ldc_w_m, r_lconst_p, r_lconst_m, r_ldc2_w_p, r_ldc2_w_m, r_iload, r_iload_n, r_lload, r_lload_n, r_aload, r_aload_n, r_istore, r_istore_n, r_astore, r_astore_n, r_lstore, r_lstore_n, r_iinc_p, r_iinc_m, r_iadd, r_isub, r_imul, r_iand, r_ior, r_ixor, r_ishl, r_ishr, r_iushr, r_idiv, r_irem, r_ladd, r_lsub, r_lmul, r_ldiv, r_lrem, r_lshl, r_lcmp, r_i2l, r_i2b, r_i2s, r_dup_i, r_dup_r, r_dup2_ii, r_dup2_ir, r_dup2_l, r_pop, r_getfield, r_putfield, r_iaload, r_iastore, r_aaload, r_arraylength, r_if_eq, r_icmp_eq, r_if_ne, r_icmp_ne, r_if_lt, r_icmp_lt, r_if_ge, r_icmp_ge, r_if_gt, r_icmp_gt, r_if_le, r_icmp_le, r_goto, r_switch, r_ireturn0, r_ireturn1, r_lreturn, r_areturn, r_return, r_inv0, r_inv1, r_inv2, r_inv3, r_inv4, r_inv5, r_min, r_max, r_acopy, onI_s, onL_s, onR_s, onO_s, fv0, fv1, fv2, fv3, fp1, fp20, fp21, fp3, tl_s, tl_n, lg0, lg1, lg2, lg3, lg4, lg5, lg6, lg7, lg8, lg9, lg10, lg11, lg12, lg13, lg14, lg15, lg16, lg17, ls0, ls1, ls2, ls3, ls4, ls5, ls6, ls7, ls8, ls9, ls10, ls11, ls12, ls13, ls14, ls15, ls16, ls17, lk0, lk1, lk2, lk3, lk4, lk5, lk6, lk7, lk8, lk9, lk10, lk11, lk12, lk13, lk14, lk15, lk16, lk17, kl_n, kl_i, kl_r, kl_l, Nat.reduceAdd, Nat.reduceLeDiff, not_false_eq_true, r_ins0, r_ins1, r_ins2, r_ins3, r_ins4, r_ins5]
  refine ⟨by simp, ?_⟩
  rw [(s_fill (c := 46) (n := 6) rfl (by omega) (nI 24) M).ct]
  simp only [B_50_0, cP, cS, r_iconst_p, r_iconst_m, r_bipush_p, r_bipush_m, r_sipush_p, r_sipush_m, r_ldc_p, r_ldc_m, r_ldc_w_p, r_ldc_w_m, r_lconst_p, r_lconst_m, r_ldc2_w_p, r_ldc2_w_m, r_iload, r_iload_n, r_lload, r_lload_n, r_aload, r_aload_n, r_istore, r_istore_n, r_astore, r_astore_n, r_lstore, r_lstore_n, r_iinc_p, r_iinc_m, r_iadd, r_isub, r_imul, r_iand, r_ior, r_ixor, r_ishl, r_ishr, r_iushr, r_idiv, r_irem, r_ladd, r_lsub, r_lmul, r_ldiv, r_lrem, r_lshl, r_lcmp, r_i2l, r_i2b, r_i2s, r_dup_i, r_dup_r, r_dup2_ii, r_dup2_ir, r_dup2_l, r_pop, r_getfield, r_putfield, r_iaload, r_iastore, r_aaload, r_arraylength, r_if_eq, r_icmp_eq, r_if_ne, r_icmp_ne, r_if_lt, r_icmp_lt, r_if_ge, r_icmp_ge, r_if_gt, r_icmp_gt, r_if_le, r_icmp_le, r_goto, r_switch, r_ireturn0, r_ireturn1, r_lreturn, r_areturn, r_return, r_inv0, r_inv1, r_inv2, r_inv3, r_inv4, r_inv5, r_min, r_max, r_acopy, onI_s, onL_s, onR_s, onO_s, fv0, fv1, fv2, fv3, fp1, fp20, fp21, fp3, tl_s, tl_n, lg0, lg1, lg2, lg3, lg4, lg5, lg6, lg7, lg8, lg9, lg10, lg11, lg12, lg13, lg14, lg15, lg16, lg17, ls0, ls1, ls2, ls3, ls4, ls5, ls6, ls7, ls8, ls9, ls10, ls11, ls12, ls13, ls14, ls15, ls16, ls17, lk0, lk1, lk2, lk3, lk4, lk5, lk6, lk7, lk8, lk9, lk10, lk11, lk12, lk13, lk14, lk15, lk16, lk17, kl_n, kl_i, kl_r, kl_l, Nat.reduceAdd, Nat.reduceLeDiff, not_false_eq_true, r_ins0, r_ins1, r_ins2, r_ins3, r_ins4, r_ins5]
  refine ⟨trivial, ?_, ?_, ?_, fun c hc => ?_⟩
  · intro d hd
    have h1 : ¬ d = 45 := fun q => hd (by rw [q]; decide)
    have h2 : ¬ d = 46 := fun q => hd (by rw [q]; decide)
    rw [sm_ne h1, sm_ne h1, msc_ne h2]
  · rw [sm_eq, u_ne (by decide), sm_eq, u_eq]
  · rw [sm_eq, u_eq]
  · rw [sm_ne (by decide), sm_ne (by decide), msc_eq, if_pos hc]
theorem s_happen_45 {M : Mem} {x : Wth} {k w n : Nat} (hk : k ≤ 2) (hw : w ≤ 23) (hn : n ≤ 5) (h : RWt M 45 x) (hx : okWt x) : Ct 51 [.ref 45, .int (nI k), .int (nI w), .int (nI n)] M (fun r N => r = none ∧ Fr [45, 46] M N ∧ RWt N 45 (hap k w n x)) := by
  have h3 := hx.2.2 n
  simp only [E_51, B_51_0, B_51_1, B_51_2, B_51_3, cP, cS, r_iconst_p, r_iconst_m, r_bipush_p, r_bipush_m, r_sipush_p, r_sipush_m, r_ldc_p, r_ldc_m, r_ldc_w_p, r_ldc_w_m, r_lconst_p, r_lconst_m, r_ldc2_w_p, r_ldc2_w_m, r_iload, r_iload_n, r_lload, r_lload_n, r_aload, r_aload_n, r_istore, r_istore_n, r_astore, r_astore_n, r_lstore, r_lstore_n, r_iinc_p, r_iinc_m, r_iadd, r_isub, r_imul, r_iand, r_ior, r_ixor, r_ishl, r_ishr, r_iushr, r_idiv, r_irem, r_ladd, r_lsub, r_lmul, r_ldiv, r_lrem, r_lshl, r_lcmp, r_i2l, r_i2b, r_i2s, r_dup_i, r_dup_r, r_dup2_ii, r_dup2_ir, r_dup2_l, r_pop, r_getfield, r_putfield, r_iaload, r_iastore, r_aaload, r_arraylength, r_if_eq, r_icmp_eq, r_if_ne, r_icmp_ne, r_if_lt, r_icmp_lt, r_if_ge, r_icmp_ge, r_if_gt, r_icmp_gt, r_if_le, r_icmp_le, r_goto, r_switch, r_ireturn0, r_ireturn1, r_lreturn, r_areturn, r_return, r_inv0, r_inv1, r_inv2, r_inv3, r_inv4, r_inv5, r_min, r_max, r_acopy, onI_s, onL_s, onR_s, onO_s, fv0, fv1, fv2, fv3, fp1, fp20, fp21, fp3, tl_s, tl_n, lg0, lg1, lg2, lg3, lg4, lg5, lg6, lg7, lg8, lg9, lg10, lg11, lg12, lg13, lg14, lg15, lg16, lg17, ls0, ls1, ls2, ls3, ls4, ls5, ls6, ls7, ls8, ls9, ls10, ls11, ls12, ls13, ls14, ls15, ls16, ls17, lk0, lk1, lk2, lk3, lk4, lk5, lk6, lk7, lk8, lk9, lk10, lk11, lk12, lk13, lk14, lk15, lk16, lk17, kl_n, kl_i, kl_r, kl_l, Nat.reduceAdd, Nat.reduceLeDiff, not_false_eq_true, r_ins0, r_ins1, r_ins2, r_ins3, r_ins4, r_ins5]
  rw [q_eq (by omega) (by omega), q_eq (by omega) (by omega), q_eq (by omega) (by omega), h.1, h.2.1, shl1 (by omega), q_or, q_or]
  refine brc_i (fun h0 => brc_i (fun h1 => brc_i (fun h2 => by omega) (fun h2 => ?_)) (fun h1 => ?_)) (fun h0 => ?_)
  · rw [inb_n (n := 6) rfl (by omega) (by omega), nI_clamp (by omega), h.2.2 n (by omega), minI (by omega) (by omega)]
    refine ⟨by omega, by simp, by omega, trivial, Fr.rf.st (by decide), ?_⟩
    unfold hap
    rw [if_neg h0, if_neg h1]
    refine ⟨by rw [sm_ne (by decide)]; exact h.1, by rw [sm_ne (by decide)]; exact h.2.1, fun c hc => ?_⟩
    rw [sm_eq, u_if]
    dsimp only
    by_cases e : c = n
    · rw [if_pos e, if_pos e]
    · rw [if_neg e, if_neg e]; exact h.2.2 c hc
  · have h1 : k = 1 := by omega
    refine ⟨trivial, Fr.rf.st (by decide), ?_⟩
    unfold hap
    rw [if_neg h0, if_pos h1]
    exact ⟨by rw [sm_eq, u_ne (by decide)]; exact h.1, by rw [sm_eq, u_eq], fun c hc => by rw [sm_ne (by decide)]; exact h.2.2 c hc⟩
  · have h0 : k = 0 := by omega
    refine ⟨trivial, Fr.rf.st (by decide), ?_⟩
    unfold hap
    rw [if_pos h0]
    exact ⟨by rw [sm_eq, u_eq], by rw [sm_eq, u_ne (by decide)]; exact h.2.1, fun c hc => by rw [sm_ne (by decide)]; exact h.2.2 c hc⟩
/-- the events as told (cells 12 to 15) -/
def REv (M : Mem) (ne : Nat) (ek ew ec : Nat → Nat) : Prop := M 12 3 = nI ne ∧ ne ≤ 8 ∧ (∀ i, i < ne → M 13 i = nI (ek i) ∧ M 14 i = nI (ew i) ∧ M 15 i = nI (ec i)) ∧ ∀ i, ek i ≤ 2 ∧ ew i ≤ 23 ∧ ec i ≤ 5
theorem REv.fr {l : List Nat} {M N : Mem} (h : Fr l M N) (h12 : 12 ∉ l) (h13 : 13 ∉ l) (h14 : 14 ∉ l) (h15 : 15 ∉ l) {ne : Nat} {ek ew ec : Nat → Nat} (H : REv M ne ek ew ec) : REv N ne ek ew ec := by
  unfold REv
  rw [h 12 h12, h 13 h13, h 14 h14, h 15 h15]
  exact H
set_option maxHeartbeats 4000000 in
theorem s_prep_21 {M : Mem} {C : Col} {no ne e : Nat} {ow oq ek ew ec : Nat → Nat} (hB : RS M 7 8 C) (hO : ROr M 9 no ow oq) (hno : no ≤ 12) (hE : REv M ne ek ew ec) (he : e < 2 ^ 31) :
    Ct 41 [.ref 21, .ref 1, .int (nI e)] M (fun r N => r = none ∧ Fr [23, 24, 25, 26, 27, 28, 29] M N ∧ RS N 23 24 C ∧ ROr N 25 no ow oq ∧ RWt N 28 (evw ek ew ec e ne)) := by
  simp only [E_41, B_41_0, B_41_2, B_41_3, cB, cP, cS, r_iconst_p, r_iconst_m, r_bipush_p, r_bipush_m, r_sipush_p, r_sipush_m, r_ldc_p, r_ldc_m, r_ldc_w_p, r_ldc_w_m, r_lconst_p, r_lconst_m, r_ldc2_w_p, r_ldc2_w_m, r_iload, r_iload_n, r_lload, r_lload_n, r_aload, r_aload_n, r_istore, r_istore_n, r_astore, r_astore_n, r_lstore, r_lstore_n, r_iinc_p, r_iinc_m, r_iadd, r_isub, r_imul, r_iand, r_ior, r_ixor, r_ishl, r_ishr, r_iushr, r_idiv, r_irem, r_ladd, r_lsub, r_lmul, r_ldiv, r_lrem, r_lshl, r_lcmp, r_i2l, r_i2b, r_i2s, r_dup_i, r_dup_r, r_dup2_ii, r_dup2_ir, r_dup2_l, r_pop, r_getfield, r_putfield, r_iaload, r_iastore, r_aaload, r_arraylength, r_if_eq, r_icmp_eq, r_if_ne, r_icmp_ne, r_if_lt, r_icmp_lt, r_if_ge, r_icmp_ge, r_if_gt, r_icmp_gt, r_if_le, r_icmp_le, r_goto, r_switch, r_ireturn0, r_ireturn1, r_lreturn, r_areturn, r_return, r_inv0, r_inv1, r_inv2, r_inv3, r_inv4, r_inv5, r_min, r_max, r_acopy, onI_s, onL_s, onR_s, onO_s, fv0, fv1, fv2, fv3, fp1, fp20, fp21, fp3, tl_s, tl_n, lg0, lg1, lg2, lg3, lg4, lg5, lg6, lg7, lg8, lg9, lg10, lg11, lg12, lg13, lg14, lg15, lg16, lg17, ls0, ls1, ls2, ls3, ls4, ls5, ls6, ls7, ls8, ls9, ls10, ls11, ls12, ls13, ls14, ls15, ls16, ls17, lk0, lk1, lk2, lk3, lk4, lk5, lk6, lk7, lk8, lk9, lk10, lk11, lk12, lk13, lk14, lk15, lk16, lk17, kl_n, kl_i, kl_r, kl_l, Nat.reduceAdd, Nat.reduceLeDiff, not_false_eq_true, r_ins0, r_ins1, r_ins2, r_ins3, r_ins4, r_ins5]
  refine ⟨trivial, by simp, ?_⟩
  rw [(s_becomeS_22 M).ct]
  simp only [B_41_0, B_41_2, B_41_3, cB, cP, cS, r_iconst_p, r_iconst_m, r_bipush_p, r_bipush_m, r_sipush_p, r_sipush_m, r_ldc_p, r_ldc_m, r_ldc_w_p, r_ldc_w_m, r_lconst_p, r_lconst_m, r_ldc2_w_p, r_ldc2_w_m, r_iload, r_iload_n, r_lload, r_lload_n, r_aload, r_aload_n, r_istore, r_istore_n, r_astore, r_astore_n, r_lstore, r_lstore_n, r_iinc_p, r_iinc_m, r_iadd, r_isub, r_imul, r_iand, r_ior, r_ixor, r_ishl, r_ishr, r_iushr, r_idiv, r_irem, r_ladd, r_lsub, r_lmul, r_ldiv, r_lrem, r_lshl, r_lcmp, r_i2l, r_i2b, r_i2s, r_dup_i, r_dup_r, r_dup2_ii, r_dup2_ir, r_dup2_l, r_pop, r_getfield, r_putfield, r_iaload, r_iastore, r_aaload, r_arraylength, r_if_eq, r_icmp_eq, r_if_ne, r_icmp_ne, r_if_lt, r_icmp_lt, r_if_ge, r_icmp_ge, r_if_gt, r_icmp_gt, r_if_le, r_icmp_le, r_goto, r_switch, r_ireturn0, r_ireturn1, r_lreturn, r_areturn, r_return, r_inv0, r_inv1, r_inv2, r_inv3, r_inv4, r_inv5, r_min, r_max, r_acopy, onI_s, onL_s, onR_s, onO_s, fv0, fv1, fv2, fv3, fp1, fp20, fp21, fp3, tl_s, tl_n, lg0, lg1, lg2, lg3, lg4, lg5, lg6, lg7, lg8, lg9, lg10, lg11, lg12, lg13, lg14, lg15, lg16, lg17, ls0, ls1, ls2, ls3, ls4, ls5, ls6, ls7, ls8, ls9, ls10, ls11, ls12, ls13, ls14, ls15, ls16, ls17, lk0, lk1, lk2, lk3, lk4, lk5, lk6, lk7, lk8, lk9, lk10, lk11, lk12, lk13, lk14, lk15, lk16, lk17, kl_n, kl_i, kl_r, kl_l, Nat.reduceAdd, Nat.reduceLeDiff, not_false_eq_true, r_ins0, r_ins1, r_ins2, r_ins3, r_ins4, r_ins5]
  refine ⟨trivial, by simp, ?_⟩
  rw [(s_becomeO_25 _).ct]
  simp only [B_41_0, B_41_2, B_41_3, cB, cP, cS, r_iconst_p, r_iconst_m, r_bipush_p, r_bipush_m, r_sipush_p, r_sipush_m, r_ldc_p, r_ldc_m, r_ldc_w_p, r_ldc_w_m, r_lconst_p, r_lconst_m, r_ldc2_w_p, r_ldc2_w_m, r_iload, r_iload_n, r_lload, r_lload_n, r_aload, r_aload_n, r_istore, r_istore_n, r_astore, r_astore_n, r_lstore, r_lstore_n, r_iinc_p, r_iinc_m, r_iadd, r_isub, r_imul, r_iand, r_ior, r_ixor, r_ishl, r_ishr, r_iushr, r_idiv, r_irem, r_ladd, r_lsub, r_lmul, r_ldiv, r_lrem, r_lshl, r_lcmp, r_i2l, r_i2b, r_i2s, r_dup_i, r_dup_r, r_dup2_ii, r_dup2_ir, r_dup2_l, r_pop, r_getfield, r_putfield, r_iaload, r_iastore, r_aaload, r_arraylength, r_if_eq, r_icmp_eq, r_if_ne, r_icmp_ne, r_if_lt, r_icmp_lt, r_if_ge, r_icmp_ge, r_if_gt, r_icmp_gt, r_if_le, r_icmp_le, r_goto, r_switch, r_ireturn0, r_ireturn1, r_lreturn, r_areturn, r_return, r_inv0, r_inv1, r_inv2, r_inv3, r_inv4, r_inv5, r_min, r_max, r_acopy, onI_s, onL_s, onR_s, onO_s, fv0, fv1, fv2, fv3, fp1, fp20, fp21, fp3, tl_s, tl_n, lg0, lg1, lg2, lg3, lg4, lg5, lg6, lg7, lg8, lg9, lg10, lg11, lg12, lg13, lg14, lg15, lg16, lg17, ls0, ls1, ls2, ls3, ls4, ls5, ls6, ls7, ls8, ls9, ls10, ls11, ls12, ls13, ls14, ls15, ls16, ls17, lk0, lk1, lk2, lk3, lk4, lk5, lk6, lk7, lk8, lk9, lk10, lk11, lk12, lk13, lk14, lk15, lk16, lk17, kl_n, kl_i, kl_r, kl_l, Nat.reduceAdd, Nat.reduceLeDiff, not_false_eq_true, r_ins0, r_ins1, r_ins2, r_ins3, r_ins4, r_ins5]
  refine ⟨trivial, by simp, ?_⟩
  refine (s_calm_28 _).mono ?_
  rintro r N ⟨rfl, hF, hW⟩
  simp only [B_41_0, B_41_2, B_41_3, cB, cP, cS, r_iconst_p, r_iconst_m, r_bipush_p, r_bipush_m, r_sipush_p, r_sipush_m, r_ldc_p, r_ldc_m, r_ldc_w_p, r_ldc_w_m, r_lconst_p, r_lconst_m, r_ldc2_w_p, r_ldc2_w_m, r_iload, r_iload_n, r_lload, r_lload_n, r_aload, r_aload_n, r_istore, r_istore_n, r_astore, r_astore_n, r_lstore, r_lstore_n, r_iinc_p, r_iinc_m, r_iadd, r_isub, r_imul, r_iand, r_ior, r_ixor, r_ishl, r_ishr, r_iushr, r_idiv, r_irem, r_ladd, r_lsub, r_lmul, r_ldiv, r_lrem, r_lshl, r_lcmp, r_i2l, r_i2b, r_i2s, r_dup_i, r_dup_r, r_dup2_ii, r_dup2_ir, r_dup2_l, r_pop, r_getfield, r_putfield, r_iaload, r_iastore, r_aaload, r_arraylength, r_if_eq, r_icmp_eq, r_if_ne, r_icmp_ne, r_if_lt, r_icmp_lt, r_if_ge, r_icmp_ge, r_if_gt, r_icmp_gt, r_if_le, r_icmp_le, r_goto, r_switch, r_ireturn0, r_ireturn1, r_lreturn, r_areturn, r_return, r_inv0, r_inv1, r_inv2, r_inv3, r_inv4, r_inv5, r_min, r_max, r_acopy, onI_s, onL_s, onR_s, onO_s, fv0, fv1, fv2, fv3, fp1, fp20, fp21, fp3, tl_s, tl_n, lg0, lg1, lg2, lg3, lg4, lg5, lg6, lg7, lg8, lg9, lg10, lg11, lg12, lg13, lg14, lg15, lg16, lg17, ls0, ls1, ls2, ls3, ls4, ls5, ls6, ls7, ls8, ls9, ls10, ls11, ls12, ls13, ls14, ls15, ls16, ls17, lk0, lk1, lk2, lk3, lk4, lk5, lk6, lk7, lk8, lk9, lk10, lk11, lk12, lk13, lk14, lk15, lk16, lk17, kl_n, kl_i, kl_r, kl_l, Nat.reduceAdd, Nat.reduceLeDiff, not_false_eq_true, r_ins0, r_ins1, r_ins2, r_ins3, r_ins4, r_ins5]
  have hF0 : Fr [23, 24, 25, 26, 27, 28, 29] M N := by
    intro d hd
    have n2 : ¬ d = 23 := fun q => hd (by rw [q]; decide)
    have n3 : ¬ d = 24 := fun q => hd (by rw [q]; decide)
    have n4 : ¬ d = 25 := fun q => hd (by rw [q]; decide)
    have n5 : ¬ d = 26 := fun q => hd (by rw [q]; decide)
    have n6 : ¬ d = 27 := fun q => hd (by rw [q]; decide)
    rw [hF d (fun q => hd (by simp only [List.mem_cons, List.not_mem_nil, or_false] at q ⊢; omega)), sm_ne n4, cp_if, if_neg n6, cp_if, if_neg n5, cp_if, if_neg n3, cp_if, if_neg n2]
  have hR : RS N 23 24 C := by
    intro c hc
    rw [hF 23 (by decide), hF 24 (by decide), sm_ne (by decide), sm_ne (by decide)]
    simp only [cp_if]
    exact RS_become (g' := 23) (h' := 24) hB (by decide) c hc
  have hON : ROr N 25 no ow oq := by
    refine ⟨?_, fun i hi => ?_⟩
    · rw [hF 25 (by decide), sm_eq, u_eq]
      simp only [cp_if]
      exact hO.1
    · rw [hF 26 (by decide), hF 27 (by decide), sm_ne (by decide), sm_ne (by decide)]
      simp only [cp_if, if_true, show (26 = 27) = False by decide, show (10 = 23) = False by decide, show (10 = 24) = False by decide, show (11 = 26) = False by decide, show (11 = 24) = False by decide, show (11 = 23) = False by decide, if_false]
      rw [cpy_in (by omega) (by omega), cpy_in (by omega) (by omega)]
      simp only [Nat.zero_add, Nat.sub_zero]
      exact hO.2 i hi
  have key : ∀ (n i : Nat) (N : Mem), i + n = ne → Fr [23, 24, 25, 26, 27, 28, 29] M N → RS N 23 24 C → ROr N 25 no ow oq → RWt N 28 (evw ek ew ec e i) → WP 41 [] 1 [some (.ref 21), some (.ref 1), some (.int (nI e)), some (.ref 12), some (.int (nI i))] [] N (fun r N => r = none ∧ Fr [23, 24, 25, 26, 27, 28, 29] M N ∧ RS N 23 24 C ∧ ROr N 25 no ow oq ∧ RWt N 28 (evw ek ew ec e ne)) := by
    intro n
    induction n with
    | zero =>
      intro i N hi hF hR hO hW
      obtain rfl : i = ne := by omega
      rw [B_41_1]
      simp only [B_41_0, B_41_2, B_41_3, cB, cP, cS, r_iconst_p, r_iconst_m, r_bipush_p, r_bipush_m, r_sipush_p, r_sipush_m, r_ldc_p, r_ldc_m, r_ldc_w_p, r_ldc_w_m, r_lconst_p, r_lconst_m, r_ldc2_w_p, r_ldc2_w_m, r_iload, r_iload_n, r_lload, r_lload_n, r_aload, r_aload_n, r_istore, r_istore_n, r_astore, r_astore_n, r_lstore, r_lstore_n, r_iinc_p, r_iinc_m, r_iadd, r_isub, r_imul, r_iand, r_ior, r_ixor, r_ishl, r_ishr, r_iushr, r_idiv, r_irem, r_ladd, r_lsub, r_lmul, r_ldiv, r_lrem, r_lshl, r_lcmp, r_i2l, r_i2b, r_i2s, r_dup_i, r_dup_r, r_dup2_ii, r_dup2_ir, r_dup2_l, r_pop, r_getfield, r_putfield, r_iaload, r_iastore, r_aaload, r_arraylength, r_if_eq, r_icmp_eq, r_if_ne, r_icmp_ne, r_if_lt, r_icmp_lt, r_if_ge, r_icmp_ge, r_if_gt, r_icmp_gt, r_if_le, r_icmp_le, r_goto, r_switch, r_ireturn0, r_ireturn1, r_lreturn, r_areturn, r_return, r_inv0, r_inv1, r_inv2, r_inv3, r_inv4, r_inv5, r_min, r_max, r_acopy, onI_s, onL_s, onR_s, onO_s, fv0, fv1, fv2, fv3, fp1, fp20, fp21, fp3, tl_s, tl_n, lg0, lg1, lg2, lg3, lg4, lg5, lg6, lg7, lg8, lg9, lg10, lg11, lg12, lg13, lg14, lg15, lg16, lg17, ls0, ls1, ls2, ls3, ls4, ls5, ls6, ls7, ls8, ls9, ls10, ls11, ls12, ls13, ls14, ls15, ls16, ls17, lk0, lk1, lk2, lk3, lk4, lk5, lk6, lk7, lk8, lk9, lk10, lk11, lk12, lk13, lk14, lk15, lk16, lk17, kl_n, kl_i, kl_r, kl_l, Nat.reduceAdd, Nat.reduceLeDiff, not_false_eq_true, r_ins0, r_ins1, r_ins2, r_ins3, r_ins4, r_ins5]
      rw [hF 12 (by decide), hE.1, brc_pos (Int32.le_refl _)]
      exact ⟨trivial, hF, hR, hO, hW⟩
    | succ n ih =>
      intro i N hi hF hR hO hW
      have h8 := hE.2.1
      have hei := hE.2.2.2 i
      have nx : ∀ N', Fr [28, 29] N N' → RWt N' 28 (evw ek ew ec e (i + 1)) → WP 41 [] 2 [some (.ref 21), some (.ref 1), some (.int (nI e)), some (.ref 12), some (.int (nI i))] [] N' (fun r N => r = none ∧ Fr [23, 24, 25, 26, 27, 28, 29] M N ∧ RS N 23 24 C ∧ ROr N 25 no ow oq ∧ RWt N 28 (evw ek ew ec e ne)) := by
        intro N' hF' hW'
        simp only [B_41_0, B_41_2, B_41_3, cB, cP, cS, r_iconst_p, r_iconst_m, r_bipush_p, r_bipush_m, r_sipush_p, r_sipush_m, r_ldc_p, r_ldc_m, r_ldc_w_p, r_ldc_w_m, r_lconst_p, r_lconst_m, r_ldc2_w_p, r_ldc2_w_m, r_iload, r_iload_n, r_lload, r_lload_n, r_aload, r_aload_n, r_istore, r_istore_n, r_astore, r_astore_n, r_lstore, r_lstore_n, r_iinc_p, r_iinc_m, r_iadd, r_isub, r_imul, r_iand, r_ior, r_ixor, r_ishl, r_ishr, r_iushr, r_idiv, r_irem, r_ladd, r_lsub, r_lmul, r_ldiv, r_lrem, r_lshl, r_lcmp, r_i2l, r_i2b, r_i2s, r_dup_i, r_dup_r, r_dup2_ii, r_dup2_ir, r_dup2_l, r_pop, r_getfield, r_putfield, r_iaload, r_iastore, r_aaload, r_arraylength, r_if_eq, r_icmp_eq, r_if_ne, r_icmp_ne, r_if_lt, r_icmp_lt, r_if_ge, r_icmp_ge, r_if_gt, r_icmp_gt, r_if_le, r_icmp_le, r_goto, r_switch, r_ireturn0, r_ireturn1, r_lreturn, r_areturn, r_return, r_inv0, r_inv1, r_inv2, r_inv3, r_inv4, r_inv5, r_min, r_max, r_acopy, onI_s, onL_s, onR_s, onO_s, fv0, fv1, fv2, fv3, fp1, fp20, fp21, fp3, tl_s, tl_n, lg0, lg1, lg2, lg3, lg4, lg5, lg6, lg7, lg8, lg9, lg10, lg11, lg12, lg13, lg14, lg15, lg16, lg17, ls0, ls1, ls2, ls3, ls4, ls5, ls6, ls7, ls8, ls9, ls10, ls11, ls12, ls13, ls14, ls15, ls16, ls17, lk0, lk1, lk2, lk3, lk4, lk5, lk6, lk7, lk8, lk9, lk10, lk11, lk12, lk13, lk14, lk15, lk16, lk17, kl_n, kl_i, kl_r, kl_l, Nat.reduceAdd, Nat.reduceLeDiff, not_false_eq_true, r_ins0, r_ins1, r_ins2, r_ins3, r_ins4, r_ins5]
        rw [q_add]
        refine ih (i + 1) N' (by omega) (hF.tr hF' (fun _ h => h) (by decide)) (hR.fr hF' (by decide) (by decide)) ?_ hW'
        unfold ROr
        rw [hF' 25 (by decide), hF' 26 (by decide), hF' 27 (by decide)]
        exact hO
      rw [B_41_1]
      simp only [B_41_0, B_41_3, cB, cP, cS, r_iconst_p, r_iconst_m, r_bipush_p, r_bipush_m, r_sipush_p, r_sipush_m, r_ldc_p, r_ldc_m, r_ldc_w_p, r_ldc_w_m, r_lconst_p, r_lconst_m, r_ldc2_w_p, r_ldc2_w_m, r_iload, r_iload_n, r_lload, r_lload_n, r_aload, r_aload_n, r_istore, r_istore_n, r_astore, r_astore_n, r_lstore, r_lstore_n, r_iinc_p, r_iinc_m, r_iadd, r_isub, r_imul, r_iand, r_ior, r_ixor, r_ishl, r_ishr, r_iushr, r_idiv, r_irem, r_ladd, r_lsub, r_lmul, r_ldiv, r_lrem, r_lshl, r_lcmp, r_i2l, r_i2b, r_i2s, r_dup_i, r_dup_r, r_dup2_ii, r_dup2_ir, r_dup2_l, r_pop, r_getfield, r_putfield, r_iaload, r_iastore, r_aaload, r_arraylength, r_if_eq, r_icmp_eq, r_if_ne, r_icmp_ne, r_if_lt, r_icmp_lt, r_if_ge, r_icmp_ge, r_if_gt, r_icmp_gt, r_if_le, r_icmp_le, r_goto, r_switch, r_ireturn0, r_ireturn1, r_lreturn, r_areturn, r_return, r_inv0, r_inv1, r_inv2, r_inv3, r_inv4, r_inv5, r_min, r_max, r_acopy, onI_s, onL_s, onR_s, onO_s, fv0, fv1, fv2, fv3, fp1, fp20, fp21, fp3, tl_s, tl_n, lg0, lg1, lg2, lg3, lg4, lg5, lg6, lg7, lg8, lg9, lg10, lg11, lg12, lg13, lg14, lg15, lg16, lg17, ls0, ls1, ls2, ls3, ls4, ls5, ls6, ls7, ls8, ls9, ls10, ls11, ls12, ls13, ls14, ls15, ls16, ls17, lk0, lk1, lk2, lk3, lk4, lk5, lk6, lk7, lk8, lk9, lk10, lk11, lk12, lk13, lk14, lk15, lk16, lk17, kl_n, kl_i, kl_r, kl_l, Nat.reduceAdd, Nat.reduceLeDiff, not_false_eq_true, r_ins0, r_ins1, r_ins2, r_ins3, r_ins4, r_ins5]
      rw [hF 12 (by decide), hE.1, brc_neg (nI_ge (by omega) (by omega)), bit_nI he (by omega), q_eq (by have := Bool.toNat_le (e.testBit i); omega) (by omega), inb_n (n := 8) rfl (by omega) (by omega), inb_n (n := 8) rfl (by omega) (by omega), inb_n (n := 8) rfl (by omega) (by omega), nI_clamp (by omega), hF 13 (by decide), hF 14 (by decide), hF 15 (by decide), (hE.2.2.1 i (by omega)).1, (hE.2.2.1 i (by omega)).2.1, (hE.2.2.1 i (by omega)).2.2]
      by_cases hb : e.testBit i = true
      · rw [hb, brc_neg (fun q => q rfl)]
        refine ⟨by omega, by omega, by omega, trivial, by simp, ?_⟩
        refine (s_happen_28 hei.1 hei.2.1 hei.2.2 hW (evw_ok (fun j => (hE.2.2.2 j).2.1) i)).mono ?_
        rintro r N' ⟨rfl, hF', hW'⟩
        exact nx N' hF' (by unfold evw; rw [if_pos hb]; exact hW')
      · rw [brc_pos (by cases hq : e.testBit i
                        · decide
                        · exact absurd hq hb)]
        exact nx N Fr.rf (by unfold evw; rw [if_neg hb]; exact hW)
  exact key ne 0 N (by omega) hF0 hR hON hW
set_option maxHeartbeats 4000000 in
theorem s_prep_38 {M : Mem} {C : Col} {no ne e : Nat} {ow oq ek ew ec : Nat → Nat} (hB : RS M 7 8 C) (hO : ROr M 9 no ow oq) (hno : no ≤ 12) (hE : REv M ne ek ew ec) (he : e < 2 ^ 31) :
    Ct 41 [.ref 38, .ref 1, .int (nI e)] M (fun r N => r = none ∧ Fr [40, 41, 42, 43, 44, 45, 46] M N ∧ RS N 40 41 C ∧ ROr N 42 no ow oq ∧ RWt N 45 (evw ek ew ec e ne)) := by
  simp only [E_41, B_41_0, B_41_2, B_41_3, cB, cP, cS, r_iconst_p, r_iconst_m, r_bipush_p, r_bipush_m, r_sipush_p, r_sipush_m, r_ldc_p, r_ldc_m, r_ldc_w_p, r_ldc_w_m, r_lconst_p, r_lconst_m, r_ldc2_w_p, r_ldc2_w_m, r_iload, r_iload_n, r_lload, r_lload_n, r_aload, r_aload_n, r_istore, r_istore_n, r_astore, r_astore_n, r_lstore, r_lstore_n, r_iinc_p, r_iinc_m, r_iadd, r_isub, r_imul, r_iand, r_ior, r_ixor, r_ishl, r_ishr, r_iushr, r_idiv, r_irem, r_ladd, r_lsub, r_lmul, r_ldiv, r_lrem, r_lshl, r_lcmp, r_i2l, r_i2b, r_i2s, r_dup_i, r_dup_r, r_dup2_ii, r_dup2_ir, r_dup2_l, r_pop, r_getfield, r_putfield, r_iaload, r_iastore, r_aaload, r_arraylength, r_if_eq, r_icmp_eq, r_if_ne, r_icmp_ne, r_if_lt, r_icmp_lt, r_if_ge, r_icmp_ge, r_if_gt, r_icmp_gt, r_if_le, r_icmp_le, r_goto, r_switch, r_ireturn0, r_ireturn1, r_lreturn, r_areturn, r_return, r_inv0, r_inv1, r_inv2, r_inv3, r_inv4, r_inv5, r_min, r_max, r_acopy, onI_s, onL_s, onR_s, onO_s, fv0, fv1, fv2, fv3, fp1, fp20, fp21, fp3, tl_s, tl_n, lg0, lg1, lg2, lg3, lg4, lg5, lg6, lg7, lg8, lg9, lg10, lg11, lg12, lg13, lg14, lg15, lg16, lg17, ls0, ls1, ls2, ls3, ls4, ls5, ls6, ls7, ls8, ls9, ls10, ls11, ls12, ls13, ls14, ls15, ls16, ls17, lk0, lk1, lk2, lk3, lk4, lk5, lk6, lk7, lk8, lk9, lk10, lk11, lk12, lk13, lk14, lk15, lk16, lk17, kl_n, kl_i, kl_r, kl_l, Nat.reduceAdd, Nat.reduceLeDiff, not_false_eq_true, r_ins0, r_ins1, r_ins2, r_ins3, r_ins4, r_ins5]
  refine ⟨trivial, by simp, ?_⟩
  rw [(s_becomeS_39 M).ct]
  simp only [B_41_0, B_41_2, B_41_3, cB, cP, cS, r_iconst_p, r_iconst_m, r_bipush_p, r_bipush_m, r_sipush_p, r_sipush_m, r_ldc_p, r_ldc_m, r_ldc_w_p, r_ldc_w_m, r_lconst_p, r_lconst_m, r_ldc2_w_p, r_ldc2_w_m, r_iload, r_iload_n, r_lload, r_lload_n, r_aload, r_aload_n, r_istore, r_istore_n, r_astore, r_astore_n, r_lstore, r_lstore_n, r_iinc_p, r_iinc_m, r_iadd, r_isub, r_imul, r_iand, r_ior, r_ixor, r_ishl, r_ishr, r_iushr, r_idiv, r_irem, r_ladd, r_lsub, r_lmul, r_ldiv, r_lrem, r_lshl, r_lcmp, r_i2l, r_i2b, r_i2s, r_dup_i, r_dup_r, r_dup2_ii, r_dup2_ir, r_dup2_l, r_pop, r_getfield, r_putfield, r_iaload, r_iastore, r_aaload, r_arraylength, r_if_eq, r_icmp_eq, r_if_ne, r_icmp_ne, r_if_lt, r_icmp_lt, r_if_ge, r_icmp_ge, r_if_gt, r_icmp_gt, r_if_le, r_icmp_le, r_goto, r_switch, r_ireturn0, r_ireturn1, r_lreturn, r_areturn, r_return, r_inv0, r_inv1, r_inv2, r_inv3, r_inv4, r_inv5, r_min, r_max, r_acopy, onI_s, onL_s, onR_s, onO_s, fv0, fv1, fv2, fv3, fp1, fp20, fp21, fp3, tl_s, tl_n, lg0, lg1, lg2, lg3, lg4, lg5, lg6, lg7, lg8, lg9, lg10, lg11, lg12, lg13, lg14, lg15, lg16, lg17, ls0, ls1, ls2, ls3, ls4, ls5, ls6, ls7, ls8, ls9, ls10, ls11, ls12, ls13, ls14, ls15, ls16, ls17, lk0, lk1, lk2, lk3, lk4, lk5, lk6, lk7, lk8, lk9, lk10, lk11, lk12, lk13, lk14, lk15, lk16, lk17, kl_n, kl_i, kl_r, kl_l, Nat.reduceAdd, Nat.reduceLeDiff, not_false_eq_true, r_ins0, r_ins1, r_ins2, r_ins3, r_ins4, r_ins5]
  refine ⟨trivial, by simp, ?_⟩
  rw [(s_becomeO_42 _).ct]
  simp only [B_41_0, B_41_2, B_41_3, cB, cP, cS, r_iconst_p, r_iconst_m, r_bipush_p, r_bipush_m, r_sipush_p, r_sipush_m, r_ldc_p, r_ldc_m, r_ldc_w_p, r_ldc_w_m, r_lconst_p, r_lconst_m, r_ldc2_w_p, r_ldc2_w_m, r_iload, r_iload_n, r_lload, r_lload_n, r_aload, r_aload_n, r_istore, r_istore_n, r_astore, r_astore_n, r_lstore, r_lstore_n, r_iinc_p, r_iinc_m, r_iadd, r_isub, r_imul, r_iand, r_ior, r_ixor, r_ishl, r_ishr, r_iushr, r_idiv, r_irem, r_ladd, r_lsub, r_lmul, r_ldiv, r_lrem, r_lshl, r_lcmp, r_i2l, r_i2b, r_i2s, r_dup_i, r_dup_r, r_dup2_ii, r_dup2_ir, r_dup2_l, r_pop, r_getfield, r_putfield, r_iaload, r_iastore, r_aaload, r_arraylength, r_if_eq, r_icmp_eq, r_if_ne, r_icmp_ne, r_if_lt, r_icmp_lt, r_if_ge, r_icmp_ge, r_if_gt, r_icmp_gt, r_if_le, r_icmp_le, r_goto, r_switch, r_ireturn0, r_ireturn1, r_lreturn, r_areturn, r_return, r_inv0, r_inv1, r_inv2, r_inv3, r_inv4, r_inv5, r_min, r_max, r_acopy, onI_s, onL_s, onR_s, onO_s, fv0, fv1, fv2, fv3, fp1, fp20, fp21, fp3, tl_s, tl_n, lg0, lg1, lg2, lg3, lg4, lg5, lg6, lg7, lg8, lg9, lg10, lg11, lg12, lg13, lg14, lg15, lg16, lg17, ls0, ls1, ls2, ls3, ls4, ls5, ls6, ls7, ls8, ls9, ls10, ls11, ls12, ls13, ls14, ls15, ls16, ls17, lk0, lk1, lk2, lk3, lk4, lk5, lk6, lk7, lk8, lk9, lk10, lk11, lk12, lk13, lk14, lk15, lk16, lk17, kl_n, kl_i, kl_r, kl_l, Nat.reduceAdd, Nat.reduceLeDiff, not_false_eq_true, r_ins0, r_ins1, r_ins2, r_ins3, r_ins4, r_ins5]
  refine ⟨trivial, by simp, ?_⟩
  refine (s_calm_45 _).mono ?_
  rintro r N ⟨rfl, hF, hW⟩
  simp only [B_41_0, B_41_2, B_41_3, cB, cP, cS, r_iconst_p, r_iconst_m, r_bipush_p, r_bipush_m, r_sipush_p, r_sipush_m, r_ldc_p, r_ldc_m, r_ldc_w_p, r_ldc_w_m, r_lconst_p, r_lconst_m, r_ldc2_w_p, r_ldc2_w_m, r_iload, r_iload_n, r_lload, r_lload_n, r_aload, r_aload_n, r_istore, r_istore_n, r_astore, r_astore_n, r_lstore, r_lstore_n, r_iinc_p, r_iinc_m, r_iadd, r_isub, r_imul, r_iand, r_ior, r_ixor, r_ishl, r_ishr, r_iushr, r_idiv, r_irem, r_ladd, r_lsub, r_lmul, r_ldiv, r_lrem, r_lshl, r_lcmp, r_i2l, r_i2b, r_i2s, r_dup_i, r_dup_r, r_dup2_ii, r_dup2_ir, r_dup2_l, r_pop, r_getfield, r_putfield, r_iaload, r_iastore, r_aaload, r_arraylength, r_if_eq, r_icmp_eq, r_if_ne, r_icmp_ne, r_if_lt, r_icmp_lt, r_if_ge, r_icmp_ge, r_if_gt, r_icmp_gt, r_if_le, r_icmp_le, r_goto, r_switch, r_ireturn0, r_ireturn1, r_lreturn, r_areturn, r_return, r_inv0, r_inv1, r_inv2, r_inv3, r_inv4, r_inv5, r_min, r_max, r_acopy, onI_s, onL_s, onR_s, onO_s, fv0, fv1, fv2, fv3, fp1, fp20, fp21, fp3, tl_s, tl_n, lg0, lg1, lg2, lg3, lg4, lg5, lg6, lg7, lg8, lg9, lg10, lg11, lg12, lg13, lg14, lg15, lg16, lg17, ls0, ls1, ls2, ls3, ls4, ls5, ls6, ls7, ls8, ls9, ls10, ls11, ls12, ls13, ls14, ls15, ls16, ls17, lk0, lk1, lk2, lk3, lk4, lk5, lk6, lk7, lk8, lk9, lk10, lk11, lk12, lk13, lk14, lk15, lk16, lk17, kl_n, kl_i, kl_r, kl_l, Nat.reduceAdd, Nat.reduceLeDiff, not_false_eq_true, r_ins0, r_ins1, r_ins2, r_ins3, r_ins4, r_ins5]
  have hF0 : Fr [40, 41, 42, 43, 44, 45, 46] M N := by
    intro d hd
    have n2 : ¬ d = 40 := fun q => hd (by rw [q]; decide)
    have n3 : ¬ d = 41 := fun q => hd (by rw [q]; decide)
    have n4 : ¬ d = 42 := fun q => hd (by rw [q]; decide)
    have n5 : ¬ d = 43 := fun q => hd (by rw [q]; decide)
    have n6 : ¬ d = 44 := fun q => hd (by rw [q]; decide)
    rw [hF d (fun q => hd (by simp only [List.mem_cons, List.not_mem_nil, or_false] at q ⊢; omega)), sm_ne n4, cp_if, if_neg n6, cp_if, if_neg n5, cp_if, if_neg n3, cp_if, if_neg n2]
  have hR : RS N 40 41 C := by
    intro c hc
    rw [hF 40 (by decide), hF 41 (by decide), sm_ne (by decide), sm_ne (by decide)]
    simp only [cp_if]
    exact RS_become (g' := 40) (h' := 41) hB (by decide) c hc
  have hON : ROr N 42 no ow oq := by
    refine ⟨?_, fun i hi => ?_⟩
    · rw [hF 42 (by decide), sm_eq, u_eq]
      simp only [cp_if]
      exact hO.1
    · rw [hF 43 (by decide), hF 44 (by decide), sm_ne (by decide), sm_ne (by decide)]
      simp only [cp_if, if_true, show (43 = 44) = False by decide, show (10 = 40) = False by decide, show (10 = 41) = False by decide, show (11 = 43) = False by decide, show (11 = 41) = False by decide, show (11 = 40) = False by decide, if_false]
      rw [cpy_in (by omega) (by omega), cpy_in (by omega) (by omega)]
      simp only [Nat.zero_add, Nat.sub_zero]
      exact hO.2 i hi
  have key : ∀ (n i : Nat) (N : Mem), i + n = ne → Fr [40, 41, 42, 43, 44, 45, 46] M N → RS N 40 41 C → ROr N 42 no ow oq → RWt N 45 (evw ek ew ec e i) → WP 41 [] 1 [some (.ref 38), some (.ref 1), some (.int (nI e)), some (.ref 12), some (.int (nI i))] [] N (fun r N => r = none ∧ Fr [40, 41, 42, 43, 44, 45, 46] M N ∧ RS N 40 41 C ∧ ROr N 42 no ow oq ∧ RWt N 45 (evw ek ew ec e ne)) := by
    intro n
    induction n with
    | zero =>
      intro i N hi hF hR hO hW
      obtain rfl : i = ne := by omega
      rw [B_41_1]
      simp only [B_41_0, B_41_2, B_41_3, cB, cP, cS, r_iconst_p, r_iconst_m, r_bipush_p, r_bipush_m, r_sipush_p, r_sipush_m, r_ldc_p, r_ldc_m, r_ldc_w_p, r_ldc_w_m, r_lconst_p, r_lconst_m, r_ldc2_w_p, r_ldc2_w_m, r_iload, r_iload_n, r_lload, r_lload_n, r_aload, r_aload_n, r_istore, r_istore_n, r_astore, r_astore_n, r_lstore, r_lstore_n, r_iinc_p, r_iinc_m, r_iadd, r_isub, r_imul, r_iand, r_ior, r_ixor, r_ishl, r_ishr, r_iushr, r_idiv, r_irem, r_ladd, r_lsub, r_lmul, r_ldiv, r_lrem, r_lshl, r_lcmp, r_i2l, r_i2b, r_i2s, r_dup_i, r_dup_r, r_dup2_ii, r_dup2_ir, r_dup2_l, r_pop, r_getfield, r_putfield, r_iaload, r_iastore, r_aaload, r_arraylength, r_if_eq, r_icmp_eq, r_if_ne, r_icmp_ne, r_if_lt, r_icmp_lt, r_if_ge, r_icmp_ge, r_if_gt, r_icmp_gt, r_if_le, r_icmp_le, r_goto, r_switch, r_ireturn0, r_ireturn1, r_lreturn, r_areturn, r_return, r_inv0, r_inv1, r_inv2, r_inv3, r_inv4, r_inv5, r_min, r_max, r_acopy, onI_s, onL_s, onR_s, onO_s, fv0, fv1, fv2, fv3, fp1, fp20, fp21, fp3, tl_s, tl_n, lg0, lg1, lg2, lg3, lg4, lg5, lg6, lg7, lg8, lg9, lg10, lg11, lg12, lg13, lg14, lg15, lg16, lg17, ls0, ls1, ls2, ls3, ls4, ls5, ls6, ls7, ls8, ls9, ls10, ls11, ls12, ls13, ls14, ls15, ls16, ls17, lk0, lk1, lk2, lk3, lk4, lk5, lk6, lk7, lk8, lk9, lk10, lk11, lk12, lk13, lk14, lk15, lk16, lk17, kl_n, kl_i, kl_r, kl_l, Nat.reduceAdd, Nat.reduceLeDiff, not_false_eq_true, r_ins0, r_ins1, r_ins2, r_ins3, r_ins4, r_ins5]
      rw [hF 12 (by decide), hE.1, brc_pos (Int32.le_refl _)]
      exact ⟨trivial, hF, hR, hO, hW⟩
    | succ n ih =>
      intro i N hi hF hR hO hW
      have h8 := hE.2.1
      have hei := hE.2.2.2 i
      have nx : ∀ N', Fr [45, 46] N N' → RWt N' 45 (evw ek ew ec e (i + 1)) → WP 41 [] 2 [some (.ref 38), some (.ref 1), some (.int (nI e)), some (.ref 12), some (.int (nI i))] [] N' (fun r N => r = none ∧ Fr [40, 41, 42, 43, 44, 45, 46] M N ∧ RS N 40 41 C ∧ ROr N 42 no ow oq ∧ RWt N 45 (evw ek ew ec e ne)) := by
        intro N' hF' hW'
        simp only [B_41_0, B_41_2, B_41_3, cB, cP, cS, r_iconst_p, r_iconst_m, r_bipush_p, r_bipush_m, r_sipush_p, r_sipush_m, r_ldc_p, r_ldc_m, r_ldc_w_p, r_ldc_w_m, r_lconst_p, r_lconst_m, r_ldc2_w_p, r_ldc2_w_m, r_iload, r_iload_n, r_lload, r_lload_n, r_aload, r_aload_n, r_istore, r_istore_n, r_astore, r_astore_n, r_lstore, r_lstore_n, r_iinc_p, r_iinc_m, r_iadd, r_isub, r_imul, r_iand, r_ior, r_ixor, r_ishl, r_ishr, r_iushr, r_idiv, r_irem, r_ladd, r_lsub, r_lmul, r_ldiv, r_lrem, r_lshl, r_lcmp, r_i2l, r_i2b, r_i2s, r_dup_i, r_dup_r, r_dup2_ii, r_dup2_ir, r_dup2_l, r_pop, r_getfield, r_putfield, r_iaload, r_iastore, r_aaload, r_arraylength, r_if_eq, r_icmp_eq, r_if_ne, r_icmp_ne, r_if_lt, r_icmp_lt, r_if_ge, r_icmp_ge, r_if_gt, r_icmp_gt, r_if_le, r_icmp_le, r_goto, r_switch, r_ireturn0, r_ireturn1, r_lreturn, r_areturn, r_return, r_inv0, r_inv1, r_inv2, r_inv3, r_inv4, r_inv5, r_min, r_max, r_acopy, onI_s, onL_s, onR_s, onO_s, fv0, fv1, fv2, fv3, fp1, fp20, fp21, fp3, tl_s, tl_n, lg0, lg1, lg2, lg3, lg4, lg5, lg6, lg7, lg8, lg9, lg10, lg11, lg12, lg13, lg14, lg15, lg16, lg17, ls0, ls1, ls2, ls3, ls4, ls5, ls6, ls7, ls8, ls9, ls10, ls11, ls12, ls13, ls14, ls15, ls16, ls17, lk0, lk1, lk2, lk3, lk4, lk5, lk6, lk7, lk8, lk9, lk10, lk11, lk12, lk13, lk14, lk15, lk16, lk17, kl_n, kl_i, kl_r, kl_l, Nat.reduceAdd, Nat.reduceLeDiff, not_false_eq_true, r_ins0, r_ins1, r_ins2, r_ins3, r_ins4, r_ins5]
        rw [q_add]
        refine ih (i + 1) N' (by omega) (hF.tr hF' (fun _ h => h) (by decide)) (hR.fr hF' (by decide) (by decide)) ?_ hW'
        unfold ROr
        rw [hF' 42 (by decide), hF' 43 (by decide), hF' 44 (by decide)]
        exact hO
      rw [B_41_1]
      simp only [B_41_0, B_41_3, cB, cP, cS, r_iconst_p, r_iconst_m, r_bipush_p, r_bipush_m, r_sipush_p, r_sipush_m, r_ldc_p, r_ldc_m, r_ldc_w_p, r_ldc_w_m, r_lconst_p, r_lconst_m, r_ldc2_w_p, r_ldc2_w_m, r_iload, r_iload_n, r_lload, r_lload_n, r_aload, r_aload_n, r_istore, r_istore_n, r_astore, r_astore_n, r_lstore, r_lstore_n, r_iinc_p, r_iinc_m, r_iadd, r_isub, r_imul, r_iand, r_ior, r_ixor, r_ishl, r_ishr, r_iushr, r_idiv, r_irem, r_ladd, r_lsub, r_lmul, r_ldiv, r_lrem, r_lshl, r_lcmp, r_i2l, r_i2b, r_i2s, r_dup_i, r_dup_r, r_dup2_ii, r_dup2_ir, r_dup2_l, r_pop, r_getfield, r_putfield, r_iaload, r_iastore, r_aaload, r_arraylength, r_if_eq, r_icmp_eq, r_if_ne, r_icmp_ne, r_if_lt, r_icmp_lt, r_if_ge, r_icmp_ge, r_if_gt, r_icmp_gt, r_if_le, r_icmp_le, r_goto, r_switch, r_ireturn0, r_ireturn1, r_lreturn, r_areturn, r_return, r_inv0, r_inv1, r_inv2, r_inv3, r_inv4, r_inv5, r_min, r_max, r_acopy, onI_s, onL_s, onR_s, onO_s, fv0, fv1, fv2, fv3, fp1, fp20, fp21, fp3, tl_s, tl_n, lg0, lg1, lg2, lg3, lg4, lg5, lg6, lg7, lg8, lg9, lg10, lg11, lg12, lg13, lg14, lg15, lg16, lg17, ls0, ls1, ls2, ls3, ls4, ls5, ls6, ls7, ls8, ls9, ls10, ls11, ls12, ls13, ls14, ls15, ls16, ls17, lk0, lk1, lk2, lk3, lk4, lk5, lk6, lk7, lk8, lk9, lk10, lk11, lk12, lk13, lk14, lk15, lk16, lk17, kl_n, kl_i, kl_r, kl_l, Nat.reduceAdd, Nat.reduceLeDiff, not_false_eq_true, r_ins0, r_ins1, r_ins2, r_ins3, r_ins4, r_ins5]
      rw [hF 12 (by decide), hE.1, brc_neg (nI_ge (by omega) (by omega)), bit_nI he (by omega), q_eq (by have := Bool.toNat_le (e.testBit i); omega) (by omega), inb_n (n := 8) rfl (by omega) (by omega), inb_n (n := 8) rfl (by omega) (by omega), inb_n (n := 8) rfl (by omega) (by omega), nI_clamp (by omega), hF 13 (by decide), hF 14 (by decide), hF 15 (by decide), (hE.2.2.1 i (by omega)).1, (hE.2.2.1 i (by omega)).2.1, (hE.2.2.1 i (by omega)).2.2]
      by_cases hb : e.testBit i = true
      · rw [hb, brc_neg (fun q => q rfl)]
        refine ⟨by omega, by omega, by omega, trivial, by simp, ?_⟩
        refine (s_happen_45 hei.1 hei.2.1 hei.2.2 hW (evw_ok (fun j => (hE.2.2.2 j).2.1) i)).mono ?_
        rintro r N' ⟨rfl, hF', hW'⟩
        exact nx N' hF' (by unfold evw; rw [if_pos hb]; exact hW')
      · rw [brc_pos (by cases hq : e.testBit i
                        · decide
                        · exact absurd hq hb)]
        exact nx N Fr.rf (by unfold evw; rw [if_neg hb]; exact hW)
  exact key ne 0 N (by omega) hF0 hR hON hW
