/-! Summer: melt, run -/
def mix (C E : Col) (k : Nat) : Col := fun d => if d < k then E d else C d
theorem mix_0 (C E : Col) : mix C E 0 = C := by funext d; simp [mix]
theorem mix_s {C E : Col} {k : Nat} : mix C E (k + 1) = setc (mix C E k) k (E k) := by
  funext d
  unfold mix setc
  by_cases h : d = k
  · subst h; simp
  · rw [if_neg h]
    dsimp only
    by_cases h2 : d < k
    · rw [if_pos h2, if_pos (by omega)]
    · rw [if_neg h2, if_neg (by omega)]
theorem RS_ext {M : Mem} {g h : Nat} {C E : Col} (H : RS M g h C) (e : ∀ c, c < 6 → E c = C c) : RS M g h E := fun c hc => by rw [e c hc]; exact H c hc
def ROr (M : Mem) (o no : Nat) (ow oq : Nat → Nat) : Prop := M o 2 = nI no ∧ ∀ i, i < no → M (o + 1) i = nI (ow i) ∧ M (o + 2) i = nI (oq i)
def InW (C : Col) (no : Nat) (ow oq : Nat → Nat) (x : Wth) : Inp := (C, no, ow, oq, fun w => x.1.testBit w, fun w => x.2.1.testBit w, fun w c => swF x w c)
set_option maxHeartbeats 4000000 in
theorem s_melt_21 {M : Mem} {C : Col} {wk : Nat} {x : Wth} (hD : RS M 23 24 C) (hC : okC6 C) (hw : wk < 24) (hW : RWt M 28 x) (hx : okWt x) :
    Ct 44 [.ref 21, .int (nI wk)] M (fun r N => r = some (.int (nI (mlW C (swF x wk) (x.1.testBit wk) (x.2.1.testBit wk)))) ∧ Fr [23, 24, 34] M N ∧ RS N 23 24 (mlC C (swF x wk) (x.1.testBit wk) (x.2.1.testBit wk))) := by
  generalize hE : mlC C (swF x wk) (x.1.testBit wk) (x.2.1.testBit wk) = E
  generalize hWt : (fun c => (mlc C (swF x wk) (x.1.testBit wk) (x.2.1.testBit wk) c).2) = wt
  have hmw : mlW C (swF x wk) (x.1.testBit wk) (x.2.1.testBit wk) = smN wt 6 := by unfold mlW; rw [hWt]
  have hEc : ∀ c, (mlc C (swF x wk) (x.1.testBit wk) (x.2.1.testBit wk) c).1 = E c := fun c => by rw [← hE]; rfl
  have hwc : ∀ c, (mlc C (swF x wk) (x.1.testBit wk) (x.2.1.testBit wk) c).2 = wt c := fun c => by rw [← hWt]
  rw [hmw]
  simp only [E_44, B_44_0, B_44_2, B_44_3, cP, cS, nI_clamp (show 0 < 2 ^ 31 by decide), nI_clamp (show 6 < 2 ^ 31 by decide), q_lt (show 0 < 2 ^ 31 by decide) (show 0 < 2 ^ 31 by decide), q_lt (show 6 < 2 ^ 31 by decide) (show 0 < 2 ^ 31 by decide), r_iconst_p, r_iconst_m, r_bipush_p, r_bipush_m, r_sipush_p, r_sipush_m, r_ldc_p, r_ldc_m, r_ldc_w_p, r_ldc_w_m, r_lconst_p, r_lconst_m, r_ldc2_w_p, r_ldc2_w_m, r_iload, r_iload_n, r_lload, r_lload_n, r_aload, r_aload_n, r_istore, r_istore_n, r_astore, r_astore_n, r_lstore, r_lstore_n, r_iinc_p, r_iinc_m, r_iadd, r_isub, r_imul, r_iand, r_ior, r_ixor, r_ishl, r_ishr, r_iushr, r_idiv, r_irem, r_ladd, r_lsub, r_lmul, r_ldiv, r_lrem, r_lshl, r_lcmp, r_i2l, r_i2b, r_i2s, r_dup_i, r_dup_r, r_dup2_ii, r_dup2_ir, r_dup2_l, r_pop, r_getfield, r_putfield, r_iaload, r_iastore, r_aaload, r_arraylength, r_if_eq, r_icmp_eq, r_if_ne, r_icmp_ne, r_if_lt, r_icmp_lt, r_if_ge, r_icmp_ge, r_if_gt, r_icmp_gt, r_if_le, r_icmp_le, r_goto, r_switch, r_ireturn0, r_ireturn1, r_lreturn, r_areturn, r_return, r_inv0, r_inv1, r_inv2, r_inv3, r_inv4, r_inv5, r_min, r_max, r_acopy, onI_s, onL_s, onR_s, onO_s, fv0, fv1, fv2, fv3, fp1, fp20, fp21, fp3, tl_s, tl_n, lg0, lg1, lg2, lg3, lg4, lg5, lg6, lg7, lg8, lg9, lg10, lg11, lg12, lg13, lg14, lg15, lg16, lg17, ls0, ls1, ls2, ls3, ls4, ls5, ls6, ls7, ls8, ls9, ls10, ls11, ls12, ls13, ls14, ls15, ls16, ls17, lk0, lk1, lk2, lk3, lk4, lk5, lk6, lk7, lk8, lk9, lk10, lk11, lk12, lk13, lk14, lk15, lk16, lk17, kl_n, kl_i, kl_r, kl_l, Nat.reduceAdd, Nat.reduceLeDiff, not_false_eq_true, r_ins0, r_ins1, r_ins2, r_ins3, r_ins4, r_ins5]
  refine ⟨by simp, ?_⟩
  have key : ∀ (n k : Nat) (N : Mem), k + n = 6 → Fr [23, 24, 34] M N → RS N 23 24 (mix C E k) → (∀ d, d < 6 → N 34 d = nI (C d).length) → WP 44 [] 1 [some (.ref 21), some (.int (nI wk)), some (.int (nI (smN wt k))), some (.int (nI k))] [] N (fun r N => r = some (.int (nI (smN wt 6))) ∧ Fr [23, 24, 34] M N ∧ RS N 23 24 E) := by
    intro n
    induction n with
    | zero =>
      intro k N hk hF hR hst
      obtain rfl : k = 6 := by omega
      rw [B_44_1]
      simp only [B_44_0, B_44_2, B_44_3, cP, cS, r_iconst_p, r_iconst_m, r_bipush_p, r_bipush_m, r_sipush_p, r_sipush_m, r_ldc_p, r_ldc_m, r_ldc_w_p, r_ldc_w_m, r_lconst_p, r_lconst_m, r_ldc2_w_p, r_ldc2_w_m, r_iload, r_iload_n, r_lload, r_lload_n, r_aload, r_aload_n, r_istore, r_istore_n, r_astore, r_astore_n, r_lstore, r_lstore_n, r_iinc_p, r_iinc_m, r_iadd, r_isub, r_imul, r_iand, r_ior, r_ixor, r_ishl, r_ishr, r_iushr, r_idiv, r_irem, r_ladd, r_lsub, r_lmul, r_ldiv, r_lrem, r_lshl, r_lcmp, r_i2l, r_i2b, r_i2s, r_dup_i, r_dup_r, r_dup2_ii, r_dup2_ir, r_dup2_l, r_pop, r_getfield, r_putfield, r_iaload, r_iastore, r_aaload, r_arraylength, r_if_eq, r_icmp_eq, r_if_ne, r_icmp_ne, r_if_lt, r_icmp_lt, r_if_ge, r_icmp_ge, r_if_gt, r_icmp_gt, r_if_le, r_icmp_le, r_goto, r_switch, r_ireturn0, r_ireturn1, r_lreturn, r_areturn, r_return, r_inv0, r_inv1, r_inv2, r_inv3, r_inv4, r_inv5, r_min, r_max, r_acopy, onI_s, onL_s, onR_s, onO_s, fv0, fv1, fv2, fv3, fp1, fp20, fp21, fp3, tl_s, tl_n, lg0, lg1, lg2, lg3, lg4, lg5, lg6, lg7, lg8, lg9, lg10, lg11, lg12, lg13, lg14, lg15, lg16, lg17, ls0, ls1, ls2, ls3, ls4, ls5, ls6, ls7, ls8, ls9, ls10, ls11, ls12, ls13, ls14, ls15, ls16, ls17, lk0, lk1, lk2, lk3, lk4, lk5, lk6, lk7, lk8, lk9, lk10, lk11, lk12, lk13, lk14, lk15, lk16, lk17, kl_n, kl_i, kl_r, kl_l, Nat.reduceAdd, Nat.reduceLeDiff, not_false_eq_true, r_ins0, r_ins1, r_ins2, r_ins3, r_ins4, r_ins5]
      rw [brc_pos (Int32.le_refl _)]
      exact ⟨trivial, hF, RS_ext hR (fun c hc => by simp [mix, hc])⟩
    | succ n ih =>
      intro k N hk hF hR hst
      have hk6 : k < 6 := by omega
      have hl := (hC k).1
      have nx : ∀ N', Fr [23, 24] N N' → RS N' 23 24 (mix C E (k + 1)) → WP 44 [] 2 [some (.ref 21), some (.int (nI wk)), some (.int (nI (smN wt (k + 1)))), some (.int (nI k))] [] N' (fun r N => r = some (.int (nI (smN wt 6))) ∧ Fr [23, 24, 34] M N ∧ RS N 23 24 E) := by
        intro N' hF' hR'
        simp only [B_44_0, B_44_2, B_44_3, cP, cS, r_iconst_p, r_iconst_m, r_bipush_p, r_bipush_m, r_sipush_p, r_sipush_m, r_ldc_p, r_ldc_m, r_ldc_w_p, r_ldc_w_m, r_lconst_p, r_lconst_m, r_ldc2_w_p, r_ldc2_w_m, r_iload, r_iload_n, r_lload, r_lload_n, r_aload, r_aload_n, r_istore, r_istore_n, r_astore, r_astore_n, r_lstore, r_lstore_n, r_iinc_p, r_iinc_m, r_iadd, r_isub, r_imul, r_iand, r_ior, r_ixor, r_ishl, r_ishr, r_iushr, r_idiv, r_irem, r_ladd, r_lsub, r_lmul, r_ldiv, r_lrem, r_lshl, r_lcmp, r_i2l, r_i2b, r_i2s, r_dup_i, r_dup_r, r_dup2_ii, r_dup2_ir, r_dup2_l, r_pop, r_getfield, r_putfield, r_iaload, r_iastore, r_aaload, r_arraylength, r_if_eq, r_icmp_eq, r_if_ne, r_icmp_ne, r_if_lt, r_icmp_lt, r_if_ge, r_icmp_ge, r_if_gt, r_icmp_gt, r_if_le, r_icmp_le, r_goto, r_switch, r_ireturn0, r_ireturn1, r_lreturn, r_areturn, r_return, r_inv0, r_inv1, r_inv2, r_inv3, r_inv4, r_inv5, r_min, r_max, r_acopy, onI_s, onL_s, onR_s, onO_s, fv0, fv1, fv2, fv3, fp1, fp20, fp21, fp3, tl_s, tl_n, lg0, lg1, lg2, lg3, lg4, lg5, lg6, lg7, lg8, lg9, lg10, lg11, lg12, lg13, lg14, lg15, lg16, lg17, ls0, ls1, ls2, ls3, ls4, ls5, ls6, ls7, ls8, ls9, ls10, ls11, ls12, ls13, ls14, ls15, ls16, ls17, lk0, lk1, lk2, lk3, lk4, lk5, lk6, lk7, lk8, lk9, lk10, lk11, lk12, lk13, lk14, lk15, lk16, lk17, kl_n, kl_i, kl_r, kl_l, Nat.reduceAdd, Nat.reduceLeDiff, not_false_eq_true, r_ins0, r_ins1, r_ins2, r_ins3, r_ins4, r_ins5]
        rw [q_add]
        exact ih (k + 1) N' (by omega) (hF.tr hF' (by decide) (by decide)) hR' (fun d hd => by rw [hF' 34 (by decide)]; exact hst d hd)
      rw [B_44_1]
      simp only [B_44_0, B_44_3, cP, cS, r_iconst_p, r_iconst_m, r_bipush_p, r_bipush_m, r_sipush_p, r_sipush_m, r_ldc_p, r_ldc_m, r_ldc_w_p, r_ldc_w_m, r_lconst_p, r_lconst_m, r_ldc2_w_p, r_ldc2_w_m, r_iload, r_iload_n, r_lload, r_lload_n, r_aload, r_aload_n, r_istore, r_istore_n, r_astore, r_astore_n, r_lstore, r_lstore_n, r_iinc_p, r_iinc_m, r_iadd, r_isub, r_imul, r_iand, r_ior, r_ixor, r_ishl, r_ishr, r_iushr, r_idiv, r_irem, r_ladd, r_lsub, r_lmul, r_ldiv, r_lrem, r_lshl, r_lcmp, r_i2l, r_i2b, r_i2s, r_dup_i, r_dup_r, r_dup2_ii, r_dup2_ir, r_dup2_l, r_pop, r_getfield, r_putfield, r_iaload, r_iastore, r_aaload, r_arraylength, r_if_eq, r_icmp_eq, r_if_ne, r_icmp_ne, r_if_lt, r_icmp_lt, r_if_ge, r_icmp_ge, r_if_gt, r_icmp_gt, r_if_le, r_icmp_le, r_goto, r_switch, r_ireturn0, r_ireturn1, r_lreturn, r_areturn, r_return, r_inv0, r_inv1, r_inv2, r_inv3, r_inv4, r_inv5, r_min, r_max, r_acopy, onI_s, onL_s, onR_s, onO_s, fv0, fv1, fv2, fv3, fp1, fp20, fp21, fp3, tl_s, tl_n, lg0, lg1, lg2, lg3, lg4, lg5, lg6, lg7, lg8, lg9, lg10, lg11, lg12, lg13, lg14, lg15, lg16, lg17, ls0, ls1, ls2, ls3, ls4, ls5, ls6, ls7, ls8, ls9, ls10, ls11, ls12, ls13, ls14, ls15, ls16, ls17, lk0, lk1, lk2, lk3, lk4, lk5, lk6, lk7, lk8, lk9, lk10, lk11, lk12, lk13, lk14, lk15, lk16, lk17, kl_n, kl_i, kl_r, kl_l, Nat.reduceAdd, Nat.reduceLeDiff, not_false_eq_true, r_ins0, r_ins1, r_ins2, r_ins3, r_ins4, r_ins5]
      rw [brc_neg (nI_ge (by omega) (by omega)), inb_n (n := 6) rfl (by omega) (by omega), nI_clamp (by omega), hst k hk6, q_le (by omega) (by omega)]
      refine ⟨hk6, brc_i (fun hz => ?_) (fun hz => ?_)⟩
      · have e0 : C k = [] := List.length_eq_zero_iff.mp (by omega)
        have e1 : wt k = 0 := by rw [← hwc]; unfold mlc; rw [e0]; rfl
        have e2 : E k = [] := by rw [← hEc]; unfold mlc; rw [e0]; rfl
        have h := nx N Fr.rf (by
          rw [mix_s, e2]
          refine RS_ext hR (fun c _ => ?_)
          unfold setc
          split
          · rename_i e; rw [e]; simp [mix, e0]
          · rfl)
        rw [smN_s, e1] at h
        exact h
      · refine ⟨trivial, by simp, ?_⟩
        have hFW : RWt N 28 x := ⟨by rw [hF 28 (by decide)]; exact hW.1, by rw [hF 28 (by decide)]; exact hW.2.1, fun c hc => by rw [hF 29 (by decide)]; exact hW.2.2 c hc⟩
        refine (s_mcol_21 hR hk6 (by simp [mix]) hC hst (by intro e; rw [e] at hz; exact hz (Nat.le_refl 0)) hw hFW hx).mono ?_
        rintro r N' ⟨rfl, hF', hR'⟩
        simp only [B_44_0, B_44_3, cP, cS, r_iconst_p, r_iconst_m, r_bipush_p, r_bipush_m, r_sipush_p, r_sipush_m, r_ldc_p, r_ldc_m, r_ldc_w_p, r_ldc_w_m, r_lconst_p, r_lconst_m, r_ldc2_w_p, r_ldc2_w_m, r_iload, r_iload_n, r_lload, r_lload_n, r_aload, r_aload_n, r_istore, r_istore_n, r_astore, r_astore_n, r_lstore, r_lstore_n, r_iinc_p, r_iinc_m, r_iadd, r_isub, r_imul, r_iand, r_ior, r_ixor, r_ishl, r_ishr, r_iushr, r_idiv, r_irem, r_ladd, r_lsub, r_lmul, r_ldiv, r_lrem, r_lshl, r_lcmp, r_i2l, r_i2b, r_i2s, r_dup_i, r_dup_r, r_dup2_ii, r_dup2_ir, r_dup2_l, r_pop, r_getfield, r_putfield, r_iaload, r_iastore, r_aaload, r_arraylength, r_if_eq, r_icmp_eq, r_if_ne, r_icmp_ne, r_if_lt, r_icmp_lt, r_if_ge, r_icmp_ge, r_if_gt, r_icmp_gt, r_if_le, r_icmp_le, r_goto, r_switch, r_ireturn0, r_ireturn1, r_lreturn, r_areturn, r_return, r_inv0, r_inv1, r_inv2, r_inv3, r_inv4, r_inv5, r_min, r_max, r_acopy, onI_s, onL_s, onR_s, onO_s, fv0, fv1, fv2, fv3, fp1, fp20, fp21, fp3, tl_s, tl_n, lg0, lg1, lg2, lg3, lg4, lg5, lg6, lg7, lg8, lg9, lg10, lg11, lg12, lg13, lg14, lg15, lg16, lg17, ls0, ls1, ls2, ls3, ls4, ls5, ls6, ls7, ls8, ls9, ls10, ls11, ls12, ls13, ls14, ls15, ls16, ls17, lk0, lk1, lk2, lk3, lk4, lk5, lk6, lk7, lk8, lk9, lk10, lk11, lk12, lk13, lk14, lk15, lk16, lk17, kl_n, kl_i, kl_r, kl_l, Nat.reduceAdd, Nat.reduceLeDiff, not_false_eq_true, r_ins0, r_ins1, r_ins2, r_ins3, r_ins4, r_ins5]
        rw [hwc, q_add, ← smN_s]
        rw [hEc, ← mix_s] at hR'
        exact nx N' hF' hR'
  refine key 6 0 _ (by omega) ?_ ?_ ?_
  · intro d hd
    rw [cp_if, if_neg (fun q => hd (by rw [q]; decide))]
  · rw [mix_0]
    intro c hc
    simp only [cp_if]
    exact hD c hc
  · intro d hd
    rw [cp_if, if_pos rfl, cpy_in (by omega) (by omega)]
    simp only [Nat.zero_add, Nat.sub_zero]
    exact (hD d hd).1
set_option maxHeartbeats 4000000 in
theorem s_melt_38 {M : Mem} {C : Col} {wk : Nat} {x : Wth} (hD : RS M 40 41 C) (hC : okC6 C) (hw : wk < 24) (hW : RWt M 45 x) (hx : okWt x) :
    Ct 44 [.ref 38, .int (nI wk)] M (fun r N => r = some (.int (nI (mlW C (swF x wk) (x.1.testBit wk) (x.2.1.testBit wk)))) ∧ Fr [40, 41, 51] M N ∧ RS N 40 41 (mlC C (swF x wk) (x.1.testBit wk) (x.2.1.testBit wk))) := by
  generalize hE : mlC C (swF x wk) (x.1.testBit wk) (x.2.1.testBit wk) = E
  generalize hWt : (fun c => (mlc C (swF x wk) (x.1.testBit wk) (x.2.1.testBit wk) c).2) = wt
  have hmw : mlW C (swF x wk) (x.1.testBit wk) (x.2.1.testBit wk) = smN wt 6 := by unfold mlW; rw [hWt]
  have hEc : ∀ c, (mlc C (swF x wk) (x.1.testBit wk) (x.2.1.testBit wk) c).1 = E c := fun c => by rw [← hE]; rfl
  have hwc : ∀ c, (mlc C (swF x wk) (x.1.testBit wk) (x.2.1.testBit wk) c).2 = wt c := fun c => by rw [← hWt]
  rw [hmw]
  simp only [E_44, B_44_0, B_44_2, B_44_3, cP, cS, nI_clamp (show 0 < 2 ^ 31 by decide), nI_clamp (show 6 < 2 ^ 31 by decide), q_lt (show 0 < 2 ^ 31 by decide) (show 0 < 2 ^ 31 by decide), q_lt (show 6 < 2 ^ 31 by decide) (show 0 < 2 ^ 31 by decide), r_iconst_p, r_iconst_m, r_bipush_p, r_bipush_m, r_sipush_p, r_sipush_m, r_ldc_p, r_ldc_m, r_ldc_w_p, r_ldc_w_m, r_lconst_p, r_lconst_m, r_ldc2_w_p, r_ldc2_w_m, r_iload, r_iload_n, r_lload, r_lload_n, r_aload, r_aload_n, r_istore, r_istore_n, r_astore, r_astore_n, r_lstore, r_lstore_n, r_iinc_p, r_iinc_m, r_iadd, r_isub, r_imul, r_iand, r_ior, r_ixor, r_ishl, r_ishr, r_iushr, r_idiv, r_irem, r_ladd, r_lsub, r_lmul, r_ldiv, r_lrem, r_lshl, r_lcmp, r_i2l, r_i2b, r_i2s, r_dup_i, r_dup_r, r_dup2_ii, r_dup2_ir, r_dup2_l, r_pop, r_getfield, r_putfield, r_iaload, r_iastore, r_aaload, r_arraylength, r_if_eq, r_icmp_eq, r_if_ne, r_icmp_ne, r_if_lt, r_icmp_lt, r_if_ge, r_icmp_ge, r_if_gt, r_icmp_gt, r_if_le, r_icmp_le, r_goto, r_switch, r_ireturn0, r_ireturn1, r_lreturn, r_areturn, r_return, r_inv0, r_inv1, r_inv2, r_inv3, r_inv4, r_inv5, r_min, r_max, r_acopy, onI_s, onL_s, onR_s, onO_s, fv0, fv1, fv2, fv3, fp1, fp20, fp21, fp3, tl_s, tl_n, lg0, lg1, lg2, lg3, lg4, lg5, lg6, lg7, lg8, lg9, lg10, lg11, lg12, lg13, lg14, lg15, lg16, lg17, ls0, ls1, ls2, ls3, ls4, ls5, ls6, ls7, ls8, ls9, ls10, ls11, ls12, ls13, ls14, ls15, ls16, ls17, lk0, lk1, lk2, lk3, lk4, lk5, lk6, lk7, lk8, lk9, lk10, lk11, lk12, lk13, lk14, lk15, lk16, lk17, kl_n, kl_i, kl_r, kl_l, Nat.reduceAdd, Nat.reduceLeDiff, not_false_eq_true, r_ins0, r_ins1, r_ins2, r_ins3, r_ins4, r_ins5]
  refine ⟨by simp, ?_⟩
  have key : ∀ (n k : Nat) (N : Mem), k + n = 6 → Fr [40, 41, 51] M N → RS N 40 41 (mix C E k) → (∀ d, d < 6 → N 51 d = nI (C d).length) → WP 44 [] 1 [some (.ref 38), some (.int (nI wk)), some (.int (nI (smN wt k))), some (.int (nI k))] [] N (fun r N => r = some (.int (nI (smN wt 6))) ∧ Fr [40, 41, 51] M N ∧ RS N 40 41 E) := by
    intro n
    induction n with
    | zero =>
      intro k N hk hF hR hst
      obtain rfl : k = 6 := by omega
      rw [B_44_1]
      simp only [B_44_0, B_44_2, B_44_3, cP, cS, r_iconst_p, r_iconst_m, r_bipush_p, r_bipush_m, r_sipush_p, r_sipush_m, r_ldc_p, r_ldc_m, r_ldc_w_p, r_ldc_w_m, r_lconst_p, r_lconst_m, r_ldc2_w_p, r_ldc2_w_m, r_iload, r_iload_n, r_lload, r_lload_n, r_aload, r_aload_n, r_istore, r_istore_n, r_astore, r_astore_n, r_lstore, r_lstore_n, r_iinc_p, r_iinc_m, r_iadd, r_isub, r_imul, r_iand, r_ior, r_ixor, r_ishl, r_ishr, r_iushr, r_idiv, r_irem, r_ladd, r_lsub, r_lmul, r_ldiv, r_lrem, r_lshl, r_lcmp, r_i2l, r_i2b, r_i2s, r_dup_i, r_dup_r, r_dup2_ii, r_dup2_ir, r_dup2_l, r_pop, r_getfield, r_putfield, r_iaload, r_iastore, r_aaload, r_arraylength, r_if_eq, r_icmp_eq, r_if_ne, r_icmp_ne, r_if_lt, r_icmp_lt, r_if_ge, r_icmp_ge, r_if_gt, r_icmp_gt, r_if_le, r_icmp_le, r_goto, r_switch, r_ireturn0, r_ireturn1, r_lreturn, r_areturn, r_return, r_inv0, r_inv1, r_inv2, r_inv3, r_inv4, r_inv5, r_min, r_max, r_acopy, onI_s, onL_s, onR_s, onO_s, fv0, fv1, fv2, fv3, fp1, fp20, fp21, fp3, tl_s, tl_n, lg0, lg1, lg2, lg3, lg4, lg5, lg6, lg7, lg8, lg9, lg10, lg11, lg12, lg13, lg14, lg15, lg16, lg17, ls0, ls1, ls2, ls3, ls4, ls5, ls6, ls7, ls8, ls9, ls10, ls11, ls12, ls13, ls14, ls15, ls16, ls17, lk0, lk1, lk2, lk3, lk4, lk5, lk6, lk7, lk8, lk9, lk10, lk11, lk12, lk13, lk14, lk15, lk16, lk17, kl_n, kl_i, kl_r, kl_l, Nat.reduceAdd, Nat.reduceLeDiff, not_false_eq_true, r_ins0, r_ins1, r_ins2, r_ins3, r_ins4, r_ins5]
      rw [brc_pos (Int32.le_refl _)]
      exact ⟨trivial, hF, RS_ext hR (fun c hc => by simp [mix, hc])⟩
    | succ n ih =>
      intro k N hk hF hR hst
      have hk6 : k < 6 := by omega
      have hl := (hC k).1
      have nx : ∀ N', Fr [40, 41] N N' → RS N' 40 41 (mix C E (k + 1)) → WP 44 [] 2 [some (.ref 38), some (.int (nI wk)), some (.int (nI (smN wt (k + 1)))), some (.int (nI k))] [] N' (fun r N => r = some (.int (nI (smN wt 6))) ∧ Fr [40, 41, 51] M N ∧ RS N 40 41 E) := by
        intro N' hF' hR'
        simp only [B_44_0, B_44_2, B_44_3, cP, cS, r_iconst_p, r_iconst_m, r_bipush_p, r_bipush_m, r_sipush_p, r_sipush_m, r_ldc_p, r_ldc_m, r_ldc_w_p, r_ldc_w_m, r_lconst_p, r_lconst_m, r_ldc2_w_p, r_ldc2_w_m, r_iload, r_iload_n, r_lload, r_lload_n, r_aload, r_aload_n, r_istore, r_istore_n, r_astore, r_astore_n, r_lstore, r_lstore_n, r_iinc_p, r_iinc_m, r_iadd, r_isub, r_imul, r_iand, r_ior, r_ixor, r_ishl, r_ishr, r_iushr, r_idiv, r_irem, r_ladd, r_lsub, r_lmul, r_ldiv, r_lrem, r_lshl, r_lcmp, r_i2l, r_i2b, r_i2s, r_dup_i, r_dup_r, r_dup2_ii, r_dup2_ir, r_dup2_l, r_pop, r_getfield, r_putfield, r_iaload, r_iastore, r_aaload, r_arraylength, r_if_eq, r_icmp_eq, r_if_ne, r_icmp_ne, r_if_lt, r_icmp_lt, r_if_ge, r_icmp_ge, r_if_gt, r_icmp_gt, r_if_le, r_icmp_le, r_goto, r_switch, r_ireturn0, r_ireturn1, r_lreturn, r_areturn, r_return, r_inv0, r_inv1, r_inv2, r_inv3, r_inv4, r_inv5, r_min, r_max, r_acopy, onI_s, onL_s, onR_s, onO_s, fv0, fv1, fv2, fv3, fp1, fp20, fp21, fp3, tl_s, tl_n, lg0, lg1, lg2, lg3, lg4, lg5, lg6, lg7, lg8, lg9, lg10, lg11, lg12, lg13, lg14, lg15, lg16, lg17, ls0, ls1, ls2, ls3, ls4, ls5, ls6, ls7, ls8, ls9, ls10, ls11, ls12, ls13, ls14, ls15, ls16, ls17, lk0, lk1, lk2, lk3, lk4, lk5, lk6, lk7, lk8, lk9, lk10, lk11, lk12, lk13, lk14, lk15, lk16, lk17, kl_n, kl_i, kl_r, kl_l, Nat.reduceAdd, Nat.reduceLeDiff, not_false_eq_true, r_ins0, r_ins1, r_ins2, r_ins3, r_ins4, r_ins5]
        rw [q_add]
        exact ih (k + 1) N' (by omega) (hF.tr hF' (by decide) (by decide)) hR' (fun d hd => by rw [hF' 51 (by decide)]; exact hst d hd)
      rw [B_44_1]
      simp only [B_44_0, B_44_3, cP, cS, r_iconst_p, r_iconst_m, r_bipush_p, r_bipush_m, r_sipush_p, r_sipush_m, r_ldc_p, r_ldc_m, r_ldc_w_p, r_ldc_w_m, r_lconst_p, r_lconst_m, r_ldc2_w_p, r_ldc2_w_m, r_iload, r_iload_n, r_lload, r_lload_n, r_aload, r_aload_n, r_istore, r_istore_n, r_astore, r_astore_n, r_lstore, r_lstore_n, r_iinc_p, r_iinc_m, r_iadd, r_isub, r_imul, r_iand, r_ior, r_ixor, r_ishl, r_ishr, r_iushr, r_idiv, r_irem, r_ladd, r_lsub, r_lmul, r_ldiv, r_lrem, r_lshl, r_lcmp, r_i2l, r_i2b, r_i2s, r_dup_i, r_dup_r, r_dup2_ii, r_dup2_ir, r_dup2_l, r_pop, r_getfield, r_putfield, r_iaload, r_iastore, r_aaload, r_arraylength, r_if_eq, r_icmp_eq, r_if_ne, r_icmp_ne, r_if_lt, r_icmp_lt, r_if_ge, r_icmp_ge, r_if_gt, r_icmp_gt, r_if_le, r_icmp_le, r_goto, r_switch, r_ireturn0, r_ireturn1, r_lreturn, r_areturn, r_return, r_inv0, r_inv1, r_inv2, r_inv3, r_inv4, r_inv5, r_min, r_max, r_acopy, onI_s, onL_s, onR_s, onO_s, fv0, fv1, fv2, fv3, fp1, fp20, fp21, fp3, tl_s, tl_n, lg0, lg1, lg2, lg3, lg4, lg5, lg6, lg7, lg8, lg9, lg10, lg11, lg12, lg13, lg14, lg15, lg16, lg17, ls0, ls1, ls2, ls3, ls4, ls5, ls6, ls7, ls8, ls9, ls10, ls11, ls12, ls13, ls14, ls15, ls16, ls17, lk0, lk1, lk2, lk3, lk4, lk5, lk6, lk7, lk8, lk9, lk10, lk11, lk12, lk13, lk14, lk15, lk16, lk17, kl_n, kl_i, kl_r, kl_l, Nat.reduceAdd, Nat.reduceLeDiff, not_false_eq_true, r_ins0, r_ins1, r_ins2, r_ins3, r_ins4, r_ins5]
      rw [brc_neg (nI_ge (by omega) (by omega)), inb_n (n := 6) rfl (by omega) (by omega), nI_clamp (by omega), hst k hk6, q_le (by omega) (by omega)]
      refine ⟨hk6, brc_i (fun hz => ?_) (fun hz => ?_)⟩
      · have e0 : C k = [] := List.length_eq_zero_iff.mp (by omega)
        have e1 : wt k = 0 := by rw [← hwc]; unfold mlc; rw [e0]; rfl
        have e2 : E k = [] := by rw [← hEc]; unfold mlc; rw [e0]; rfl
        have h := nx N Fr.rf (by
          rw [mix_s, e2]
          refine RS_ext hR (fun c _ => ?_)
          unfold setc
          split
          · rename_i e; rw [e]; simp [mix, e0]
          · rfl)
        rw [smN_s, e1] at h
        exact h
      · refine ⟨trivial, by simp, ?_⟩
        have hFW : RWt N 45 x := ⟨by rw [hF 45 (by decide)]; exact hW.1, by rw [hF 45 (by decide)]; exact hW.2.1, fun c hc => by rw [hF 46 (by decide)]; exact hW.2.2 c hc⟩
        refine (s_mcol_38 hR hk6 (by simp [mix]) hC hst (by intro e; rw [e] at hz; exact hz (Nat.le_refl 0)) hw hFW hx).mono ?_
        rintro r N' ⟨rfl, hF', hR'⟩
        simp only [B_44_0, B_44_3, cP, cS, r_iconst_p, r_iconst_m, r_bipush_p, r_bipush_m, r_sipush_p, r_sipush_m, r_ldc_p, r_ldc_m, r_ldc_w_p, r_ldc_w_m, r_lconst_p, r_lconst_m, r_ldc2_w_p, r_ldc2_w_m, r_iload, r_iload_n, r_lload, r_lload_n, r_aload, r_aload_n, r_istore, r_istore_n, r_astore, r_astore_n, r_lstore, r_lstore_n, r_iinc_p, r_iinc_m, r_iadd, r_isub, r_imul, r_iand, r_ior, r_ixor, r_ishl, r_ishr, r_iushr, r_idiv, r_irem, r_ladd, r_lsub, r_lmul, r_ldiv, r_lrem, r_lshl, r_lcmp, r_i2l, r_i2b, r_i2s, r_dup_i, r_dup_r, r_dup2_ii, r_dup2_ir, r_dup2_l, r_pop, r_getfield, r_putfield, r_iaload, r_iastore, r_aaload, r_arraylength, r_if_eq, r_icmp_eq, r_if_ne, r_icmp_ne, r_if_lt, r_icmp_lt, r_if_ge, r_icmp_ge, r_if_gt, r_icmp_gt, r_if_le, r_icmp_le, r_goto, r_switch, r_ireturn0, r_ireturn1, r_lreturn, r_areturn, r_return, r_inv0, r_inv1, r_inv2, r_inv3, r_inv4, r_inv5, r_min, r_max, r_acopy, onI_s, onL_s, onR_s, onO_s, fv0, fv1, fv2, fv3, fp1, fp20, fp21, fp3, tl_s, tl_n, lg0, lg1, lg2, lg3, lg4, lg5, lg6, lg7, lg8, lg9, lg10, lg11, lg12, lg13, lg14, lg15, lg16, lg17, ls0, ls1, ls2, ls3, ls4, ls5, ls6, ls7, ls8, ls9, ls10, ls11, ls12, ls13, ls14, ls15, ls16, ls17, lk0, lk1, lk2, lk3, lk4, lk5, lk6, lk7, lk8, lk9, lk10, lk11, lk12, lk13, lk14, lk15, lk16, lk17, kl_n, kl_i, kl_r, kl_l, Nat.reduceAdd, Nat.reduceLeDiff, not_false_eq_true, r_ins0, r_ins1, r_ins2, r_ins3, r_ins4, r_ins5]
        rw [hwc, q_add, ← smN_s]
        rw [hEc, ← mix_s] at hR'
        exact nx N' hF' hR'
  refine key 6 0 _ (by omega) ?_ ?_ ?_
  · intro d hd
    rw [cp_if, if_neg (fun q => hd (by rw [q]; decide))]
  · rw [mix_0]
    intro c hc
    simp only [cp_if]
    exact hD c hc
  · intro d hd
    rw [cp_if, if_pos rfl, cpy_in (by omega) (by omega)]
    simp only [Nat.zero_add, Nat.sub_zero]
    exact (hD d hd).1
