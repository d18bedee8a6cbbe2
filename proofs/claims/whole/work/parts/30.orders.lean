/-! the orders' text -/
set_option maxHeartbeats 4000000 in
theorem s_placeOrders {M : Mem} {n : Nat} {t : Nat → Nat} (HT : RTx M 4 35 n t) (h9 : M 9 2 = nI 0) : Ct 4 [.ref 1] M (fun r N => r = some (.int (ix (fO t n))) ∧ Fr [9, 10, 11] M N ∧ (∀ j, j ≠ 2 → N 9 j = M 9 j) ∧ (fO t n = 0 → N 9 2 = nI ((n + 1) / 3) ∧ ∀ k, k < (n + 1) / 3 → N 10 k = nI (t (3 * k) - 97) ∧ N 11 k = nI (t (3 * k + 1) - 48))) := by
  obtain ⟨-, t2, t3, t4, t5⟩ := HT
  simp only [E_4, B_4_0, B_4_2, B_4_3, B_4_4, B_4_5, B_4_6, B_4_7, B_4_8, B_4_9, cB, r_iconst_p, r_iconst_m, r_bipush_p, r_bipush_m, r_sipush_p, r_sipush_m, r_ldc_p, r_ldc_m, r_ldc_w_p, r_ldc_w_m, r_lconst_p, r_lconst_m, r_ldc2_w_p, r_ldc2_w_m, r_iload, r_iload_n, r_lload, r_lload_n, r_aload, r_aload_n, r_istore, r_istore_n, r_astore, r_astore_n, r_lstore, r_lstore_n, r_iinc_p, r_iinc_m, r_iadd, r_isub, r_imul, r_iand, r_ior, r_ixor, r_ishl, r_ishr, r_iushr, r_idiv, r_irem, r_ladd, r_lsub, r_lmul, r_ldiv, r_lrem, r_lshl, r_lcmp, r_i2l, r_i2b, r_i2s, r_dup_i, r_dup_r, r_dup2_ii, r_dup2_ir, r_dup2_l, r_pop, r_getfield, r_putfield, r_iaload, r_iastore, r_aaload, r_arraylength, r_if_eq, r_icmp_eq, r_if_ne, r_icmp_ne, r_if_lt, r_icmp_lt, r_if_ge, r_icmp_ge, r_if_gt, r_icmp_gt, r_if_le, r_icmp_le, r_goto, r_switch, r_ireturn0, r_ireturn1, r_lreturn, r_areturn, r_return, r_inv0, r_inv1, r_inv2, r_inv3, r_inv4, r_inv5, r_min, r_max, r_acopy, onI_s, onL_s, onR_s, onO_s, fv0, fv1, fv2, fv3, fp1, fp20, fp21, fp3, tl_s, tl_n, lg0, lg1, lg2, lg3, lg4, lg5, lg6, lg7, lg8, lg9, lg10, lg11, lg12, lg13, lg14, lg15, lg16, lg17, ls0, ls1, ls2, ls3, ls4, ls5, ls6, ls7, ls8, ls9, ls10, ls11, ls12, ls13, ls14, ls15, ls16, ls17, lk0, lk1, lk2, lk3, lk4, lk5, lk6, lk7, lk8, lk9, lk10, lk11, lk12, lk13, lk14, lk15, lk16, lk17, kl_n, kl_i, kl_r, kl_l, Nat.reduceAdd, Nat.reduceLeDiff, not_false_eq_true, r_ins0, r_ins1, r_ins2, r_ins3, r_ins4, r_ins5]
  rw [t2]
  generalize hQ : (fun (r : Option Value) (N : Mem) => r = some (.int (ix (fO t n))) ∧ Fr [9, 10, 11] M N ∧ (∀ j, j ≠ 2 → N 9 j = M 9 j) ∧ (fO t n = 0 → N 9 2 = nI ((n + 1) / 3) ∧ ∀ k, k < (n + 1) / 3 → N 10 k = nI (t (3 * k) - 97) ∧ N 11 k = nI (t (3 * k + 1) - 48))) = Q
  have key : ∀ (k i : Nat) (N : Mem) (u v : Option Value), i + k = n → Fr [9, 10, 11] M N → (∀ j, j ≠ 2 → N 9 j = M 9 j) → bdO t i = 0 → N 9 2 = nI ((i + 1) / 3) → (∀ m, 3 * m < i → N 10 m = nI (t (3 * m) - 97)) → (∀ m, 3 * m + 1 < i → N 11 m = nI (t (3 * m + 1) - 48)) → WP 4 [] 1 [some (.ref 1), some (.int (nI n)), some (.int (nI i)), u, v] [] N Q := by
    intro k
    induction k with
    | zero =>
      intro i N u v hi hF hj h0 hN hw hq
      obtain rfl : i = n := by omega
      have ef : fO t i = if i = 0 ∨ i % 3 = 2 then 0 else i + 1 := by unfold fO; rw [if_neg (fun q => q h0)]
      rw [B_4_1]
      simp only [B_4_0, B_4_2, B_4_3, B_4_4, B_4_5, B_4_6, B_4_9, cB, r_iconst_p, r_iconst_m, r_bipush_p, r_bipush_m, r_sipush_p, r_sipush_m, r_ldc_p, r_ldc_m, r_ldc_w_p, r_ldc_w_m, r_lconst_p, r_lconst_m, r_ldc2_w_p, r_ldc2_w_m, r_iload, r_iload_n, r_lload, r_lload_n, r_aload, r_aload_n, r_istore, r_istore_n, r_astore, r_astore_n, r_lstore, r_lstore_n, r_iinc_p, r_iinc_m, r_iadd, r_isub, r_imul, r_iand, r_ior, r_ixor, r_ishl, r_ishr, r_iushr, r_idiv, r_irem, r_ladd, r_lsub, r_lmul, r_ldiv, r_lrem, r_lshl, r_lcmp, r_i2l, r_i2b, r_i2s, r_dup_i, r_dup_r, r_dup2_ii, r_dup2_ir, r_dup2_l, r_pop, r_getfield, r_putfield, r_iaload, r_iastore, r_aaload, r_arraylength, r_if_eq, r_icmp_eq, r_if_ne, r_icmp_ne, r_if_lt, r_icmp_lt, r_if_ge, r_icmp_ge, r_if_gt, r_icmp_gt, r_if_le, r_icmp_le, r_goto, r_switch, r_ireturn0, r_ireturn1, r_lreturn, r_areturn, r_return, r_inv0, r_inv1, r_inv2, r_inv3, r_inv4, r_inv5, r_min, r_max, r_acopy, onI_s, onL_s, onR_s, onO_s, fv0, fv1, fv2, fv3, fp1, fp20, fp21, fp3, tl_s, tl_n, lg0, lg1, lg2, lg3, lg4, lg5, lg6, lg7, lg8, lg9, lg10, lg11, lg12, lg13, lg14, lg15, lg16, lg17, ls0, ls1, ls2, ls3, ls4, ls5, ls6, ls7, ls8, ls9, ls10, ls11, ls12, ls13, ls14, ls15, ls16, ls17, lk0, lk1, lk2, lk3, lk4, lk5, lk6, lk7, lk8, lk9, lk10, lk11, lk12, lk13, lk14, lk15, lk16, lk17, kl_n, kl_i, kl_r, kl_l, Nat.reduceAdd, Nat.reduceLeDiff, not_false_eq_true, r_ins0, r_ins1, r_ins2, r_ins3, r_ins4, r_ins5]
      rw [brc_pos (Int32.le_refl _), q_eq (by omega) (by omega), pk_rem (by omega) (by omega) (by omega), q_eq (by omega) (by omega), q_eq (by omega) (by omega)]
      have well : fO t i = 0 → WP 4 [] 7 [some (.ref 1), some (.int (nI i)), some (.int (nI i)), u, v] [] N Q := by
        intro h
        simp only [B_4_0, B_4_2, B_4_3, B_4_4, B_4_5, B_4_6, B_4_7, B_4_8, B_4_9, cB, r_iconst_p, r_iconst_m, r_bipush_p, r_bipush_m, r_sipush_p, r_sipush_m, r_ldc_p, r_ldc_m, r_ldc_w_p, r_ldc_w_m, r_lconst_p, r_lconst_m, r_ldc2_w_p, r_ldc2_w_m, r_iload, r_iload_n, r_lload, r_lload_n, r_aload, r_aload_n, r_istore, r_istore_n, r_astore, r_astore_n, r_lstore, r_lstore_n, r_iinc_p, r_iinc_m, r_iadd, r_isub, r_imul, r_iand, r_ior, r_ixor, r_ishl, r_ishr, r_iushr, r_idiv, r_irem, r_ladd, r_lsub, r_lmul, r_ldiv, r_lrem, r_lshl, r_lcmp, r_i2l, r_i2b, r_i2s, r_dup_i, r_dup_r, r_dup2_ii, r_dup2_ir, r_dup2_l, r_pop, r_getfield, r_putfield, r_iaload, r_iastore, r_aaload, r_arraylength, r_if_eq, r_icmp_eq, r_if_ne, r_icmp_ne, r_if_lt, r_icmp_lt, r_if_ge, r_icmp_ge, r_if_gt, r_icmp_gt, r_if_le, r_icmp_le, r_goto, r_switch, r_ireturn0, r_ireturn1, r_lreturn, r_areturn, r_return, r_inv0, r_inv1, r_inv2, r_inv3, r_inv4, r_inv5, r_min, r_max, r_acopy, onI_s, onL_s, onR_s, onO_s, fv0, fv1, fv2, fv3, fp1, fp20, fp21, fp3, tl_s, tl_n, lg0, lg1, lg2, lg3, lg4, lg5, lg6, lg7, lg8, lg9, lg10, lg11, lg12, lg13, lg14, lg15, lg16, lg17, ls0, ls1, ls2, ls3, ls4, ls5, ls6, ls7, ls8, ls9, ls10, ls11, ls12, ls13, ls14, ls15, ls16, ls17, lk0, lk1, lk2, lk3, lk4, lk5, lk6, lk7, lk8, lk9, lk10, lk11, lk12, lk13, lk14, lk15, lk16, lk17, kl_n, kl_i, kl_r, kl_l, Nat.reduceAdd, Nat.reduceLeDiff, not_false_eq_true, r_ins0, r_ins1, r_ins2, r_ins3, r_ins4, r_ins5]
        rw [← hQ]
        exact ⟨by rw [h]; rfl, hF, hj, fun _ => ⟨hN, fun m hm => ⟨hw m (by omega), hq m (by
          unfold fO at h
          rw [if_neg (fun q => q h0)] at h
          split at h
          · omega
          · omega)⟩⟩⟩
      have ill : fO t i = i + 1 → WP 4 [] 8 [some (.ref 1), some (.int (nI i)), some (.int (nI i)), u, v] [] N Q := by
        intro h
        simp only [B_4_0, B_4_2, B_4_3, B_4_4, B_4_5, B_4_6, B_4_7, B_4_8, B_4_9, cB, r_iconst_p, r_iconst_m, r_bipush_p, r_bipush_m, r_sipush_p, r_sipush_m, r_ldc_p, r_ldc_m, r_ldc_w_p, r_ldc_w_m, r_lconst_p, r_lconst_m, r_ldc2_w_p, r_ldc2_w_m, r_iload, r_iload_n, r_lload, r_lload_n, r_aload, r_aload_n, r_istore, r_istore_n, r_astore, r_astore_n, r_lstore, r_lstore_n, r_iinc_p, r_iinc_m, r_iadd, r_isub, r_imul, r_iand, r_ior, r_ixor, r_ishl, r_ishr, r_iushr, r_idiv, r_irem, r_ladd, r_lsub, r_lmul, r_ldiv, r_lrem, r_lshl, r_lcmp, r_i2l, r_i2b, r_i2s, r_dup_i, r_dup_r, r_dup2_ii, r_dup2_ir, r_dup2_l, r_pop, r_getfield, r_putfield, r_iaload, r_iastore, r_aaload, r_arraylength, r_if_eq, r_icmp_eq, r_if_ne, r_icmp_ne, r_if_lt, r_icmp_lt, r_if_ge, r_icmp_ge, r_if_gt, r_icmp_gt, r_if_le, r_icmp_le, r_goto, r_switch, r_ireturn0, r_ireturn1, r_lreturn, r_areturn, r_return, r_inv0, r_inv1, r_inv2, r_inv3, r_inv4, r_inv5, r_min, r_max, r_acopy, onI_s, onL_s, onR_s, onO_s, fv0, fv1, fv2, fv3, fp1, fp20, fp21, fp3, tl_s, tl_n, lg0, lg1, lg2, lg3, lg4, lg5, lg6, lg7, lg8, lg9, lg10, lg11, lg12, lg13, lg14, lg15, lg16, lg17, ls0, ls1, ls2, ls3, ls4, ls5, ls6, ls7, ls8, ls9, ls10, ls11, ls12, ls13, ls14, ls15, ls16, ls17, lk0, lk1, lk2, lk3, lk4, lk5, lk6, lk7, lk8, lk9, lk10, lk11, lk12, lk13, lk14, lk15, lk16, lk17, kl_n, kl_i, kl_r, kl_l, Nat.reduceAdd, Nat.reduceLeDiff, not_false_eq_true, r_ins0, r_ins1, r_ins2, r_ins3, r_ins4, r_ins5]
        rw [← hQ]
        exact ⟨by rw [h, ix_s], hF, hj, fun q => by omega⟩
      refine brc_i (fun h1 => well (by rw [ef, if_pos (Or.inl h1)])) (fun h1 => ⟨by omega, brc_i (fun h2 => ill (by rw [ef, if_neg (by omega)])) (fun h2 => well (by rw [ef, if_pos (Or.inr (by omega))]))⟩)
    | succ k ih =>
      intro i N u v hi hF hj h0 hN hw hq
      have hti := t5 i
      have hst := bdO_s t i
      rw [if_neg (fun q => q h0)] at hst
      have nx : ∀ (N' : Mem) (u v : Option Value), okO t i = true → Fr [9, 10, 11] M N' → (∀ j, j ≠ 2 → N' 9 j = M 9 j) → N' 9 2 = nI ((i + 2) / 3) → (∀ m, 3 * m < i + 1 → N' 10 m = nI (t (3 * m) - 97)) → (∀ m, 3 * m + 1 < i + 1 → N' 11 m = nI (t (3 * m + 1) - 48)) → WP 4 [] 5 [some (.ref 1), some (.int (nI n)), some (.int (nI i)), u, v] [] N' Q := by
        intro N' u v ho a1 a2 a3 a4 a5
        rw [if_pos ho] at hst
        simp only [B_4_0, B_4_2, B_4_3, B_4_4, B_4_5, B_4_6, B_4_7, B_4_8, B_4_9, cB, r_iconst_p, r_iconst_m, r_bipush_p, r_bipush_m, r_sipush_p, r_sipush_m, r_ldc_p, r_ldc_m, r_ldc_w_p, r_ldc_w_m, r_lconst_p, r_lconst_m, r_ldc2_w_p, r_ldc2_w_m, r_iload, r_iload_n, r_lload, r_lload_n, r_aload, r_aload_n, r_istore, r_istore_n, r_astore, r_astore_n, r_lstore, r_lstore_n, r_iinc_p, r_iinc_m, r_iadd, r_isub, r_imul, r_iand, r_ior, r_ixor, r_ishl, r_ishr, r_iushr, r_idiv, r_irem, r_ladd, r_lsub, r_lmul, r_ldiv, r_lrem, r_lshl, r_lcmp, r_i2l, r_i2b, r_i2s, r_dup_i, r_dup_r, r_dup2_ii, r_dup2_ir, r_dup2_l, r_pop, r_getfield, r_putfield, r_iaload, r_iastore, r_aaload, r_arraylength, r_if_eq, r_icmp_eq, r_if_ne, r_icmp_ne, r_if_lt, r_icmp_lt, r_if_ge, r_icmp_ge, r_if_gt, r_icmp_gt, r_if_le, r_icmp_le, r_goto, r_switch, r_ireturn0, r_ireturn1, r_lreturn, r_areturn, r_return, r_inv0, r_inv1, r_inv2, r_inv3, r_inv4, r_inv5, r_min, r_max, r_acopy, onI_s, onL_s, onR_s, onO_s, fv0, fv1, fv2, fv3, fp1, fp20, fp21, fp3, tl_s, tl_n, lg0, lg1, lg2, lg3, lg4, lg5, lg6, lg7, lg8, lg9, lg10, lg11, lg12, lg13, lg14, lg15, lg16, lg17, ls0, ls1, ls2, ls3, ls4, ls5, ls6, ls7, ls8, ls9, ls10, ls11, ls12, ls13, ls14, ls15, ls16, ls17, lk0, lk1, lk2, lk3, lk4, lk5, lk6, lk7, lk8, lk9, lk10, lk11, lk12, lk13, lk14, lk15, lk16, lk17, kl_n, kl_i, kl_r, kl_l, Nat.reduceAdd, Nat.reduceLeDiff, not_false_eq_true, r_ins0, r_ins1, r_ins2, r_ins3, r_ins4, r_ins5]
        rw [q_add]
        exact ih (i + 1) N' _ _ (by omega) a1 a2 hst a3 a4 a5
      have bad : ∀ (u v : Option Value), okO t i = false → WP 4 [] 4 [some (.ref 1), some (.int (nI n)), some (.int (nI i)), u, v] [] N Q := by
        intro u v ho
        rw [ho, if_neg (by decide)] at hst
        have e1 := bdO_stop (t := t) (n := i + 1) (by omega) k
        rw [show i + 1 + k = n by omega, hst] at e1
        have e2 : fO t n = i + 1 := by unfold fO; rw [e1, if_pos (by omega)]
        simp only [B_4_0, B_4_2, B_4_3, B_4_4, B_4_5, B_4_6, B_4_7, B_4_8, B_4_9, cB, r_iconst_p, r_iconst_m, r_bipush_p, r_bipush_m, r_sipush_p, r_sipush_m, r_ldc_p, r_ldc_m, r_ldc_w_p, r_ldc_w_m, r_lconst_p, r_lconst_m, r_ldc2_w_p, r_ldc2_w_m, r_iload, r_iload_n, r_lload, r_lload_n, r_aload, r_aload_n, r_istore, r_istore_n, r_astore, r_astore_n, r_lstore, r_lstore_n, r_iinc_p, r_iinc_m, r_iadd, r_isub, r_imul, r_iand, r_ior, r_ixor, r_ishl, r_ishr, r_iushr, r_idiv, r_irem, r_ladd, r_lsub, r_lmul, r_ldiv, r_lrem, r_lshl, r_lcmp, r_i2l, r_i2b, r_i2s, r_dup_i, r_dup_r, r_dup2_ii, r_dup2_ir, r_dup2_l, r_pop, r_getfield, r_putfield, r_iaload, r_iastore, r_aaload, r_arraylength, r_if_eq, r_icmp_eq, r_if_ne, r_icmp_ne, r_if_lt, r_icmp_lt, r_if_ge, r_icmp_ge, r_if_gt, r_icmp_gt, r_if_le, r_icmp_le, r_goto, r_switch, r_ireturn0, r_ireturn1, r_lreturn, r_areturn, r_return, r_inv0, r_inv1, r_inv2, r_inv3, r_inv4, r_inv5, r_min, r_max, r_acopy, onI_s, onL_s, onR_s, onO_s, fv0, fv1, fv2, fv3, fp1, fp20, fp21, fp3, tl_s, tl_n, lg0, lg1, lg2, lg3, lg4, lg5, lg6, lg7, lg8, lg9, lg10, lg11, lg12, lg13, lg14, lg15, lg16, lg17, ls0, ls1, ls2, ls3, ls4, ls5, ls6, ls7, ls8, ls9, ls10, ls11, ls12, ls13, ls14, ls15, ls16, ls17, lk0, lk1, lk2, lk3, lk4, lk5, lk6, lk7, lk8, lk9, lk10, lk11, lk12, lk13, lk14, lk15, lk16, lk17, kl_n, kl_i, kl_r, kl_l, Nat.reduceAdd, Nat.reduceLeDiff, not_false_eq_true, r_ins0, r_ins1, r_ins2, r_ins3, r_ins4, r_ins5]
        rw [← hQ]
        exact ⟨by rw [e2, ix_s], hF, hj, fun q => by omega⟩
      have hp : i % 3 = 0 ∨ i % 3 = 1 ∨ i % 3 = 2 := by omega
      rw [B_4_1]
      simp only [B_4_0, B_4_3, B_4_4, B_4_6, B_4_7, B_4_8, B_4_9, cB, r_iconst_p, r_iconst_m, r_bipush_p, r_bipush_m, r_sipush_p, r_sipush_m, r_ldc_p, r_ldc_m, r_ldc_w_p, r_ldc_w_m, r_lconst_p, r_lconst_m, r_ldc2_w_p, r_ldc2_w_m, r_iload, r_iload_n, r_lload, r_lload_n, r_aload, r_aload_n, r_istore, r_istore_n, r_astore, r_astore_n, r_lstore, r_lstore_n, r_iinc_p, r_iinc_m, r_iadd, r_isub, r_imul, r_iand, r_ior, r_ixor, r_ishl, r_ishr, r_iushr, r_idiv, r_irem, r_ladd, r_lsub, r_lmul, r_ldiv, r_lrem, r_lshl, r_lcmp, r_i2l, r_i2b, r_i2s, r_dup_i, r_dup_r, r_dup2_ii, r_dup2_ir, r_dup2_l, r_pop, r_getfield, r_putfield, r_iaload, r_iastore, r_aaload, r_arraylength, r_if_eq, r_icmp_eq, r_if_ne, r_icmp_ne, r_if_lt, r_icmp_lt, r_if_ge, r_icmp_ge, r_if_gt, r_icmp_gt, r_if_le, r_icmp_le, r_goto, r_switch, r_ireturn0, r_ireturn1, r_lreturn, r_areturn, r_return, r_inv0, r_inv1, r_inv2, r_inv3, r_inv4, r_inv5, r_min, r_max, r_acopy, onI_s, onL_s, onR_s, onO_s, fv0, fv1, fv2, fv3, fp1, fp20, fp21, fp3, tl_s, tl_n, lg0, lg1, lg2, lg3, lg4, lg5, lg6, lg7, lg8, lg9, lg10, lg11, lg12, lg13, lg14, lg15, lg16, lg17, ls0, ls1, ls2, ls3, ls4, ls5, ls6, ls7, ls8, ls9, ls10, ls11, ls12, ls13, ls14, ls15, ls16, ls17, lk0, lk1, lk2, lk3, lk4, lk5, lk6, lk7, lk8, lk9, lk10, lk11, lk12, lk13, lk14, lk15, lk16, lk17, kl_n, kl_i, kl_r, kl_l, Nat.reduceAdd, Nat.reduceLeDiff, not_false_eq_true, r_ins0, r_ins1, r_ins2, r_ins3, r_ins4, r_ins5]
      rw [brc_neg (nI_ge (by omega) (by omega)), inb_n (n := 41) rfl (by omega) (by omega), nI_clamp (by omega), hF 5 (by decide), t4 i (by omega), pk_rem (by omega) (by omega) (by omega), q_eq (show 3 < 2 ^ 31 by omega) (by omega), q_eq (show i % 3 < 2 ^ 31 by omega) (by omega), q_lt (by omega) (by omega), q_lt (by omega) (by omega), hN, q_le (by omega) (by omega), inb_n (n := 12) rfl (by omega) (by omega), nI_clamp (by omega)]
      refine ⟨by omega, by omega, ?_⟩
      -- from block 2 on, where it isn't the first part, or wrong
      have b2 : ¬ (i % 3 = 0 ∧ 97 ≤ t i ∧ t i ≤ 120) → WP 4 [] 2 [some (.ref 1), some (.int (nI n)), some (.int (nI i)), some (.int (nI (t i))), some (.int (nI (i % 3)))] [] N Q := by
        intro hn
        simp only [B_4_0, B_4_2, B_4_4, B_4_6, B_4_7, B_4_8, B_4_9, cB, (s_isFigure (show t i < 2 ^ 31 by omega) N).ct, hN, q_add, r_iconst_p, r_iconst_m, r_bipush_p, r_bipush_m, r_sipush_p, r_sipush_m, r_ldc_p, r_ldc_m, r_ldc_w_p, r_ldc_w_m, r_lconst_p, r_lconst_m, r_ldc2_w_p, r_ldc2_w_m, r_iload, r_iload_n, r_lload, r_lload_n, r_aload, r_aload_n, r_istore, r_istore_n, r_astore, r_astore_n, r_lstore, r_lstore_n, r_iinc_p, r_iinc_m, r_iadd, r_isub, r_imul, r_iand, r_ior, r_ixor, r_ishl, r_ishr, r_iushr, r_idiv, r_irem, r_ladd, r_lsub, r_lmul, r_ldiv, r_lrem, r_lshl, r_lcmp, r_i2l, r_i2b, r_i2s, r_dup_i, r_dup_r, r_dup2_ii, r_dup2_ir, r_dup2_l, r_pop, r_getfield, r_putfield, r_iaload, r_iastore, r_aaload, r_arraylength, r_if_eq, r_icmp_eq, r_if_ne, r_icmp_ne, r_if_lt, r_icmp_lt, r_if_ge, r_icmp_ge, r_if_gt, r_icmp_gt, r_if_le, r_icmp_le, r_goto, r_switch, r_ireturn0, r_ireturn1, r_lreturn, r_areturn, r_return, r_inv0, r_inv1, r_inv2, r_inv3, r_inv4, r_inv5, r_min, r_max, r_acopy, onI_s, onL_s, onR_s, onO_s, fv0, fv1, fv2, fv3, fp1, fp20, fp21, fp3, tl_s, tl_n, lg0, lg1, lg2, lg3, lg4, lg5, lg6, lg7, lg8, lg9, lg10, lg11, lg12, lg13, lg14, lg15, lg16, lg17, ls0, ls1, ls2, ls3, ls4, ls5, ls6, ls7, ls8, ls9, ls10, ls11, ls12, ls13, ls14, ls15, ls16, ls17, lk0, lk1, lk2, lk3, lk4, lk5, lk6, lk7, lk8, lk9, lk10, lk11, lk12, lk13, lk14, lk15, lk16, lk17, kl_n, kl_i, kl_r, kl_l, Nat.reduceAdd, Nat.reduceLeDiff, not_false_eq_true, r_ins0, r_ins1, r_ins2, r_ins3, r_ins4, r_ins5]
        have b3 : ¬ (i % 3 = 1 ∧ 49 ≤ t i ∧ t i ≤ 57) → WP 4 [] 3 [some (.ref 1), some (.int (nI n)), some (.int (nI i)), some (.int (nI (t i))), some (.int (nI (i % 3)))] [] N Q := by
          intro hn2
          simp only [B_4_0, B_4_2, B_4_3, B_4_6, B_4_7, B_4_8, B_4_9, cB, r_iconst_p, r_iconst_m, r_bipush_p, r_bipush_m, r_sipush_p, r_sipush_m, r_ldc_p, r_ldc_m, r_ldc_w_p, r_ldc_w_m, r_lconst_p, r_lconst_m, r_ldc2_w_p, r_ldc2_w_m, r_iload, r_iload_n, r_lload, r_lload_n, r_aload, r_aload_n, r_istore, r_istore_n, r_astore, r_astore_n, r_lstore, r_lstore_n, r_iinc_p, r_iinc_m, r_iadd, r_isub, r_imul, r_iand, r_ior, r_ixor, r_ishl, r_ishr, r_iushr, r_idiv, r_irem, r_ladd, r_lsub, r_lmul, r_ldiv, r_lrem, r_lshl, r_lcmp, r_i2l, r_i2b, r_i2s, r_dup_i, r_dup_r, r_dup2_ii, r_dup2_ir, r_dup2_l, r_pop, r_getfield, r_putfield, r_iaload, r_iastore, r_aaload, r_arraylength, r_if_eq, r_icmp_eq, r_if_ne, r_icmp_ne, r_if_lt, r_icmp_lt, r_if_ge, r_icmp_ge, r_if_gt, r_icmp_gt, r_if_le, r_icmp_le, r_goto, r_switch, r_ireturn0, r_ireturn1, r_lreturn, r_areturn, r_return, r_inv0, r_inv1, r_inv2, r_inv3, r_inv4, r_inv5, r_min, r_max, r_acopy, onI_s, onL_s, onR_s, onO_s, fv0, fv1, fv2, fv3, fp1, fp20, fp21, fp3, tl_s, tl_n, lg0, lg1, lg2, lg3, lg4, lg5, lg6, lg7, lg8, lg9, lg10, lg11, lg12, lg13, lg14, lg15, lg16, lg17, ls0, ls1, ls2, ls3, ls4, ls5, ls6, ls7, ls8, ls9, ls10, ls11, ls12, ls13, ls14, ls15, ls16, ls17, lk0, lk1, lk2, lk3, lk4, lk5, lk6, lk7, lk8, lk9, lk10, lk11, lk12, lk13, lk14, lk15, lk16, lk17, kl_n, kl_i, kl_r, kl_l, Nat.reduceAdd, Nat.reduceLeDiff, not_false_eq_true, r_ins0, r_ins1, r_ins2, r_ins3, r_ins4, r_ins5]
          rw [q_eq (by omega) (by omega), q_eq (by omega) (by omega)]
          refine brc_i (fun h1 => bad _ _ ?_) (fun h1 => brc_i (fun h2 => ?_) (fun h2 => bad _ _ ?_))
          · unfold okO
            rcases hp with q | q | q
            · rw [if_pos q]; exact decide_eq_false (fun w => hn ⟨q, w⟩)
            · rw [if_neg (by omega), if_pos q]; exact decide_eq_false (fun w => hn2 ⟨q, w⟩)
            · exact absurd q h1
          · have h1 : i % 3 = 2 := by omega
            refine nx N _ _ ?_ hF hj (by rw [hN]; congr 1; omega) (fun m hm => hw m (by omega)) (fun m hm => hq m (by omega))
            unfold okO
            rw [if_neg (by omega), if_neg (by omega)]
            exact decide_eq_true h2
          · have h1 : i % 3 = 2 := by omega
            unfold okO
            rw [if_neg (by omega), if_neg (by omega)]
            exact decide_eq_false h2
        rw [q_eq (by omega) (by omega)]
        refine brc_i (fun h1 => b3 (fun q => h1 q.1)) (fun h1 => ⟨by simp, ?_⟩)
        have h1 : i % 3 = 1 := Classical.not_not.mp h1
        by_cases hfig : 49 ≤ t i ∧ t i ≤ 57
        · rw [decide_eq_true hfig, brc_neg (by rw [show (true).toNat = 1 from rfl, q_eq (by omega) (by omega)]; decide), q_le (by omega) (by omega), brc_neg (by omega), inb_n (n := 12) rfl (by omega) (by omega), nI_clamp (by omega), q_sub (by omega), sm_ne (show ¬ 9 = 11 by decide), hN, q_add]
          refine ⟨by omega, ?_⟩
          refine nx _ _ _ ?_ ((hF.st (by decide)).st (by decide)) (fun j hjj => by rw [sm_eq, u_ne hjj, sm_ne (by decide)]; exact hj j hjj) ?_ ?_ ?_
          · unfold okO
            rw [if_neg (by omega), if_pos h1]
            exact decide_eq_true hfig
          · rw [sm_eq, u_eq]; congr 1; omega
          · intro m hm
            rw [sm_ne (by decide), sm_ne (by decide)]
            exact hw m (by omega)
          · intro m hm
            rw [sm_ne (by decide), sm_eq, u_if]
            by_cases e : m = (i + 1) / 3
            · rw [if_pos e, show 3 * m + 1 = i by omega]
            · rw [if_neg e]; exact hq m (by omega)
        · rw [decide_eq_false hfig, brc_pos (show nI (false).toNat = nI 0 from rfl)]
          exact b3 (fun q => hfig q.2)
      refine brc_i (fun h1 => b2 (fun q => h1 q.1)) (fun h1 => brc_i (fun h2 => b2 (fun q => by omega)) (fun h2 => brc_i (fun h3 => b2 (fun q => by omega)) (fun h3 => ?_)))
      have h1 : i % 3 = 0 := Classical.not_not.mp h1
      rw [brc_neg (by omega), q_sub (by omega)]
      refine ⟨by omega, ?_⟩
      refine nx _ _ _ ?_ (hF.st (by decide)) (fun j hjj => by rw [sm_ne (by decide)]; exact hj j hjj) (by rw [sm_ne (by decide), hN]; congr 1; omega) ?_ ?_
      · unfold okO
        rw [if_pos h1]
        exact decide_eq_true ⟨by omega, by omega⟩
      · intro m hm
        rw [sm_eq, u_if]
        by_cases e : m = (i + 1) / 3
        · rw [if_pos e, show 3 * m = i by omega]
        · rw [if_neg e]; exact hw m (by omega)
      · intro m hm
        rw [sm_ne (by decide)]
        exact hq m (by omega)
  exact key n 0 M _ _ (by omega) Fr.rf (fun _ _ => rfl) rfl h9 (fun m hm => by omega) (fun m hm => by omega)
theorem fO_le {t : Nat → Nat} {n : Nat} : fO t n ≤ n + 1 := by
  have := bdO_le t n
  unfold fO
  split
  · omega
  · split <;> omega
theorem s_parseOrders {M : Mem} {n : Nat} {t : Nat → Nat} (HT : RTx M 4 35 n t) : Ct 3 [.ref 1] M (fun r N => r = none ∧ Fr [1, 9, 10, 11] M N ∧ N 1 = upd (M 1) 7 (ix (fO t n)) ∧ ROr N 9 (noF t n) (owF t n) (oqF t n)) := by
  have hle := fO_le (t := t) (n := n)
  have hn := HT.2.2.1
  simp only [E_3, B_3_0, B_3_1, cB, r_iconst_p, r_iconst_m, r_bipush_p, r_bipush_m, r_sipush_p, r_sipush_m, r_ldc_p, r_ldc_m, r_ldc_w_p, r_ldc_w_m, r_lconst_p, r_lconst_m, r_ldc2_w_p, r_ldc2_w_m, r_iload, r_iload_n, r_lload, r_lload_n, r_aload, r_aload_n, r_istore, r_istore_n, r_astore, r_astore_n, r_lstore, r_lstore_n, r_iinc_p, r_iinc_m, r_iadd, r_isub, r_imul, r_iand, r_ior, r_ixor, r_ishl, r_ishr, r_iushr, r_idiv, r_irem, r_ladd, r_lsub, r_lmul, r_ldiv, r_lrem, r_lshl, r_lcmp, r_i2l, r_i2b, r_i2s, r_dup_i, r_dup_r, r_dup2_ii, r_dup2_ir, r_dup2_l, r_pop, r_getfield, r_putfield, r_iaload, r_iastore, r_aaload, r_arraylength, r_if_eq, r_icmp_eq, r_if_ne, r_icmp_ne, r_if_lt, r_icmp_lt, r_if_ge, r_icmp_ge, r_if_gt, r_icmp_gt, r_if_le, r_icmp_le, r_goto, r_switch, r_ireturn0, r_ireturn1, r_lreturn, r_areturn, r_return, r_inv0, r_inv1, r_inv2, r_inv3, r_inv4, r_inv5, r_min, r_max, r_acopy, onI_s, onL_s, onR_s, onO_s, fv0, fv1, fv2, fv3, fp1, fp20, fp21, fp3, tl_s, tl_n, lg0, lg1, lg2, lg3, lg4, lg5, lg6, lg7, lg8, lg9, lg10, lg11, lg12, lg13, lg14, lg15, lg16, lg17, ls0, ls1, ls2, ls3, ls4, ls5, ls6, ls7, ls8, ls9, ls10, ls11, ls12, ls13, ls14, ls15, ls16, ls17, lk0, lk1, lk2, lk3, lk4, lk5, lk6, lk7, lk8, lk9, lk10, lk11, lk12, lk13, lk14, lk15, lk16, lk17, kl_n, kl_i, kl_r, kl_l, Nat.reduceAdd, Nat.reduceLeDiff, not_false_eq_true, r_ins0, r_ins1, r_ins2, r_ins3, r_ins4, r_ins5]
  refine ⟨trivial, by simp, ?_⟩
  refine (s_placeOrders (HT.fr (l := [9]) (Fr.rf.st (by decide)) (by decide) (by decide)) (by rw [sm_eq, u_eq])).mono ?_
  rintro r N2 ⟨rfl, F2, J2, R2⟩
  simp only [B_3_0, cB, sm_eq, u_eq, r_iconst_p, r_iconst_m, r_bipush_p, r_bipush_m, r_sipush_p, r_sipush_m, r_ldc_p, r_ldc_m, r_ldc_w_p, r_ldc_w_m, r_lconst_p, r_lconst_m, r_ldc2_w_p, r_ldc2_w_m, r_iload, r_iload_n, r_lload, r_lload_n, r_aload, r_aload_n, r_istore, r_istore_n, r_astore, r_astore_n, r_lstore, r_lstore_n, r_iinc_p, r_iinc_m, r_iadd, r_isub, r_imul, r_iand, r_ior, r_ixor, r_ishl, r_ishr, r_iushr, r_idiv, r_irem, r_ladd, r_lsub, r_lmul, r_ldiv, r_lrem, r_lshl, r_lcmp, r_i2l, r_i2b, r_i2s, r_dup_i, r_dup_r, r_dup2_ii, r_dup2_ir, r_dup2_l, r_pop, r_getfield, r_putfield, r_iaload, r_iastore, r_aaload, r_arraylength, r_if_eq, r_icmp_eq, r_if_ne, r_icmp_ne, r_if_lt, r_icmp_lt, r_if_ge, r_icmp_ge, r_if_gt, r_icmp_gt, r_if_le, r_icmp_le, r_goto, r_switch, r_ireturn0, r_ireturn1, r_lreturn, r_areturn, r_return, r_inv0, r_inv1, r_inv2, r_inv3, r_inv4, r_inv5, r_min, r_max, r_acopy, onI_s, onL_s, onR_s, onO_s, fv0, fv1, fv2, fv3, fp1, fp20, fp21, fp3, tl_s, tl_n, lg0, lg1, lg2, lg3, lg4, lg5, lg6, lg7, lg8, lg9, lg10, lg11, lg12, lg13, lg14, lg15, lg16, lg17, ls0, ls1, ls2, ls3, ls4, ls5, ls6, ls7, ls8, ls9, ls10, ls11, ls12, ls13, ls14, ls15, ls16, ls17, lk0, lk1, lk2, lk3, lk4, lk5, lk6, lk7, lk8, lk9, lk10, lk11, lk12, lk13, lk14, lk15, lk16, lk17, kl_n, kl_i, kl_r, kl_l, Nat.reduceAdd, Nat.reduceLeDiff, not_false_eq_true, r_ins0, r_ins1, r_ins2, r_ins3, r_ins4, r_ins5]
  have e1 : N2 1 = M 1 := by rw [F2 1 (by decide), sm_ne (by decide)]
  have F3 : Fr [1, 9, 10, 11] M (stM N2 1 7 (ix (fO t n))) := ((Fr.rf.st (c := 9) (l := [9]) (by decide)).tr F2 (l := [1, 9, 10, 11]) (by decide) (by decide)).st (by decide)
  by_cases h0 : fO t n = 0
  · rw [brc_pos (by rw [h0]; rfl)]
    simp only [B_3_0, B_3_1, cB, r_iconst_p, r_iconst_m, r_bipush_p, r_bipush_m, r_sipush_p, r_sipush_m, r_ldc_p, r_ldc_m, r_ldc_w_p, r_ldc_w_m, r_lconst_p, r_lconst_m, r_ldc2_w_p, r_ldc2_w_m, r_iload, r_iload_n, r_lload, r_lload_n, r_aload, r_aload_n, r_istore, r_istore_n, r_astore, r_astore_n, r_lstore, r_lstore_n, r_iinc_p, r_iinc_m, r_iadd, r_isub, r_imul, r_iand, r_ior, r_ixor, r_ishl, r_ishr, r_iushr, r_idiv, r_irem, r_ladd, r_lsub, r_lmul, r_ldiv, r_lrem, r_lshl, r_lcmp, r_i2l, r_i2b, r_i2s, r_dup_i, r_dup_r, r_dup2_ii, r_dup2_ir, r_dup2_l, r_pop, r_getfield, r_putfield, r_iaload, r_iastore, r_aaload, r_arraylength, r_if_eq, r_icmp_eq, r_if_ne, r_icmp_ne, r_if_lt, r_icmp_lt, r_if_ge, r_icmp_ge, r_if_gt, r_icmp_gt, r_if_le, r_icmp_le, r_goto, r_switch, r_ireturn0, r_ireturn1, r_lreturn, r_areturn, r_return, r_inv0, r_inv1, r_inv2, r_inv3, r_inv4, r_inv5, r_min, r_max, r_acopy, onI_s, onL_s, onR_s, onO_s, fv0, fv1, fv2, fv3, fp1, fp20, fp21, fp3, tl_s, tl_n, lg0, lg1, lg2, lg3, lg4, lg5, lg6, lg7, lg8, lg9, lg10, lg11, lg12, lg13, lg14, lg15, lg16, lg17, ls0, ls1, ls2, ls3, ls4, ls5, ls6, ls7, ls8, ls9, ls10, ls11, ls12, ls13, ls14, ls15, ls16, ls17, lk0, lk1, lk2, lk3, lk4, lk5, lk6, lk7, lk8, lk9, lk10, lk11, lk12, lk13, lk14, lk15, lk16, lk17, kl_n, kl_i, kl_r, kl_l, Nat.reduceAdd, Nat.reduceLeDiff, not_false_eq_true, r_ins0, r_ins1, r_ins2, r_ins3, r_ins4, r_ins5]
    have e9 : noF t n = (n + 1) / 3 := by unfold noF; rw [if_pos h0]
    refine ⟨trivial, F3, by rw [sm_eq, e1], by rw [sm_ne (by decide), e9]; exact (R2 h0).1, fun k hk => ?_⟩
    rw [sm_ne (by decide), sm_ne (by decide)]
    unfold owF oqF
    rw [if_pos hk, if_pos hk]
    exact (R2 h0).2 k (by omega)
  · rw [brc_neg (by unfold ix; rw [if_neg h0, q_nm (by omega) (by omega) (by omega)]; exact not_false)]
    simp only [B_3_0, B_3_1, cB, r_iconst_p, r_iconst_m, r_bipush_p, r_bipush_m, r_sipush_p, r_sipush_m, r_ldc_p, r_ldc_m, r_ldc_w_p, r_ldc_w_m, r_lconst_p, r_lconst_m, r_ldc2_w_p, r_ldc2_w_m, r_iload, r_iload_n, r_lload, r_lload_n, r_aload, r_aload_n, r_istore, r_istore_n, r_astore, r_astore_n, r_lstore, r_lstore_n, r_iinc_p, r_iinc_m, r_iadd, r_isub, r_imul, r_iand, r_ior, r_ixor, r_ishl, r_ishr, r_iushr, r_idiv, r_irem, r_ladd, r_lsub, r_lmul, r_ldiv, r_lrem, r_lshl, r_lcmp, r_i2l, r_i2b, r_i2s, r_dup_i, r_dup_r, r_dup2_ii, r_dup2_ir, r_dup2_l, r_pop, r_getfield, r_putfield, r_iaload, r_iastore, r_aaload, r_arraylength, r_if_eq, r_icmp_eq, r_if_ne, r_icmp_ne, r_if_lt, r_icmp_lt, r_if_ge, r_icmp_ge, r_if_gt, r_icmp_gt, r_if_le, r_icmp_le, r_goto, r_switch, r_ireturn0, r_ireturn1, r_lreturn, r_areturn, r_return, r_inv0, r_inv1, r_inv2, r_inv3, r_inv4, r_inv5, r_min, r_max, r_acopy, onI_s, onL_s, onR_s, onO_s, fv0, fv1, fv2, fv3, fp1, fp20, fp21, fp3, tl_s, tl_n, lg0, lg1, lg2, lg3, lg4, lg5, lg6, lg7, lg8, lg9, lg10, lg11, lg12, lg13, lg14, lg15, lg16, lg17, ls0, ls1, ls2, ls3, ls4, ls5, ls6, ls7, ls8, ls9, ls10, ls11, ls12, ls13, ls14, ls15, ls16, ls17, lk0, lk1, lk2, lk3, lk4, lk5, lk6, lk7, lk8, lk9, lk10, lk11, lk12, lk13, lk14, lk15, lk16, lk17, kl_n, kl_i, kl_r, kl_l, Nat.reduceAdd, Nat.reduceLeDiff, not_false_eq_true, r_ins0, r_ins1, r_ins2, r_ins3, r_ins4, r_ins5]
    have e9 : noF t n = 0 := by unfold noF; rw [if_neg h0]
    refine ⟨trivial, F3.st (by decide), by rw [sm_ne (by decide), sm_eq, e1], by rw [sm_eq, u_eq, e9], fun k hk => by omega⟩
