/-! the reference: lives, find -/
section RS
variable {M : Mem} {B : Col} {no ne gn cv a b : Nat} {ow oq ek ew ec : Nat → Nat}
set_option maxHeartbeats 2000000 in
theorem s_lives (H : LV M B no ow oq ne ek ew ec gn cv a b) : Ct 142 [.ref 62] M (fun r N => r = none ∧ Fr LL M N ∧ OcM (LI B no ow oq ne ek ew ec gn cv a b) N) := by
  have hI := H.I
  obtain ⟨H1, H2, -, -, -, -, -, -, -, Ha, Hb, ha6, hb6⟩ := id H
  generalize hIe : LI B no ow oq ne ek ew ec gn cv a b = I at *
  generalize hQ : (fun (r : Option Value) (P : Mem) => r = none ∧ Fr LL M P ∧ OcM I P) = Q
  have i1 : I.1 = if a = b then B else swp B a b := by rw [← hIe]; rfl
  -- the weeks
  have wk : ∀ (n w : Nat) (N : Mem) (u v : Option Value), w + n = 24 → PI I M N w → WP 142 [] 11 [some (.ref 62), some (.int (nI w)), u, v] [] N Q := by
    intro n
    induction n with
    | zero =>
      intro w N u v hw hP
      obtain rfl : w = 24 := by omega
      rw [B_142_11]
      simp only [B_142_0, B_142_2, B_142_3, B_142_4, B_142_5, B_142_7, B_142_8, B_142_10, B_142_12, cm, r_iconst_p, r_iconst_m, r_bipush_p, r_bipush_m, r_sipush_p, r_sipush_m, r_ldc_p, r_ldc_m, r_ldc_w_p, r_ldc_w_m, r_lconst_p, r_lconst_m, r_ldc2_w_p, r_ldc2_w_m, r_iload, r_iload_n, r_lload, r_lload_n, r_aload, r_aload_n, r_istore, r_istore_n, r_astore, r_astore_n, r_lstore, r_lstore_n, r_iinc_p, r_iinc_m, r_iadd, r_isub, r_imul, r_iand, r_ior, r_ixor, r_ishl, r_ishr, r_iushr, r_idiv, r_irem, r_ladd, r_lsub, r_lmul, r_ldiv, r_lrem, r_lshl, r_lcmp, r_i2l, r_i2b, r_i2s, r_dup_i, r_dup_r, r_dup2_ii, r_dup2_ir, r_dup2_l, r_pop, r_getfield, r_putfield, r_iaload, r_iastore, r_aaload, r_arraylength, r_if_eq, r_icmp_eq, r_if_ne, r_icmp_ne, r_if_lt, r_icmp_lt, r_if_ge, r_icmp_ge, r_if_gt, r_icmp_gt, r_if_le, r_icmp_le, r_goto, r_switch, r_ireturn0, r_ireturn1, r_lreturn, r_areturn, r_return, r_inv0, r_inv1, r_inv2, r_inv3, r_inv4, r_inv5, r_min, r_max, r_acopy, onI_s, onL_s, onR_s, onO_s, fv0, fv1, fv2, fv3, fp1, fp20, fp21, fp3, tl_s, tl_n, lg0, lg1, lg2, lg3, lg4, lg5, lg6, lg7, lg8, lg9, lg10, lg11, lg12, lg13, lg14, lg15, lg16, lg17, ls0, ls1, ls2, ls3, ls4, ls5, ls6, ls7, ls8, ls9, ls10, ls11, ls12, ls13, ls14, ls15, ls16, ls17, lk0, lk1, lk2, lk3, lk4, lk5, lk6, lk7, lk8, lk9, lk10, lk11, lk12, lk13, lk14, lk15, lk16, lk17, kl_n, kl_i, kl_r, kl_l, Nat.reduceAdd, Nat.reduceLeDiff, not_false_eq_true, r_ins0, r_ins1, r_ins2, r_ins3, r_ins4, r_ins5]
      rw [brc_pos (Int32.le_refl _), ← hQ]
      exact ⟨rfl, hP.1, hP.2.2.2.2.1, hP.2.2.2.2.2, hP.2.2.2.1, hP.2.2.1, hP.2.1⟩
    | succ n ih =>
      intro w N u v hw hP
      rw [B_142_11]
      simp only [B_142_0, B_142_2, B_142_3, B_142_4, B_142_5, B_142_7, B_142_8, B_142_10, B_142_12, cm, r_iconst_p, r_iconst_m, r_bipush_p, r_bipush_m, r_sipush_p, r_sipush_m, r_ldc_p, r_ldc_m, r_ldc_w_p, r_ldc_w_m, r_lconst_p, r_lconst_m, r_ldc2_w_p, r_ldc2_w_m, r_iload, r_iload_n, r_lload, r_lload_n, r_aload, r_aload_n, r_istore, r_istore_n, r_astore, r_astore_n, r_lstore, r_lstore_n, r_iinc_p, r_iinc_m, r_iadd, r_isub, r_imul, r_iand, r_ior, r_ixor, r_ishl, r_ishr, r_iushr, r_idiv, r_irem, r_ladd, r_lsub, r_lmul, r_ldiv, r_lrem, r_lshl, r_lcmp, r_i2l, r_i2b, r_i2s, r_dup_i, r_dup_r, r_dup2_ii, r_dup2_ir, r_dup2_l, r_pop, r_getfield, r_putfield, r_iaload, r_iastore, r_aaload, r_arraylength, r_if_eq, r_icmp_eq, r_if_ne, r_icmp_ne, r_if_lt, r_icmp_lt, r_if_ge, r_icmp_ge, r_if_gt, r_icmp_gt, r_if_le, r_icmp_le, r_goto, r_switch, r_ireturn0, r_ireturn1, r_lreturn, r_areturn, r_return, r_inv0, r_inv1, r_inv2, r_inv3, r_inv4, r_inv5, r_min, r_max, r_acopy, onI_s, onL_s, onR_s, onO_s, fv0, fv1, fv2, fv3, fp1, fp20, fp21, fp3, tl_s, tl_n, lg0, lg1, lg2, lg3, lg4, lg5, lg6, lg7, lg8, lg9, lg10, lg11, lg12, lg13, lg14, lg15, lg16, lg17, ls0, ls1, ls2, ls3, ls4, ls5, ls6, ls7, ls8, ls9, ls10, ls11, ls12, ls13, ls14, ls15, ls16, ls17, lk0, lk1, lk2, lk3, lk4, lk5, lk6, lk7, lk8, lk9, lk10, lk11, lk12, lk13, lk14, lk15, lk16, lk17, kl_n, kl_i, kl_r, kl_l, Nat.reduceAdd, Nat.reduceLeDiff, not_false_eq_true, r_ins0, r_ins1, r_ins2, r_ins3, r_ins4, r_ins5]
      rw [brc_neg (nI_ge (by omega) (by omega))]
      rw [← hIe] at hP
      refine ⟨trivial, by simp, (s_passes H (by omega) hP).mono ?_⟩
      rintro r P ⟨rfl, hP2⟩
      simp only [B_142_0, B_142_2, B_142_3, B_142_4, B_142_5, B_142_7, B_142_8, B_142_10, B_142_12, cm, q_add, r_iconst_p, r_iconst_m, r_bipush_p, r_bipush_m, r_sipush_p, r_sipush_m, r_ldc_p, r_ldc_m, r_ldc_w_p, r_ldc_w_m, r_lconst_p, r_lconst_m, r_ldc2_w_p, r_ldc2_w_m, r_iload, r_iload_n, r_lload, r_lload_n, r_aload, r_aload_n, r_istore, r_istore_n, r_astore, r_astore_n, r_lstore, r_lstore_n, r_iinc_p, r_iinc_m, r_iadd, r_isub, r_imul, r_iand, r_ior, r_ixor, r_ishl, r_ishr, r_iushr, r_idiv, r_irem, r_ladd, r_lsub, r_lmul, r_ldiv, r_lrem, r_lshl, r_lcmp, r_i2l, r_i2b, r_i2s, r_dup_i, r_dup_r, r_dup2_ii, r_dup2_ir, r_dup2_l, r_pop, r_getfield, r_putfield, r_iaload, r_iastore, r_aaload, r_arraylength, r_if_eq, r_icmp_eq, r_if_ne, r_icmp_ne, r_if_lt, r_icmp_lt, r_if_ge, r_icmp_ge, r_if_gt, r_icmp_gt, r_if_le, r_icmp_le, r_goto, r_switch, r_ireturn0, r_ireturn1, r_lreturn, r_areturn, r_return, r_inv0, r_inv1, r_inv2, r_inv3, r_inv4, r_inv5, r_min, r_max, r_acopy, onI_s, onL_s, onR_s, onO_s, fv0, fv1, fv2, fv3, fp1, fp20, fp21, fp3, tl_s, tl_n, lg0, lg1, lg2, lg3, lg4, lg5, lg6, lg7, lg8, lg9, lg10, lg11, lg12, lg13, lg14, lg15, lg16, lg17, ls0, ls1, ls2, ls3, ls4, ls5, ls6, ls7, ls8, ls9, ls10, ls11, ls12, ls13, ls14, ls15, ls16, ls17, lk0, lk1, lk2, lk3, lk4, lk5, lk6, lk7, lk8, lk9, lk10, lk11, lk12, lk13, lk14, lk15, lk16, lk17, kl_n, kl_i, kl_r, kl_l, Nat.reduceAdd, Nat.reduceLeDiff, not_false_eq_true, r_ins0, r_ins1, r_ins2, r_ins3, r_ins4, r_ins5]
      rw [hIe] at hP2
      exact ih (w + 1) P _ _ (by omega) hP2
  -- nothing has been taken
  have hz : ∀ (n i : Nat) (N : Mem) (u v : Option Value), i + n = 12 → Fr LL M N → RG N 73 74 I.1 → (∀ j, j < i → N 76 j = nI 0) → WP 142 [] 9 [some (.ref 62), some (.int (nI i)), u, v] [] N Q := by
    intro n
    induction n with
    | zero =>
      intro i N u v hi a1 a2 a3
      obtain rfl : i = 12 := by omega
      rw [B_142_9]
      simp only [B_142_0, B_142_2, B_142_3, B_142_4, B_142_5, B_142_7, B_142_8, B_142_10, B_142_12, cm, r_iconst_p, r_iconst_m, r_bipush_p, r_bipush_m, r_sipush_p, r_sipush_m, r_ldc_p, r_ldc_m, r_ldc_w_p, r_ldc_w_m, r_lconst_p, r_lconst_m, r_ldc2_w_p, r_ldc2_w_m, r_iload, r_iload_n, r_lload, r_lload_n, r_aload, r_aload_n, r_istore, r_istore_n, r_astore, r_astore_n, r_lstore, r_lstore_n, r_iinc_p, r_iinc_m, r_iadd, r_isub, r_imul, r_iand, r_ior, r_ixor, r_ishl, r_ishr, r_iushr, r_idiv, r_irem, r_ladd, r_lsub, r_lmul, r_ldiv, r_lrem, r_lshl, r_lcmp, r_i2l, r_i2b, r_i2s, r_dup_i, r_dup_r, r_dup2_ii, r_dup2_ir, r_dup2_l, r_pop, r_getfield, r_putfield, r_iaload, r_iastore, r_aaload, r_arraylength, r_if_eq, r_icmp_eq, r_if_ne, r_icmp_ne, r_if_lt, r_icmp_lt, r_if_ge, r_icmp_ge, r_if_gt, r_icmp_gt, r_if_le, r_icmp_le, r_goto, r_switch, r_ireturn0, r_ireturn1, r_lreturn, r_areturn, r_return, r_inv0, r_inv1, r_inv2, r_inv3, r_inv4, r_inv5, r_min, r_max, r_acopy, onI_s, onL_s, onR_s, onO_s, fv0, fv1, fv2, fv3, fp1, fp20, fp21, fp3, tl_s, tl_n, lg0, lg1, lg2, lg3, lg4, lg5, lg6, lg7, lg8, lg9, lg10, lg11, lg12, lg13, lg14, lg15, lg16, lg17, ls0, ls1, ls2, ls3, ls4, ls5, ls6, ls7, ls8, ls9, ls10, ls11, ls12, ls13, ls14, ls15, ls16, ls17, lk0, lk1, lk2, lk3, lk4, lk5, lk6, lk7, lk8, lk9, lk10, lk11, lk12, lk13, lk14, lk15, lk16, lk17, kl_n, kl_i, kl_r, kl_l, Nat.reduceAdd, Nat.reduceLeDiff, not_false_eq_true, r_ins0, r_ins1, r_ins2, r_ins3, r_ins4, r_ins5]
      rw [brc_pos (Int32.le_refl _)]
      exact wk 24 0 N _ _ (by omega) ⟨a1, a2, a3, fun v hv => by omega, fun q hq => by omega, fun q hq => by omega⟩
    | succ n ih =>
      intro i N u v hi a1 a2 a3
      rw [B_142_9]
      simp only [B_142_0, B_142_2, B_142_3, B_142_4, B_142_5, B_142_7, B_142_8, B_142_10, B_142_12, cm, q_add, nI_clamp (show i < 2 ^ 31 by omega), r_iconst_p, r_iconst_m, r_bipush_p, r_bipush_m, r_sipush_p, r_sipush_m, r_ldc_p, r_ldc_m, r_ldc_w_p, r_ldc_w_m, r_lconst_p, r_lconst_m, r_ldc2_w_p, r_ldc2_w_m, r_iload, r_iload_n, r_lload, r_lload_n, r_aload, r_aload_n, r_istore, r_istore_n, r_astore, r_astore_n, r_lstore, r_lstore_n, r_iinc_p, r_iinc_m, r_iadd, r_isub, r_imul, r_iand, r_ior, r_ixor, r_ishl, r_ishr, r_iushr, r_idiv, r_irem, r_ladd, r_lsub, r_lmul, r_ldiv, r_lrem, r_lshl, r_lcmp, r_i2l, r_i2b, r_i2s, r_dup_i, r_dup_r, r_dup2_ii, r_dup2_ir, r_dup2_l, r_pop, r_getfield, r_putfield, r_iaload, r_iastore, r_aaload, r_arraylength, r_if_eq, r_icmp_eq, r_if_ne, r_icmp_ne, r_if_lt, r_icmp_lt, r_if_ge, r_icmp_ge, r_if_gt, r_icmp_gt, r_if_le, r_icmp_le, r_goto, r_switch, r_ireturn0, r_ireturn1, r_lreturn, r_areturn, r_return, r_inv0, r_inv1, r_inv2, r_inv3, r_inv4, r_inv5, r_min, r_max, r_acopy, onI_s, onL_s, onR_s, onO_s, fv0, fv1, fv2, fv3, fp1, fp20, fp21, fp3, tl_s, tl_n, lg0, lg1, lg2, lg3, lg4, lg5, lg6, lg7, lg8, lg9, lg10, lg11, lg12, lg13, lg14, lg15, lg16, lg17, ls0, ls1, ls2, ls3, ls4, ls5, ls6, ls7, ls8, ls9, ls10, ls11, ls12, ls13, ls14, ls15, ls16, ls17, lk0, lk1, lk2, lk3, lk4, lk5, lk6, lk7, lk8, lk9, lk10, lk11, lk12, lk13, lk14, lk15, lk16, lk17, kl_n, kl_i, kl_r, kl_l, Nat.reduceAdd, Nat.reduceLeDiff, not_false_eq_true, r_ins0, r_ins1, r_ins2, r_ins3, r_ins4, r_ins5]
      rw [brc_neg (nI_ge (by omega) (by omega)), inb_n (n := 12) rfl (by omega) (by omega)]
      refine ⟨by omega, ih (i + 1) _ _ _ (by omega) (a1.st (by decide)) (a2.ne (by decide) (by decide)) (fun j hj => ?_)⟩
      rw [sm_eq, u_if]
      by_cases e : j = i
      · rw [if_pos e]
      · rw [if_neg e]; exact a3 j (by omega)
  -- the blocks
  have bl : ∀ (n c : Nat) (N : Mem) (u v : Option Value), c + n = 6 → Fr LL M N → (∀ d, d < c → N 73 d = nI (I.1 d).length ∧ ∀ j, j < (I.1 d).length → N 74 (6 * d + j) = nI ((I.1 d).getD j 0)) → WP 142 [] 1 [some (.ref 62), some (.int (nI c)), u, v] [] N Q := by
    intro n
    induction n with
    | zero =>
      intro c N u v hc a1 a2
      obtain rfl : c = 6 := by omega
      rw [B_142_1]
      simp only [B_142_0, B_142_7, B_142_8, B_142_10, B_142_12, cm, r_iconst_p, r_iconst_m, r_bipush_p, r_bipush_m, r_sipush_p, r_sipush_m, r_ldc_p, r_ldc_m, r_ldc_w_p, r_ldc_w_m, r_lconst_p, r_lconst_m, r_ldc2_w_p, r_ldc2_w_m, r_iload, r_iload_n, r_lload, r_lload_n, r_aload, r_aload_n, r_istore, r_istore_n, r_astore, r_astore_n, r_lstore, r_lstore_n, r_iinc_p, r_iinc_m, r_iadd, r_isub, r_imul, r_iand, r_ior, r_ixor, r_ishl, r_ishr, r_iushr, r_idiv, r_irem, r_ladd, r_lsub, r_lmul, r_ldiv, r_lrem, r_lshl, r_lcmp, r_i2l, r_i2b, r_i2s, r_dup_i, r_dup_r, r_dup2_ii, r_dup2_ir, r_dup2_l, r_pop, r_getfield, r_putfield, r_iaload, r_iastore, r_aaload, r_arraylength, r_if_eq, r_icmp_eq, r_if_ne, r_icmp_ne, r_if_lt, r_icmp_lt, r_if_ge, r_icmp_ge, r_if_gt, r_icmp_gt, r_if_le, r_icmp_le, r_goto, r_switch, r_ireturn0, r_ireturn1, r_lreturn, r_areturn, r_return, r_inv0, r_inv1, r_inv2, r_inv3, r_inv4, r_inv5, r_min, r_max, r_acopy, onI_s, onL_s, onR_s, onO_s, fv0, fv1, fv2, fv3, fp1, fp20, fp21, fp3, tl_s, tl_n, lg0, lg1, lg2, lg3, lg4, lg5, lg6, lg7, lg8, lg9, lg10, lg11, lg12, lg13, lg14, lg15, lg16, lg17, ls0, ls1, ls2, ls3, ls4, ls5, ls6, ls7, ls8, ls9, ls10, ls11, ls12, ls13, ls14, ls15, ls16, ls17, lk0, lk1, lk2, lk3, lk4, lk5, lk6, lk7, lk8, lk9, lk10, lk11, lk12, lk13, lk14, lk15, lk16, lk17, kl_n, kl_i, kl_r, kl_l, Nat.reduceAdd, Nat.reduceLeDiff, not_false_eq_true, r_ins0, r_ins1, r_ins2, r_ins3, r_ins4, r_ins5]
      rw [brc_pos (Int32.le_refl _)]
      exact hz 12 0 N _ _ (by omega) a1 a2 (fun j hj => by omega)
    | succ n ih =>
      intro c N0 u v hc a1 a2
      have hl := (hI.1 c).1
      have j5 : ∀ (f : Nat) (u : Option Value), f < 6 → I.1 c = B f → WP 142 [] 5 [some (.ref 62), some (.int (nI c)), u, v] [.int (nI f)] N0 Q := by
        intro f u hf he
        have inner : ∀ (m h : Nat) (N : Mem), h + m = (B f).length → Fr LL M N → (∀ d, d < c → N 73 d = nI (I.1 d).length ∧ ∀ j, j < (I.1 d).length → N 74 (6 * d + j) = nI ((I.1 d).getD j 0)) → N 73 c = nI (B f).length → (∀ j, j < h → N 74 (6 * c + j) = nI ((B f).getD j 0)) → WP 142 [] 6 [some (.ref 62), some (.int (nI c)), some (.int (nI f)), some (.int (nI h))] [] N Q := by
          intro m
          induction m with
          | zero =>
            intro h N hh b1 b2 b3 b4
            obtain rfl : h = (B f).length := by omega
            rw [B_142_6]
            simp only [B_142_0, B_142_2, B_142_3, B_142_4, B_142_5, B_142_7, B_142_8, B_142_10, B_142_12, cm, q_add, nI_clamp (show c < 2 ^ 31 by omega), b3, r_iconst_p, r_iconst_m, r_bipush_p, r_bipush_m, r_sipush_p, r_sipush_m, r_ldc_p, r_ldc_m, r_ldc_w_p, r_ldc_w_m, r_lconst_p, r_lconst_m, r_ldc2_w_p, r_ldc2_w_m, r_iload, r_iload_n, r_lload, r_lload_n, r_aload, r_aload_n, r_istore, r_istore_n, r_astore, r_astore_n, r_lstore, r_lstore_n, r_iinc_p, r_iinc_m, r_iadd, r_isub, r_imul, r_iand, r_ior, r_ixor, r_ishl, r_ishr, r_iushr, r_idiv, r_irem, r_ladd, r_lsub, r_lmul, r_ldiv, r_lrem, r_lshl, r_lcmp, r_i2l, r_i2b, r_i2s, r_dup_i, r_dup_r, r_dup2_ii, r_dup2_ir, r_dup2_l, r_pop, r_getfield, r_putfield, r_iaload, r_iastore, r_aaload, r_arraylength, r_if_eq, r_icmp_eq, r_if_ne, r_icmp_ne, r_if_lt, r_icmp_lt, r_if_ge, r_icmp_ge, r_if_gt, r_icmp_gt, r_if_le, r_icmp_le, r_goto, r_switch, r_ireturn0, r_ireturn1, r_lreturn, r_areturn, r_return, r_inv0, r_inv1, r_inv2, r_inv3, r_inv4, r_inv5, r_min, r_max, r_acopy, onI_s, onL_s, onR_s, onO_s, fv0, fv1, fv2, fv3, fp1, fp20, fp21, fp3, tl_s, tl_n, lg0, lg1, lg2, lg3, lg4, lg5, lg6, lg7, lg8, lg9, lg10, lg11, lg12, lg13, lg14, lg15, lg16, lg17, ls0, ls1, ls2, ls3, ls4, ls5, ls6, ls7, ls8, ls9, ls10, ls11, ls12, ls13, ls14, ls15, ls16, ls17, lk0, lk1, lk2, lk3, lk4, lk5, lk6, lk7, lk8, lk9, lk10, lk11, lk12, lk13, lk14, lk15, lk16, lk17, kl_n, kl_i, kl_r, kl_l, Nat.reduceAdd, Nat.reduceLeDiff, not_false_eq_true, r_ins0, r_ins1, r_ins2, r_ins3, r_ins4, r_ins5]
            rw [inb_n (n := 6) rfl (by omega) (by omega), brc_pos (Int32.le_refl _)]
            refine ⟨by omega, ih (c + 1) N _ _ (by omega) b1 (fun d hd => ?_)⟩
            by_cases e : d = c
            · subst e; rw [he]; exact ⟨b3, b4⟩
            · exact b2 d (by omega)
          | succ m ihm =>
            intro h N hh b1 b2 b3 b4
            rw [he] at hl
            rw [B_142_6]
            simp only [B_142_0, B_142_2, B_142_3, B_142_4, B_142_5, B_142_7, B_142_8, B_142_10, B_142_12, cm, q_add, q_mul, nI_clamp (show c < 2 ^ 31 by omega), b3, nI_clamp (show 6 * c + h < 2 ^ 31 by omega), nI_clamp (show 6 * f + h < 2 ^ 31 by omega), b1 70 (by decide), (H1 f hf).2 h (by omega), r_iconst_p, r_iconst_m, r_bipush_p, r_bipush_m, r_sipush_p, r_sipush_m, r_ldc_p, r_ldc_m, r_ldc_w_p, r_ldc_w_m, r_lconst_p, r_lconst_m, r_ldc2_w_p, r_ldc2_w_m, r_iload, r_iload_n, r_lload, r_lload_n, r_aload, r_aload_n, r_istore, r_istore_n, r_astore, r_astore_n, r_lstore, r_lstore_n, r_iinc_p, r_iinc_m, r_iadd, r_isub, r_imul, r_iand, r_ior, r_ixor, r_ishl, r_ishr, r_iushr, r_idiv, r_irem, r_ladd, r_lsub, r_lmul, r_ldiv, r_lrem, r_lshl, r_lcmp, r_i2l, r_i2b, r_i2s, r_dup_i, r_dup_r, r_dup2_ii, r_dup2_ir, r_dup2_l, r_pop, r_getfield, r_putfield, r_iaload, r_iastore, r_aaload, r_arraylength, r_if_eq, r_icmp_eq, r_if_ne, r_icmp_ne, r_if_lt, r_icmp_lt, r_if_ge, r_icmp_ge, r_if_gt, r_icmp_gt, r_if_le, r_icmp_le, r_goto, r_switch, r_ireturn0, r_ireturn1, r_lreturn, r_areturn, r_return, r_inv0, r_inv1, r_inv2, r_inv3, r_inv4, r_inv5, r_min, r_max, r_acopy, onI_s, onL_s, onR_s, onO_s, fv0, fv1, fv2, fv3, fp1, fp20, fp21, fp3, tl_s, tl_n, lg0, lg1, lg2, lg3, lg4, lg5, lg6, lg7, lg8, lg9, lg10, lg11, lg12, lg13, lg14, lg15, lg16, lg17, ls0, ls1, ls2, ls3, ls4, ls5, ls6, ls7, ls8, ls9, ls10, ls11, ls12, ls13, ls14, ls15, ls16, ls17, lk0, lk1, lk2, lk3, lk4, lk5, lk6, lk7, lk8, lk9, lk10, lk11, lk12, lk13, lk14, lk15, lk16, lk17, kl_n, kl_i, kl_r, kl_l, Nat.reduceAdd, Nat.reduceLeDiff, not_false_eq_true, r_ins0, r_ins1, r_ins2, r_ins3, r_ins4, r_ins5]
            rw [inb_n (n := 6) rfl (by omega) (by omega), brc_neg (nI_ge (by omega) (by omega)), inb_n (n := 36) rfl (by omega) (by omega), inb_n (n := 36) rfl (by omega) (by omega)]
            refine ⟨by omega, by omega, by omega, ihm (h + 1) _ (by omega) (b1.st (by decide)) (fun d hd => ?_) (by rw [sm_ne (by decide)]; exact b3) (fun j hj => ?_)⟩
            · have hld := (hI.1 d).1
              rw [sm_ne (show ¬ 73 = 74 by decide), sm_eq]
              refine ⟨(b2 d hd).1, fun j hj => ?_⟩
              rw [u_ne (by omega)]
              exact (b2 d hd).2 j hj
            · rw [sm_eq, u_if]
              by_cases e : j = h
              · rw [if_pos (by omega), e]
              · rw [if_neg (by omega)]; exact b4 j (by omega)
        simp only [B_142_0, B_142_2, B_142_3, B_142_4, B_142_5, B_142_7, B_142_8, B_142_10, B_142_12, cm, nI_clamp (show c < 2 ^ 31 by omega), nI_clamp (show f < 2 ^ 31 by omega), a1 69 (by decide), (H1 f hf).1, r_iconst_p, r_iconst_m, r_bipush_p, r_bipush_m, r_sipush_p, r_sipush_m, r_ldc_p, r_ldc_m, r_ldc_w_p, r_ldc_w_m, r_lconst_p, r_lconst_m, r_ldc2_w_p, r_ldc2_w_m, r_iload, r_iload_n, r_lload, r_lload_n, r_aload, r_aload_n, r_istore, r_istore_n, r_astore, r_astore_n, r_lstore, r_lstore_n, r_iinc_p, r_iinc_m, r_iadd, r_isub, r_imul, r_iand, r_ior, r_ixor, r_ishl, r_ishr, r_iushr, r_idiv, r_irem, r_ladd, r_lsub, r_lmul, r_ldiv, r_lrem, r_lshl, r_lcmp, r_i2l, r_i2b, r_i2s, r_dup_i, r_dup_r, r_dup2_ii, r_dup2_ir, r_dup2_l, r_pop, r_getfield, r_putfield, r_iaload, r_iastore, r_aaload, r_arraylength, r_if_eq, r_icmp_eq, r_if_ne, r_icmp_ne, r_if_lt, r_icmp_lt, r_if_ge, r_icmp_ge, r_if_gt, r_icmp_gt, r_if_le, r_icmp_le, r_goto, r_switch, r_ireturn0, r_ireturn1, r_lreturn, r_areturn, r_return, r_inv0, r_inv1, r_inv2, r_inv3, r_inv4, r_inv5, r_min, r_max, r_acopy, onI_s, onL_s, onR_s, onO_s, fv0, fv1, fv2, fv3, fp1, fp20, fp21, fp3, tl_s, tl_n, lg0, lg1, lg2, lg3, lg4, lg5, lg6, lg7, lg8, lg9, lg10, lg11, lg12, lg13, lg14, lg15, lg16, lg17, ls0, ls1, ls2, ls3, ls4, ls5, ls6, ls7, ls8, ls9, ls10, ls11, ls12, ls13, ls14, ls15, ls16, ls17, lk0, lk1, lk2, lk3, lk4, lk5, lk6, lk7, lk8, lk9, lk10, lk11, lk12, lk13, lk14, lk15, lk16, lk17, kl_n, kl_i, kl_r, kl_l, Nat.reduceAdd, Nat.reduceLeDiff, not_false_eq_true, r_ins0, r_ins1, r_ins2, r_ins3, r_ins4, r_ins5]
        rw [inb_n (n := 6) rfl (by omega) (by omega), inb_n (n := 6) rfl (by omega) (by omega)]
        refine ⟨hf, by omega, inner _ 0 _ (Nat.zero_add _) (a1.st (by decide)) (fun d hd => ?_) (by rw [sm_eq, u_eq]) (fun j hj => by omega)⟩
        rw [sm_eq, u_ne (by omega), sm_ne (by decide)]
        exact a2 d hd
      rw [B_142_1]
      simp only [B_142_0, B_142_2, B_142_3, B_142_4, B_142_7, B_142_10, B_142_12, cm, a1 62 (by decide), Ha, Hb, r_iconst_p, r_iconst_m, r_bipush_p, r_bipush_m, r_sipush_p, r_sipush_m, r_ldc_p, r_ldc_m, r_ldc_w_p, r_ldc_w_m, r_lconst_p, r_lconst_m, r_ldc2_w_p, r_ldc2_w_m, r_iload, r_iload_n, r_lload, r_lload_n, r_aload, r_aload_n, r_istore, r_istore_n, r_astore, r_astore_n, r_lstore, r_lstore_n, r_iinc_p, r_iinc_m, r_iadd, r_isub, r_imul, r_iand, r_ior, r_ixor, r_ishl, r_ishr, r_iushr, r_idiv, r_irem, r_ladd, r_lsub, r_lmul, r_ldiv, r_lrem, r_lshl, r_lcmp, r_i2l, r_i2b, r_i2s, r_dup_i, r_dup_r, r_dup2_ii, r_dup2_ir, r_dup2_l, r_pop, r_getfield, r_putfield, r_iaload, r_iastore, r_aaload, r_arraylength, r_if_eq, r_icmp_eq, r_if_ne, r_icmp_ne, r_if_lt, r_icmp_lt, r_if_ge, r_icmp_ge, r_if_gt, r_icmp_gt, r_if_le, r_icmp_le, r_goto, r_switch, r_ireturn0, r_ireturn1, r_lreturn, r_areturn, r_return, r_inv0, r_inv1, r_inv2, r_inv3, r_inv4, r_inv5, r_min, r_max, r_acopy, onI_s, onL_s, onR_s, onO_s, fv0, fv1, fv2, fv3, fp1, fp20, fp21, fp3, tl_s, tl_n, lg0, lg1, lg2, lg3, lg4, lg5, lg6, lg7, lg8, lg9, lg10, lg11, lg12, lg13, lg14, lg15, lg16, lg17, ls0, ls1, ls2, ls3, ls4, ls5, ls6, ls7, ls8, ls9, ls10, ls11, ls12, ls13, ls14, ls15, ls16, ls17, lk0, lk1, lk2, lk3, lk4, lk5, lk6, lk7, lk8, lk9, lk10, lk11, lk12, lk13, lk14, lk15, lk16, lk17, kl_n, kl_i, kl_r, kl_l, Nat.reduceAdd, Nat.reduceLeDiff, not_false_eq_true, r_ins0, r_ins1, r_ins2, r_ins3, r_ins4, r_ins5]
      rw [brc_neg (nI_ge (by omega) (by omega)), q_eq (show a < 2 ^ 31 by omega) (show b < 2 ^ 31 by omega), q_eq (show c < 2 ^ 31 by omega) (show a < 2 ^ 31 by omega), q_eq (show c < 2 ^ 31 by omega) (show b < 2 ^ 31 by omega)]
      refine brc_i (fun h1 => brc_i (fun h2 => brc_i (fun h3 => j5 c _ (by omega) ?_) (fun h3 => j5 a _ ha6 ?_)) (fun h2 => j5 b _ hb6 ?_)) (fun h1 => j5 c _ (by omega) ?_)
      · rw [i1, if_neg h1]; unfold swp; rw [if_neg h2, if_neg h3]
      · rw [i1, if_neg h1]; unfold swp; rw [if_neg h2, if_pos (Classical.not_not.mp h3)]
      · rw [i1, if_neg h1]; unfold swp; rw [if_pos (Classical.not_not.mp h2)]
      · rw [i1, if_pos (Classical.not_not.mp h1)]
  simp only [E_142, B_142_0, B_142_2, B_142_3, B_142_4, B_142_5, B_142_7, B_142_8, B_142_10, B_142_12, cm, r_iconst_p, r_iconst_m, r_bipush_p, r_bipush_m, r_sipush_p, r_sipush_m, r_ldc_p, r_ldc_m, r_ldc_w_p, r_ldc_w_m, r_lconst_p, r_lconst_m, r_ldc2_w_p, r_ldc2_w_m, r_iload, r_iload_n, r_lload, r_lload_n, r_aload, r_aload_n, r_istore, r_istore_n, r_astore, r_astore_n, r_lstore, r_lstore_n, r_iinc_p, r_iinc_m, r_iadd, r_isub, r_imul, r_iand, r_ior, r_ixor, r_ishl, r_ishr, r_iushr, r_idiv, r_irem, r_ladd, r_lsub, r_lmul, r_ldiv, r_lrem, r_lshl, r_lcmp, r_i2l, r_i2b, r_i2s, r_dup_i, r_dup_r, r_dup2_ii, r_dup2_ir, r_dup2_l, r_pop, r_getfield, r_putfield, r_iaload, r_iastore, r_aaload, r_arraylength, r_if_eq, r_icmp_eq, r_if_ne, r_icmp_ne, r_if_lt, r_icmp_lt, r_if_ge, r_icmp_ge, r_if_gt, r_icmp_gt, r_if_le, r_icmp_le, r_goto, r_switch, r_ireturn0, r_ireturn1, r_lreturn, r_areturn, r_return, r_inv0, r_inv1, r_inv2, r_inv3, r_inv4, r_inv5, r_min, r_max, r_acopy, onI_s, onL_s, onR_s, onO_s, fv0, fv1, fv2, fv3, fp1, fp20, fp21, fp3, tl_s, tl_n, lg0, lg1, lg2, lg3, lg4, lg5, lg6, lg7, lg8, lg9, lg10, lg11, lg12, lg13, lg14, lg15, lg16, lg17, ls0, ls1, ls2, ls3, ls4, ls5, ls6, ls7, ls8, ls9, ls10, ls11, ls12, ls13, ls14, ls15, ls16, ls17, lk0, lk1, lk2, lk3, lk4, lk5, lk6, lk7, lk8, lk9, lk10, lk11, lk12, lk13, lk14, lk15, lk16, lk17, kl_n, kl_i, kl_r, kl_l, Nat.reduceAdd, Nat.reduceLeDiff, not_false_eq_true, r_ins0, r_ins1, r_ins2, r_ins3, r_ins4, r_ins5]
  exact bl 6 0 M none none (by omega) Fr.rf (fun d hd => by omega)
end RS
/-- what was told, read -/
def TD (M : Mem) (g : Sg) : Prop := RG M 69 70 (gB g) ∧ OrM M (gno g) (gow g) (goq g)
/-- the state, read -/
def MF (M : Mem) (g : Sg) : Prop := MJ M g ∧ TD M g
section RW
variable {M : Mem} {g : Sg}
theorem MF.LV (h : MF M g) : LV M (gB g) (gno g) (gow g) (goq g) (gne g) (gek g) (gew g) (gec g) 0 0 0 0 := by
  obtain ⟨⟨h1, h2, h3, h4, h5, h6, h7, h8, h9, h10⟩, h11, h12⟩ := h
  exact ⟨h11, bkC_ok _ _, h12, no_le h2.2.1, fun i => ow_le _ _ i, fun i => oq_le _ _ i, h3, ⟨h7, by omega⟩, ⟨h8, by omega⟩, h9, h10, by omega, by omega⟩
theorem LI_0 : LI (gB g) (gno g) (gow g) (goq g) (gne g) (gek g) (gew g) (gec g) 0 0 0 0 = I0 g := rfl
/-- cells that a summer writes are none of the state's -/
theorem MF.ll {l : List Nat} {N : Mem} (h : MF M g) (hF : Fr l M N) (hl : ∀ c, c ∈ l → 66 ≤ c ∧ c ≠ 67 ∧ c ≠ 68 ∧ c ≠ 69 ∧ c ≠ 70 ∧ c ≠ 71 ∧ c ≠ 72 ∧ c ≠ 80) : MF N g := by
  have G : ∀ c, (c < 66 ∨ c = 67 ∨ c = 68 ∨ c = 69 ∨ c = 70 ∨ c = 71 ∨ c = 72 ∨ c = 80) → N c = M c := fun c hc => hF c (fun q => by have := hl c q; omega)
  refine ⟨h.1.mv (fun c hc => G c (by omega)) (fun j _ => by rw [G 62 (by omega)]), ?_⟩
  unfold TD RG OrM
  rw [G 69 (by omega), G 70 (by omega), G 62 (by omega), G 71 (by omega)]
  exact h.2
theorem LLin {c : Nat} (h : c ∈ LL) : 73 ≤ c ∧ c ≤ 79 := by
  unfold LL at h
  simp only [List.mem_cons, List.not_mem_nil, or_false] at h
  omega
theorem m_lives (h : MF M g) : Ct 142 [.ref 62] M (fun r N => r = none ∧ MF N g ∧ Lw M N ∧ OcM (I0 g) N) := by
  refine (s_lives h.LV).mono ?_
  rintro r N ⟨rfl, hF, hO⟩
  exact ⟨rfl, h.ll hF (fun c hc => by have := LLin hc; omega), Lw.of hF (fun c hc => by have := LLin hc; omega), hO⟩
theorem m_rb (h : MJ M g) : Ct 119 [.ref 62] M (fun r N => r = some (.int (ix (pB (t0 g) (n0 g)).1)) ∧ MJ N g ∧ Lw M N ∧ Fr [69, 70] M N ∧ RG N 69 70 (gB g)) := by
  refine (s_readsBlocks h.1).mono ?_
  rintro r N ⟨rfl, hF, hR⟩
  have G : ∀ c, c < 69 ∨ 70 < c → N c = M c := fun c hc => hF c (by simp only [List.mem_cons, List.not_mem_nil, or_false]; omega)
  exact ⟨rfl, h.mv (fun c hc => G c (by omega)) (fun j _ => by rw [G 62 (by omega)]), fun c hc => G c (by omega), hF, hR⟩
theorem m_ro (h : MJ M g) : Ct 121 [.ref 62] M (fun r N => r = some (.int (ix (fO (t1 g) (n1 g)))) ∧ MJ N g ∧ Lw M N ∧ Fr [62, 71] M N ∧ OrM N (gno g) (gow g) (goq g)) := by
  refine (s_readsOrders h.2.1).mono ?_
  rintro r N ⟨rfl, hF, hj, hR⟩
  have G : ∀ c, c ≠ 62 → c ≠ 71 → N c = M c := fun c h1 h2 => hF c (by simp only [List.mem_cons, List.not_mem_nil, or_false]; omega)
  exact ⟨rfl, h.mv (fun c hc => G c (by omega) (by omega)) (fun j hj2 => hj j (by omega)), fun c hc => G c (by omega) (by omega), hF, hR⟩
theorem m_find (h : MJ M g) : Ct 143 [.ref 62] M (fun r N => r = none ∧ MF N g ∧ Lw M N ∧ OcM (I0 g) N) := by
  simp only [E_143, B_143_0, cm, r_iconst_p, r_iconst_m, r_bipush_p, r_bipush_m, r_sipush_p, r_sipush_m, r_ldc_p, r_ldc_m, r_ldc_w_p, r_ldc_w_m, r_lconst_p, r_lconst_m, r_ldc2_w_p, r_ldc2_w_m, r_iload, r_iload_n, r_lload, r_lload_n, r_aload, r_aload_n, r_istore, r_istore_n, r_astore, r_astore_n, r_lstore, r_lstore_n, r_iinc_p, r_iinc_m, r_iadd, r_isub, r_imul, r_iand, r_ior, r_ixor, r_ishl, r_ishr, r_iushr, r_idiv, r_irem, r_ladd, r_lsub, r_lmul, r_ldiv, r_lrem, r_lshl, r_lcmp, r_i2l, r_i2b, r_i2s, r_dup_i, r_dup_r, r_dup2_ii, r_dup2_ir, r_dup2_l, r_pop, r_getfield, r_putfield, r_iaload, r_iastore, r_aaload, r_arraylength, r_if_eq, r_icmp_eq, r_if_ne, r_icmp_ne, r_if_lt, r_icmp_lt, r_if_ge, r_icmp_ge, r_if_gt, r_icmp_gt, r_if_le, r_icmp_le, r_goto, r_switch, r_ireturn0, r_ireturn1, r_lreturn, r_areturn, r_return, r_inv0, r_inv1, r_inv2, r_inv3, r_inv4, r_inv5, r_min, r_max, r_acopy, onI_s, onL_s, onR_s, onO_s, fv0, fv1, fv2, fv3, fp1, fp20, fp21, fp3, tl_s, tl_n, lg0, lg1, lg2, lg3, lg4, lg5, lg6, lg7, lg8, lg9, lg10, lg11, lg12, lg13, lg14, lg15, lg16, lg17, ls0, ls1, ls2, ls3, ls4, ls5, ls6, ls7, ls8, ls9, ls10, ls11, ls12, ls13, ls14, ls15, ls16, ls17, lk0, lk1, lk2, lk3, lk4, lk5, lk6, lk7, lk8, lk9, lk10, lk11, lk12, lk13, lk14, lk15, lk16, lk17, kl_n, kl_i, kl_r, kl_l, Nat.reduceAdd, Nat.reduceLeDiff, not_false_eq_true, r_ins0, r_ins1, r_ins2, r_ins3, r_ins4, r_ins5]
  refine ⟨trivial, by simp, (m_rb h).mono ?_⟩
  rintro r N1 ⟨rfl, h1, L1, F1, R1⟩
  simp only [B_143_0, cm, r_iconst_p, r_iconst_m, r_bipush_p, r_bipush_m, r_sipush_p, r_sipush_m, r_ldc_p, r_ldc_m, r_ldc_w_p, r_ldc_w_m, r_lconst_p, r_lconst_m, r_ldc2_w_p, r_ldc2_w_m, r_iload, r_iload_n, r_lload, r_lload_n, r_aload, r_aload_n, r_istore, r_istore_n, r_astore, r_astore_n, r_lstore, r_lstore_n, r_iinc_p, r_iinc_m, r_iadd, r_isub, r_imul, r_iand, r_ior, r_ixor, r_ishl, r_ishr, r_iushr, r_idiv, r_irem, r_ladd, r_lsub, r_lmul, r_ldiv, r_lrem, r_lshl, r_lcmp, r_i2l, r_i2b, r_i2s, r_dup_i, r_dup_r, r_dup2_ii, r_dup2_ir, r_dup2_l, r_pop, r_getfield, r_putfield, r_iaload, r_iastore, r_aaload, r_arraylength, r_if_eq, r_icmp_eq, r_if_ne, r_icmp_ne, r_if_lt, r_icmp_lt, r_if_ge, r_icmp_ge, r_if_gt, r_icmp_gt, r_if_le, r_icmp_le, r_goto, r_switch, r_ireturn0, r_ireturn1, r_lreturn, r_areturn, r_return, r_inv0, r_inv1, r_inv2, r_inv3, r_inv4, r_inv5, r_min, r_max, r_acopy, onI_s, onL_s, onR_s, onO_s, fv0, fv1, fv2, fv3, fp1, fp20, fp21, fp3, tl_s, tl_n, lg0, lg1, lg2, lg3, lg4, lg5, lg6, lg7, lg8, lg9, lg10, lg11, lg12, lg13, lg14, lg15, lg16, lg17, ls0, ls1, ls2, ls3, ls4, ls5, ls6, ls7, ls8, ls9, ls10, ls11, ls12, ls13, ls14, ls15, ls16, ls17, lk0, lk1, lk2, lk3, lk4, lk5, lk6, lk7, lk8, lk9, lk10, lk11, lk12, lk13, lk14, lk15, lk16, lk17, kl_n, kl_i, kl_r, kl_l, Nat.reduceAdd, Nat.reduceLeDiff, not_false_eq_true, r_ins0, r_ins1, r_ins2, r_ins3, r_ins4, r_ins5]
  refine ⟨trivial, by simp, (m_ro h1).mono ?_⟩
  rintro r N2 ⟨rfl, h2, L2, F2, R2⟩
  simp only [B_143_0, cm, r_iconst_p, r_iconst_m, r_bipush_p, r_bipush_m, r_sipush_p, r_sipush_m, r_ldc_p, r_ldc_m, r_ldc_w_p, r_ldc_w_m, r_lconst_p, r_lconst_m, r_ldc2_w_p, r_ldc2_w_m, r_iload, r_iload_n, r_lload, r_lload_n, r_aload, r_aload_n, r_istore, r_istore_n, r_astore, r_astore_n, r_lstore, r_lstore_n, r_iinc_p, r_iinc_m, r_iadd, r_isub, r_imul, r_iand, r_ior, r_ixor, r_ishl, r_ishr, r_iushr, r_idiv, r_irem, r_ladd, r_lsub, r_lmul, r_ldiv, r_lrem, r_lshl, r_lcmp, r_i2l, r_i2b, r_i2s, r_dup_i, r_dup_r, r_dup2_ii, r_dup2_ir, r_dup2_l, r_pop, r_getfield, r_putfield, r_iaload, r_iastore, r_aaload, r_arraylength, r_if_eq, r_icmp_eq, r_if_ne, r_icmp_ne, r_if_lt, r_icmp_lt, r_if_ge, r_icmp_ge, r_if_gt, r_icmp_gt, r_if_le, r_icmp_le, r_goto, r_switch, r_ireturn0, r_ireturn1, r_lreturn, r_areturn, r_return, r_inv0, r_inv1, r_inv2, r_inv3, r_inv4, r_inv5, r_min, r_max, r_acopy, onI_s, onL_s, onR_s, onO_s, fv0, fv1, fv2, fv3, fp1, fp20, fp21, fp3, tl_s, tl_n, lg0, lg1, lg2, lg3, lg4, lg5, lg6, lg7, lg8, lg9, lg10, lg11, lg12, lg13, lg14, lg15, lg16, lg17, ls0, ls1, ls2, ls3, ls4, ls5, ls6, ls7, ls8, ls9, ls10, ls11, ls12, ls13, ls14, ls15, ls16, ls17, lk0, lk1, lk2, lk3, lk4, lk5, lk6, lk7, lk8, lk9, lk10, lk11, lk12, lk13, lk14, lk15, lk16, lk17, kl_n, kl_i, kl_r, kl_l, Nat.reduceAdd, Nat.reduceLeDiff, not_false_eq_true, r_ins0, r_ins1, r_ins2, r_ins3, r_ins4, r_ins5]
  have hMF : MF N2 g := ⟨h2, R1.fr F2 (by decide) (by decide), R2⟩
  refine ⟨trivial, by simp, (m_lives hMF).mono ?_⟩
  rintro r N3 ⟨rfl, h3, L3, hO⟩
  simp only [B_143_0, cm, r_iconst_p, r_iconst_m, r_bipush_p, r_bipush_m, r_sipush_p, r_sipush_m, r_ldc_p, r_ldc_m, r_ldc_w_p, r_ldc_w_m, r_lconst_p, r_lconst_m, r_ldc2_w_p, r_ldc2_w_m, r_iload, r_iload_n, r_lload, r_lload_n, r_aload, r_aload_n, r_istore, r_istore_n, r_astore, r_astore_n, r_lstore, r_lstore_n, r_iinc_p, r_iinc_m, r_iadd, r_isub, r_imul, r_iand, r_ior, r_ixor, r_ishl, r_ishr, r_iushr, r_idiv, r_irem, r_ladd, r_lsub, r_lmul, r_ldiv, r_lrem, r_lshl, r_lcmp, r_i2l, r_i2b, r_i2s, r_dup_i, r_dup_r, r_dup2_ii, r_dup2_ir, r_dup2_l, r_pop, r_getfield, r_putfield, r_iaload, r_iastore, r_aaload, r_arraylength, r_if_eq, r_icmp_eq, r_if_ne, r_icmp_ne, r_if_lt, r_icmp_lt, r_if_ge, r_icmp_ge, r_if_gt, r_icmp_gt, r_if_le, r_icmp_le, r_goto, r_switch, r_ireturn0, r_ireturn1, r_lreturn, r_areturn, r_return, r_inv0, r_inv1, r_inv2, r_inv3, r_inv4, r_inv5, r_min, r_max, r_acopy, onI_s, onL_s, onR_s, onO_s, fv0, fv1, fv2, fv3, fp1, fp20, fp21, fp3, tl_s, tl_n, lg0, lg1, lg2, lg3, lg4, lg5, lg6, lg7, lg8, lg9, lg10, lg11, lg12, lg13, lg14, lg15, lg16, lg17, ls0, ls1, ls2, ls3, ls4, ls5, ls6, ls7, ls8, ls9, ls10, ls11, ls12, ls13, ls14, ls15, ls16, ls17, lk0, lk1, lk2, lk3, lk4, lk5, lk6, lk7, lk8, lk9, lk10, lk11, lk12, lk13, lk14, lk15, lk16, lk17, kl_n, kl_i, kl_r, kl_l, Nat.reduceAdd, Nat.reduceLeDiff, not_false_eq_true, r_ins0, r_ins1, r_ins2, r_ins3, r_ins4, r_ins5]
  exact ⟨trivial, h3, (L1.tr L2).tr L3, hO⟩
end RW
