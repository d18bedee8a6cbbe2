/-! the reference: seen, read -/
theorem ix_ge0 {k : Nat} (hk : k < 2 ^ 31) : (nI 0 ≤ ix k) = (¬ k = 0) := by
  unfold ix
  by_cases h : k = 0
  · rw [if_pos h, q_nle (by omega) (by omega) (by omega)]; simp [h]
  · rw [if_neg h, q_le (by omega) (by omega)]; simp [h]
theorem ix_l0 {k : Nat} (hk : k < 2 ^ 31) : (ix k < nI 0) = (k = 0) := ix_lt0 hk
section RW
variable {M N : Mem} {g : Sg}
def snM (M : Mem) (n : Nat) (k w c : Int32) : Mem := stM (stM (stM (stM M 80 (3 * n) k) 80 (3 * n + 1) w) 80 (3 * n + 2) c) 62 24 (nI (n + 1))
theorem m_seen (h : MJ M g) (w c v : Int32) : Ct 173 [.ref 62, .int w, .int c, .int v] M (fun r N => r = some (.int (aSeen g w c v)) ∧ MJ N (gSeen g w c v) ∧ Lw M N) := by
  obtain ⟨n1, n2, n3, n4⟩ := h.2.2.2.1
  unfold aSeen gSeen
  simp only [E_173, B_173_0, B_173_1, B_173_2, B_173_3, cm, ct_isWk, ct_isCol, ct_in, in_rg (show 6 < 2 ^ 31 by omega), n1, sm_ne (show ¬ 62 = 80 by decide), q_mul, q_add, sm_eq, u_eq, r_iconst_p, r_iconst_m, r_bipush_p, r_bipush_m, r_sipush_p, r_sipush_m, r_ldc_p, r_ldc_m, r_ldc_w_p, r_ldc_w_m, r_lconst_p, r_lconst_m, r_ldc2_w_p, r_ldc2_w_m, r_iload, r_iload_n, r_lload, r_lload_n, r_aload, r_aload_n, r_istore, r_istore_n, r_astore, r_astore_n, r_lstore, r_lstore_n, r_iinc_p, r_iinc_m, r_iadd, r_isub, r_imul, r_iand, r_ior, r_ixor, r_ishl, r_ishr, r_iushr, r_idiv, r_irem, r_ladd, r_lsub, r_lmul, r_ldiv, r_lrem, r_lshl, r_lcmp, r_i2l, r_i2b, r_i2s, r_dup_i, r_dup_r, r_dup2_ii, r_dup2_ir, r_dup2_l, r_pop, r_getfield, r_putfield, r_iaload, r_iastore, r_aaload, r_arraylength, r_if_eq, r_icmp_eq, r_if_ne, r_icmp_ne, r_if_lt, r_icmp_lt, r_if_ge, r_icmp_ge, r_if_gt, r_icmp_gt, r_if_le, r_icmp_le, r_goto, r_switch, r_ireturn0, r_ireturn1, r_lreturn, r_areturn, r_return, r_inv0, r_inv1, r_inv2, r_inv3, r_inv4, r_inv5, r_min, r_max, r_acopy, onI_s, onL_s, onR_s, onO_s, fv0, fv1, fv2, fv3, fp1, fp20, fp21, fp3, tl_s, tl_n, lg0, lg1, lg2, lg3, lg4, lg5, lg6, lg7, lg8, lg9, lg10, lg11, lg12, lg13, lg14, lg15, lg16, lg17, ls0, ls1, ls2, ls3, ls4, ls5, ls6, ls7, ls8, ls9, ls10, ls11, ls12, ls13, ls14, ls15, ls16, ls17, lk0, lk1, lk2, lk3, lk4, lk5, lk6, lk7, lk8, lk9, lk10, lk11, lk12, lk13, lk14, lk15, lk16, lk17, kl_n, kl_i, kl_r, kl_l, Nat.reduceAdd, Nat.reduceLeDiff, not_false_eq_true, r_ins0, r_ins1, r_ins2, r_ins3, r_ins4, r_ins5]
  refine ⟨by simp, ?_⟩
  cases hw : rg w 24 with
  | false => rw [rF', brc_pos rfl, if_neg (fun q => by cases q.1), if_neg (fun q => by cases q.1.1)]; exact ⟨rfl, h, Lw.rf⟩
  | true =>
    rw [rT', n10, brc_F]
    refine ⟨by simp, ?_⟩
    cases hc : rg c 6 with
    | false => rw [rF', brc_pos rfl, if_neg (fun q => by cases q.2.1), if_neg (fun q => by cases q.1.2.1)]; exact ⟨rfl, h, Lw.rf⟩
    | true =>
      rw [rT', n10, brc_F]
      refine ⟨by simp, ?_⟩
      cases hv : rg v (6 + 1) with
      | false => rw [rF', brc_neg (fun q => q rfl), if_neg (fun q => by cases q.2.2), if_neg (fun q => by cases q.1.2.2)]; exact ⟨rfl, h, Lw.rf⟩
      | true =>
        obtain ⟨b1, e1⟩ := rg_T hw
        obtain ⟨b2, e2⟩ := rg_T hc
        obtain ⟨b3, e3⟩ := rg_T hv
        rw [rT', n10, brc_nF, if_pos ⟨rfl, rfl, rfl⟩, q_eq (by omega) (by omega)]
        generalize cl w = j at *
        generalize cl c = k at *
        generalize cl v = y at *
        subst e1
        subst e2
        subst e3
        simp only [nI_clamp (show 3 * gns g < 2 ^ 31 by omega), nI_clamp (show 3 * gns g + 1 < 2 ^ 31 by omega), nI_clamp (show 3 * gns g + 2 < 2 ^ 31 by omega)]
        refine brc_i (fun hz => ?_) (fun hz => ?_)
        · rw [if_pos (by omega), if_pos (by refine ⟨?_, by omega⟩; simp), inb_n (n := 24) rfl (by omega) (by omega), inb_n (n := 24) rfl (by omega) (by omega), inb_n (n := 24) rfl (by omega) (by omega)]
          have hm : MJ (snM M (gns g) (nI j) (nI k) (nI y)) (setSn g (gns g + 1, un (gnw g) (gns g) j, un (gnc g) (gns g) k, un (gnv g) (gns g) y)) := by
            unfold snM
            refine h.snt (fun d a1 a2 => by rw [sm_ne a1, sm_ne a2, sm_ne a2, sm_ne a2]) (fun i hi => by rw [sm_eq, u_ne hi, sm_ne (by decide), sm_ne (by decide), sm_ne (by decide)]) ⟨by rw [sm_eq, u_eq], by dsimp only; omega, fun i hi => ?_, fun i => ?_⟩
            · dsimp only at hi
              rw [sm_ne (show ¬ 80 = 62 by decide), sm_eq, sm_eq, sm_eq]
              simp only [u_if]
              unfold un
              by_cases e : i = gns g
              · subst e
                refine ⟨?_, ?_, ?_⟩
                · rw [if_neg (by omega), if_neg (by omega), if_pos rfl, if_pos rfl]
                · rw [if_neg (by omega), if_pos rfl, if_pos rfl]
                · rw [if_pos rfl, if_pos rfl]
              · refine ⟨?_, ?_, ?_⟩
                · rw [if_neg (by omega), if_neg (by omega), if_neg (by omega), if_neg e]
                  exact (n3 i (by omega)).1
                · rw [if_neg (by omega), if_neg (by omega), if_neg (by omega), if_neg e]
                  exact (n3 i (by omega)).2.1
                · rw [if_neg (by omega), if_neg (by omega), if_neg (by omega), if_neg e]
                  exact (n3 i (by omega)).2.2
            · have := n4 i
              unfold un
              dsimp only
              split
              · omega
              · exact this
          exact ⟨by omega, by omega, by omega, by first | rfl | trivial, hm, (((Lw.rf.st (by omega)).st (by omega)).st (by omega)).st (by omega)⟩
        · rw [if_neg (by omega), if_neg (fun q => by omega)]; exact ⟨rfl, h, Lw.rf⟩
set_option maxHeartbeats 1000000 in
theorem m_read (h : MJ M g) (x : Int32) : Ct 133 [.ref 62, .int x] M (fun r N => r = some (.int (aRead g x)) ∧ MJ N (gRead g x) ∧ Lw M N) := by
  have hE := h.2.2.1
  have h8 := hE.2.1
  unfold aRead gRead
  simp only [E_133, B_133_0, B_133_1, B_133_2, B_133_4, B_133_5, B_133_6, B_133_7, B_133_8, cm, ct_isSh, ct_finds, r_iconst_p, r_iconst_m, r_bipush_p, r_bipush_m, r_sipush_p, r_sipush_m, r_ldc_p, r_ldc_m, r_ldc_w_p, r_ldc_w_m, r_lconst_p, r_lconst_m, r_ldc2_w_p, r_ldc2_w_m, r_iload, r_iload_n, r_lload, r_lload_n, r_aload, r_aload_n, r_istore, r_istore_n, r_astore, r_astore_n, r_lstore, r_lstore_n, r_iinc_p, r_iinc_m, r_iadd, r_isub, r_imul, r_iand, r_ior, r_ixor, r_ishl, r_ishr, r_iushr, r_idiv, r_irem, r_ladd, r_lsub, r_lmul, r_ldiv, r_lrem, r_lshl, r_lcmp, r_i2l, r_i2b, r_i2s, r_dup_i, r_dup_r, r_dup2_ii, r_dup2_ir, r_dup2_l, r_pop, r_getfield, r_putfield, r_iaload, r_iastore, r_aaload, r_arraylength, r_if_eq, r_icmp_eq, r_if_ne, r_icmp_ne, r_if_lt, r_icmp_lt, r_if_ge, r_icmp_ge, r_if_gt, r_icmp_gt, r_if_le, r_icmp_le, r_goto, r_switch, r_ireturn0, r_ireturn1, r_lreturn, r_areturn, r_return, r_inv0, r_inv1, r_inv2, r_inv3, r_inv4, r_inv5, r_min, r_max, r_acopy, onI_s, onL_s, onR_s, onO_s, fv0, fv1, fv2, fv3, fp1, fp20, fp21, fp3, tl_s, tl_n, lg0, lg1, lg2, lg3, lg4, lg5, lg6, lg7, lg8, lg9, lg10, lg11, lg12, lg13, lg14, lg15, lg16, lg17, ls0, ls1, ls2, ls3, ls4, ls5, ls6, ls7, ls8, ls9, ls10, ls11, ls12, ls13, ls14, ls15, ls16, ls17, lk0, lk1, lk2, lk3, lk4, lk5, lk6, lk7, lk8, lk9, lk10, lk11, lk12, lk13, lk14, lk15, lk16, lk17, kl_n, kl_i, kl_r, kl_l, Nat.reduceAdd, Nat.reduceLeDiff, not_false_eq_true, r_ins0, r_ins1, r_ins2, r_ins3, r_ins4, r_ins5]
  refine ⟨by simp, ?_⟩
  cases hx : rg x 4 with
  | false => rw [rF', brc_neg (fun q => q rfl), if_neg (by decide), if_neg (by decide)]; exact ⟨rfl, h, Lw.rf⟩
  | true =>
    obtain ⟨b1, e1⟩ := rg_T hx
    rw [rT', n10, brc_nF, if_pos rfl, if_pos rfl]
    generalize cl x = s at *
    subst e1
    obtain ⟨s1, s2, s3, s4, s5⟩ := h.2.2.2.2.1 s b1
    rw [inb_n (n := 4) rfl (by omega) (by omega), nI_clamp (by omega), s1, ix_ge0 (by omega)]
    refine ⟨b1, brc_i (fun hz => ?_) (fun hz => ?_)⟩
    · rw [if_neg hz, if_neg hz]
      generalize hm : rdN (rdOk g s) 9 0 = m
      generalize hQ : (fun (r : Option Value) (N : Mem) => r = some (.int (nI m)) ∧ MJ N (setEv g (rdE g s m)) ∧ Lw M N) = Q
      have fin : ∀ (N : Mem) (v3 v4 : Option Value), Fr [62, 72] M N → (∀ j, j ≠ 11 → N 62 j = M 62 j) → EvM N (rdE g s m).1 (rdE g s m).2.1 (rdE g s m).2.2.1 (rdE g s m).2.2.2 → WP 133 [] 8 [some (.ref 62), some (.int (nI s)), some (.int (nI m)), v3, v4] [] N Q := by
        intro N v3 v4 hF hj hR
        simp only [B_133_0, B_133_1, B_133_2, B_133_4, B_133_5, B_133_6, B_133_7, B_133_8, cm, r_iconst_p, r_iconst_m, r_bipush_p, r_bipush_m, r_sipush_p, r_sipush_m, r_ldc_p, r_ldc_m, r_ldc_w_p, r_ldc_w_m, r_lconst_p, r_lconst_m, r_ldc2_w_p, r_ldc2_w_m, r_iload, r_iload_n, r_lload, r_lload_n, r_aload, r_aload_n, r_istore, r_istore_n, r_astore, r_astore_n, r_lstore, r_lstore_n, r_iinc_p, r_iinc_m, r_iadd, r_isub, r_imul, r_iand, r_ior, r_ixor, r_ishl, r_ishr, r_iushr, r_idiv, r_irem, r_ladd, r_lsub, r_lmul, r_ldiv, r_lrem, r_lshl, r_lcmp, r_i2l, r_i2b, r_i2s, r_dup_i, r_dup_r, r_dup2_ii, r_dup2_ir, r_dup2_l, r_pop, r_getfield, r_putfield, r_iaload, r_iastore, r_aaload, r_arraylength, r_if_eq, r_icmp_eq, r_if_ne, r_icmp_ne, r_if_lt, r_icmp_lt, r_if_ge, r_icmp_ge, r_if_gt, r_icmp_gt, r_if_le, r_icmp_le, r_goto, r_switch, r_ireturn0, r_ireturn1, r_lreturn, r_areturn, r_return, r_inv0, r_inv1, r_inv2, r_inv3, r_inv4, r_inv5, r_min, r_max, r_acopy, onI_s, onL_s, onR_s, onO_s, fv0, fv1, fv2, fv3, fp1, fp20, fp21, fp3, tl_s, tl_n, lg0, lg1, lg2, lg3, lg4, lg5, lg6, lg7, lg8, lg9, lg10, lg11, lg12, lg13, lg14, lg15, lg16, lg17, ls0, ls1, ls2, ls3, ls4, ls5, ls6, ls7, ls8, ls9, ls10, ls11, ls12, ls13, ls14, ls15, ls16, ls17, lk0, lk1, lk2, lk3, lk4, lk5, lk6, lk7, lk8, lk9, lk10, lk11, lk12, lk13, lk14, lk15, lk16, lk17, kl_n, kl_i, kl_r, kl_l, Nat.reduceAdd, Nat.reduceLeDiff, not_false_eq_true, r_ins0, r_ins1, r_ins2, r_ins3, r_ins4, r_ins5]
        rw [← hQ]
        exact ⟨rfl, h.evt (fun c a1 a2 => hF c (by simp only [List.mem_cons, List.not_mem_nil, or_false]; omega)) hj hR, Lw.of hF (fun c hc => by simp only [List.mem_cons, List.not_mem_nil, or_false] at hc; omega)⟩
      have key : ∀ (f k : Nat) (N : Mem) (v4 : Option Value), k + f = 9 → gne g + k ≤ 8 → Fr [62, 72] M N → (∀ j, j ≠ 11 → N 62 j = M 62 j) → EvM N (rdE g s k).1 (rdE g s k).2.1 (rdE g s k).2.2.1 (rdE g s k).2.2.2 → rdN (rdOk g s) f k = m → WP 133 [] 3 [some (.ref 62), some (.int (nI s)), some (.int (nI k)), some (.int (nI 1)), v4] [] N Q := by
        intro f
        induction f with
        | zero => intro k N v4 hk hk8; omega
        | succ f ih =>
          intro k N v4 hk hk8 hF hj hR hr
          rw [rdN_s] at hr
          rw [B_133_3]
          simp only [B_133_0, B_133_1, B_133_2, B_133_4, B_133_6, B_133_7, cm, hF 64 (by decide), hF 65 (by decide), nI_clamp (show s < 2 ^ 31 by omega), s3, q_mul, q_add, r_iconst_p, r_iconst_m, r_bipush_p, r_bipush_m, r_sipush_p, r_sipush_m, r_ldc_p, r_ldc_m, r_ldc_w_p, r_ldc_w_m, r_lconst_p, r_lconst_m, r_ldc2_w_p, r_ldc2_w_m, r_iload, r_iload_n, r_lload, r_lload_n, r_aload, r_aload_n, r_istore, r_istore_n, r_astore, r_astore_n, r_lstore, r_lstore_n, r_iinc_p, r_iinc_m, r_iadd, r_isub, r_imul, r_iand, r_ior, r_ixor, r_ishl, r_ishr, r_iushr, r_idiv, r_irem, r_ladd, r_lsub, r_lmul, r_ldiv, r_lrem, r_lshl, r_lcmp, r_i2l, r_i2b, r_i2s, r_dup_i, r_dup_r, r_dup2_ii, r_dup2_ir, r_dup2_l, r_pop, r_getfield, r_putfield, r_iaload, r_iastore, r_aaload, r_arraylength, r_if_eq, r_icmp_eq, r_if_ne, r_icmp_ne, r_if_lt, r_icmp_lt, r_if_ge, r_icmp_ge, r_if_gt, r_icmp_gt, r_if_le, r_icmp_le, r_goto, r_switch, r_ireturn0, r_ireturn1, r_lreturn, r_areturn, r_return, r_inv0, r_inv1, r_inv2, r_inv3, r_inv4, r_inv5, r_min, r_max, r_acopy, onI_s, onL_s, onR_s, onO_s, fv0, fv1, fv2, fv3, fp1, fp20, fp21, fp3, tl_s, tl_n, lg0, lg1, lg2, lg3, lg4, lg5, lg6, lg7, lg8, lg9, lg10, lg11, lg12, lg13, lg14, lg15, lg16, lg17, ls0, ls1, ls2, ls3, ls4, ls5, ls6, ls7, ls8, ls9, ls10, ls11, ls12, ls13, ls14, ls15, ls16, ls17, lk0, lk1, lk2, lk3, lk4, lk5, lk6, lk7, lk8, lk9, lk10, lk11, lk12, lk13, lk14, lk15, lk16, lk17, kl_n, kl_i, kl_r, kl_l, Nat.reduceAdd, Nat.reduceLeDiff, not_false_eq_true, r_ins0, r_ins1, r_ins2, r_ins3, r_ins4, r_ins5]
          rw [n10, brc_F, inb_n (n := 4) rfl (by omega) (by omega), q_lt (by omega) (by omega)]
          refine ⟨b1, brc_i (fun c1 => ?_) (fun c1 => ?_)⟩
          · rw [if_neg (by unfold rdOk; rw [decide_eq_false (by omega), Bool.false_and]; decide)] at hr
            subst hr
            exact fin N _ _ hF hj hR
          · have hi1 : M 65 (60 * s + 3 * k) = git g s (3 * k) := s5 (3 * k) (by omega)
            have hi2 : M 65 (60 * s + 3 * k + 1) = git g s (3 * k + 1) := s5 (3 * k + 1) (by omega)
            have hi3 : M 65 (60 * s + 3 * k + 2) = git g s (3 * k + 2) := s5 (3 * k + 2) (by omega)
            simp only [nI_clamp (show 60 * s + 3 * k < 2 ^ 31 by omega), nI_clamp (show 60 * s + 3 * k + 1 < 2 ^ 31 by omega), nI_clamp (show 60 * s + 3 * k + 2 < 2 ^ 31 by omega), hi1, hi2, hi3]
            rw [inb_n (n := 240) rfl (by omega) (by omega), inb_n (n := 240) rfl (by omega) (by omega), inb_n (n := 240) rfl (by omega) (by omega), (x_event hR _ _ _).ct]
            have e1 : (rdE g s k).1 = gne g + k := rfl
            rw [e1]
            simp only [B_133_0, B_133_1, B_133_2, B_133_4, B_133_6, B_133_7, cm, r_iconst_p, r_iconst_m, r_bipush_p, r_bipush_m, r_sipush_p, r_sipush_m, r_ldc_p, r_ldc_m, r_ldc_w_p, r_ldc_w_m, r_lconst_p, r_lconst_m, r_ldc2_w_p, r_ldc2_w_m, r_iload, r_iload_n, r_lload, r_lload_n, r_aload, r_aload_n, r_istore, r_istore_n, r_astore, r_astore_n, r_lstore, r_lstore_n, r_iinc_p, r_iinc_m, r_iadd, r_isub, r_imul, r_iand, r_ior, r_ixor, r_ishl, r_ishr, r_iushr, r_idiv, r_irem, r_ladd, r_lsub, r_lmul, r_ldiv, r_lrem, r_lshl, r_lcmp, r_i2l, r_i2b, r_i2s, r_dup_i, r_dup_r, r_dup2_ii, r_dup2_ir, r_dup2_l, r_pop, r_getfield, r_putfield, r_iaload, r_iastore, r_aaload, r_arraylength, r_if_eq, r_icmp_eq, r_if_ne, r_icmp_ne, r_if_lt, r_icmp_lt, r_if_ge, r_icmp_ge, r_if_gt, r_icmp_gt, r_if_le, r_icmp_le, r_goto, r_switch, r_ireturn0, r_ireturn1, r_lreturn, r_areturn, r_return, r_inv0, r_inv1, r_inv2, r_inv3, r_inv4, r_inv5, r_min, r_max, r_acopy, onI_s, onL_s, onR_s, onO_s, fv0, fv1, fv2, fv3, fp1, fp20, fp21, fp3, tl_s, tl_n, lg0, lg1, lg2, lg3, lg4, lg5, lg6, lg7, lg8, lg9, lg10, lg11, lg12, lg13, lg14, lg15, lg16, lg17, ls0, ls1, ls2, ls3, ls4, ls5, ls6, ls7, ls8, ls9, ls10, ls11, ls12, ls13, ls14, ls15, ls16, ls17, lk0, lk1, lk2, lk3, lk4, lk5, lk6, lk7, lk8, lk9, lk10, lk11, lk12, lk13, lk14, lk15, lk16, lk17, kl_n, kl_i, kl_r, kl_l, Nat.reduceAdd, Nat.reduceLeDiff, not_false_eq_true, r_ins0, r_ins1, r_ins2, r_ins3, r_ins4, r_ins5]
            refine ⟨by omega, by omega, by omega, trivial, by simp, ?_⟩
            by_cases hb : (rg (git g s (3 * k)) 3 = true ∧ rg (git g s (3 * k + 1)) 24 = true ∧ rg (git g s (3 * k + 2)) 6 = true) ∧ gne g + k < 8
            · have eo : rdOk g s k = true := by
                unfold rdOk
                rw [decide_eq_true ⟨by omega, hb.2⟩, hb.1.1, hb.1.2.1, hb.1.2.2]; rfl
              rw [eo, if_pos rfl] at hr
              rw [if_pos hb.1, if_pos hb.2, if_pos hb, q_lt (by omega) (by omega), brc_neg (by omega)]
              obtain ⟨a1, f1⟩ := rg_T hb.1.1
              obtain ⟨a2, f2⟩ := rg_T hb.1.2.1
              obtain ⟨a3, f3⟩ := rg_T hb.1.2.2
              have hE2 := ev_un hR (show (rdE g s k).1 < 8 from hb.2) (k := cl (git g s (3 * k))) (w := cl (git g s (3 * k + 1))) (c := cl (git g s (3 * k + 2))) (by omega) (by omega) (by omega)
              rw [← f1, ← f2, ← f3] at hE2
              simp only [B_133_0, B_133_1, B_133_2, B_133_4, B_133_5, B_133_6, B_133_7, cm, q_add, r_iconst_p, r_iconst_m, r_bipush_p, r_bipush_m, r_sipush_p, r_sipush_m, r_ldc_p, r_ldc_m, r_ldc_w_p, r_ldc_w_m, r_lconst_p, r_lconst_m, r_ldc2_w_p, r_ldc2_w_m, r_iload, r_iload_n, r_lload, r_lload_n, r_aload, r_aload_n, r_istore, r_istore_n, r_astore, r_astore_n, r_lstore, r_lstore_n, r_iinc_p, r_iinc_m, r_iadd, r_isub, r_imul, r_iand, r_ior, r_ixor, r_ishl, r_ishr, r_iushr, r_idiv, r_irem, r_ladd, r_lsub, r_lmul, r_ldiv, r_lrem, r_lshl, r_lcmp, r_i2l, r_i2b, r_i2s, r_dup_i, r_dup_r, r_dup2_ii, r_dup2_ir, r_dup2_l, r_pop, r_getfield, r_putfield, r_iaload, r_iastore, r_aaload, r_arraylength, r_if_eq, r_icmp_eq, r_if_ne, r_icmp_ne, r_if_lt, r_icmp_lt, r_if_ge, r_icmp_ge, r_if_gt, r_icmp_gt, r_if_le, r_icmp_le, r_goto, r_switch, r_ireturn0, r_ireturn1, r_lreturn, r_areturn, r_return, r_inv0, r_inv1, r_inv2, r_inv3, r_inv4, r_inv5, r_min, r_max, r_acopy, onI_s, onL_s, onR_s, onO_s, fv0, fv1, fv2, fv3, fp1, fp20, fp21, fp3, tl_s, tl_n, lg0, lg1, lg2, lg3, lg4, lg5, lg6, lg7, lg8, lg9, lg10, lg11, lg12, lg13, lg14, lg15, lg16, lg17, ls0, ls1, ls2, ls3, ls4, ls5, ls6, ls7, ls8, ls9, ls10, ls11, ls12, ls13, ls14, ls15, ls16, ls17, lk0, lk1, lk2, lk3, lk4, lk5, lk6, lk7, lk8, lk9, lk10, lk11, lk12, lk13, lk14, lk15, lk16, lk17, kl_n, kl_i, kl_r, kl_l, Nat.reduceAdd, Nat.reduceLeDiff, not_false_eq_true, r_ins0, r_ins1, r_ins2, r_ins3, r_ins4, r_ins5]
              rw [n10, brc_F]
              refine ih (k + 1) _ _ (by omega) (by omega) ?_ (fun j hj2 => by rw [kp_62 hj2]; exact hj j hj2) ?_ hr
              · intro c hc
                simp only [List.mem_cons, List.not_mem_nil, or_false] at hc
                rw [kp_ne (by omega) (by omega)]
                exact hF c (by simp only [List.mem_cons, List.not_mem_nil, or_false]; omega)
              · rw [rdE_s]; exact hE2
            · have eo : rdOk g s k = false := by
                cases hq : rdOk g s k with
                | false => rfl
                | true =>
                  unfold rdOk at hq
                  simp only [Bool.and_eq_true, decide_eq_true_eq] at hq
                  exact absurd ⟨⟨hq.2.1, hq.2.2.1, hq.2.2.2⟩, hq.1.2⟩ hb
              rw [eo, if_neg (by decide)] at hr
              subst hr
              rw [if_neg hb]
              have neg : (if rg (git g s (3 * k)) 3 = true ∧ rg (git g s (3 * k + 1)) 24 = true ∧ rg (git g s (3 * k + 2)) 6 = true then (if gne g + k < 8 then nI (gne g + k + 1) else mI 4) else mI 2) < nI 0 := by
                by_cases q : rg (git g s (3 * k)) 3 = true ∧ rg (git g s (3 * k + 1)) 24 = true ∧ rg (git g s (3 * k + 2)) 6 = true
                · rw [if_pos q, if_neg (fun w => hb ⟨q, w⟩)]; decide
                · rw [if_neg q]; decide
              rw [brc_pos neg]
              simp only [B_133_0, B_133_1, B_133_2, B_133_4, B_133_5, B_133_6, B_133_7, cm, q_add, r_iconst_p, r_iconst_m, r_bipush_p, r_bipush_m, r_sipush_p, r_sipush_m, r_ldc_p, r_ldc_m, r_ldc_w_p, r_ldc_w_m, r_lconst_p, r_lconst_m, r_ldc2_w_p, r_ldc2_w_m, r_iload, r_iload_n, r_lload, r_lload_n, r_aload, r_aload_n, r_istore, r_istore_n, r_astore, r_astore_n, r_lstore, r_lstore_n, r_iinc_p, r_iinc_m, r_iadd, r_isub, r_imul, r_iand, r_ior, r_ixor, r_ishl, r_ishr, r_iushr, r_idiv, r_irem, r_ladd, r_lsub, r_lmul, r_ldiv, r_lrem, r_lshl, r_lcmp, r_i2l, r_i2b, r_i2s, r_dup_i, r_dup_r, r_dup2_ii, r_dup2_ir, r_dup2_l, r_pop, r_getfield, r_putfield, r_iaload, r_iastore, r_aaload, r_arraylength, r_if_eq, r_icmp_eq, r_if_ne, r_icmp_ne, r_if_lt, r_icmp_lt, r_if_ge, r_icmp_ge, r_if_gt, r_icmp_gt, r_if_le, r_icmp_le, r_goto, r_switch, r_ireturn0, r_ireturn1, r_lreturn, r_areturn, r_return, r_inv0, r_inv1, r_inv2, r_inv3, r_inv4, r_inv5, r_min, r_max, r_acopy, onI_s, onL_s, onR_s, onO_s, fv0, fv1, fv2, fv3, fp1, fp20, fp21, fp3, tl_s, tl_n, lg0, lg1, lg2, lg3, lg4, lg5, lg6, lg7, lg8, lg9, lg10, lg11, lg12, lg13, lg14, lg15, lg16, lg17, ls0, ls1, ls2, ls3, ls4, ls5, ls6, ls7, ls8, ls9, ls10, ls11, ls12, ls13, ls14, ls15, ls16, ls17, lk0, lk1, lk2, lk3, lk4, lk5, lk6, lk7, lk8, lk9, lk10, lk11, lk12, lk13, lk14, lk15, lk16, lk17, kl_n, kl_i, kl_r, kl_l, Nat.reduceAdd, Nat.reduceLeDiff, not_false_eq_true, r_ins0, r_ins1, r_ins2, r_ins3, r_ins4, r_ins5]
              rw [brc_T, Nat.add_zero, B_133_3]
              simp only [B_133_0, B_133_1, B_133_2, B_133_4, B_133_6, B_133_7, cm, r_iconst_p, r_iconst_m, r_bipush_p, r_bipush_m, r_sipush_p, r_sipush_m, r_ldc_p, r_ldc_m, r_ldc_w_p, r_ldc_w_m, r_lconst_p, r_lconst_m, r_ldc2_w_p, r_ldc2_w_m, r_iload, r_iload_n, r_lload, r_lload_n, r_aload, r_aload_n, r_istore, r_istore_n, r_astore, r_astore_n, r_lstore, r_lstore_n, r_iinc_p, r_iinc_m, r_iadd, r_isub, r_imul, r_iand, r_ior, r_ixor, r_ishl, r_ishr, r_iushr, r_idiv, r_irem, r_ladd, r_lsub, r_lmul, r_ldiv, r_lrem, r_lshl, r_lcmp, r_i2l, r_i2b, r_i2s, r_dup_i, r_dup_r, r_dup2_ii, r_dup2_ir, r_dup2_l, r_pop, r_getfield, r_putfield, r_iaload, r_iastore, r_aaload, r_arraylength, r_if_eq, r_icmp_eq, r_if_ne, r_icmp_ne, r_if_lt, r_icmp_lt, r_if_ge, r_icmp_ge, r_if_gt, r_icmp_gt, r_if_le, r_icmp_le, r_goto, r_switch, r_ireturn0, r_ireturn1, r_lreturn, r_areturn, r_return, r_inv0, r_inv1, r_inv2, r_inv3, r_inv4, r_inv5, r_min, r_max, r_acopy, onI_s, onL_s, onR_s, onO_s, fv0, fv1, fv2, fv3, fp1, fp20, fp21, fp3, tl_s, tl_n, lg0, lg1, lg2, lg3, lg4, lg5, lg6, lg7, lg8, lg9, lg10, lg11, lg12, lg13, lg14, lg15, lg16, lg17, ls0, ls1, ls2, ls3, ls4, ls5, ls6, ls7, ls8, ls9, ls10, ls11, ls12, ls13, ls14, ls15, ls16, ls17, lk0, lk1, lk2, lk3, lk4, lk5, lk6, lk7, lk8, lk9, lk10, lk11, lk12, lk13, lk14, lk15, lk16, lk17, kl_n, kl_i, kl_r, kl_l, Nat.reduceAdd, Nat.reduceLeDiff, not_false_eq_true, r_ins0, r_ins1, r_ins2, r_ins3, r_ins4, r_ins5]
              rw [brc_T]
              exact fin N _ _ hF hj hR
      exact key 9 0 M none (by omega) (by omega) Fr.rf (fun _ _ => rfl) (by rw [rdE_0]; exact hE) hm
    · rw [if_pos (Classical.not_not.mp hz), if_pos (Classical.not_not.mp hz)]
      have := h.fnd (n := 1) (by omega)
      rw [m10 1 (by omega)]
      exact ⟨trivial, by simp, rfl, this.1, this.2⟩
end RW
