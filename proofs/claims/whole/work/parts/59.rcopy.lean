/-! the reference: copy, write -/
section RW
variable {M N : Mem} {g : Sg}
theorem hrw_F {n : Nat} {a k : Int32} : hrw n a k = false ↔ ¬ (0 ≤ a.toInt ∧ 0 ≤ k.toInt ∧ a.toInt + k.toInt ≤ (n : Int)) := by
  unfold hrw
  exact decide_eq_false_iff_not
set_option maxHeartbeats 1000000 in
theorem m_copy (h : MJ M g) (s i t j n : Int32) : Ct 114 [.ref 62, .int s, .int i, .int t, .int j, .int n] M (fun r N => r = some (.int (aCopy g s i t j n)) ∧ MJ N (gCopy g s i t j n) ∧ Lw M N) := by
  unfold aCopy gCopy
  simp only [E_114, B_114_0, B_114_1, B_114_2, B_114_4, B_114_5, B_114_9, B_114_11, cm, ct_isSh, r_iconst_p, r_iconst_m, r_bipush_p, r_bipush_m, r_sipush_p, r_sipush_m, r_ldc_p, r_ldc_m, r_ldc_w_p, r_ldc_w_m, r_lconst_p, r_lconst_m, r_ldc2_w_p, r_ldc2_w_m, r_iload, r_iload_n, r_lload, r_lload_n, r_aload, r_aload_n, r_istore, r_istore_n, r_astore, r_astore_n, r_lstore, r_lstore_n, r_iinc_p, r_iinc_m, r_iadd, r_isub, r_imul, r_iand, r_ior, r_ixor, r_ishl, r_ishr, r_iushr, r_idiv, r_irem, r_ladd, r_lsub, r_lmul, r_ldiv, r_lrem, r_lshl, r_lcmp, r_i2l, r_i2b, r_i2s, r_dup_i, r_dup_r, r_dup2_ii, r_dup2_ir, r_dup2_l, r_pop, r_getfield, r_putfield, r_iaload, r_iastore, r_aaload, r_arraylength, r_if_eq, r_icmp_eq, r_if_ne, r_icmp_ne, r_if_lt, r_icmp_lt, r_if_ge, r_icmp_ge, r_if_gt, r_icmp_gt, r_if_le, r_icmp_le, r_goto, r_switch, r_ireturn0, r_ireturn1, r_lreturn, r_areturn, r_return, r_inv0, r_inv1, r_inv2, r_inv3, r_inv4, r_inv5, r_min, r_max, r_acopy, onI_s, onL_s, onR_s, onO_s, fv0, fv1, fv2, fv3, fp1, fp20, fp21, fp3, tl_s, tl_n, lg0, lg1, lg2, lg3, lg4, lg5, lg6, lg7, lg8, lg9, lg10, lg11, lg12, lg13, lg14, lg15, lg16, lg17, ls0, ls1, ls2, ls3, ls4, ls5, ls6, ls7, ls8, ls9, ls10, ls11, ls12, ls13, ls14, ls15, ls16, ls17, lk0, lk1, lk2, lk3, lk4, lk5, lk6, lk7, lk8, lk9, lk10, lk11, lk12, lk13, lk14, lk15, lk16, lk17, kl_n, kl_i, kl_r, kl_l, Nat.reduceAdd, Nat.reduceLeDiff, not_false_eq_true, r_ins0, r_ins1, r_ins2, r_ins3, r_ins4, r_ins5]
  refine ⟨by simp, ?_⟩
  cases hx : rg s 4 with
  | false => rw [rF', brc_pos rfl, if_neg (fun q => by cases q.1), if_neg (fun q => by cases q.1)]; exact ⟨rfl, h, Lw.rf⟩
  | true =>
    rw [rT', n10, brc_F]
    refine ⟨by simp, ?_⟩
    cases hf : rg t 4 with
    | false => rw [rF', brc_neg (fun q => q rfl), if_neg (fun q => by cases q.2), if_neg (fun q => by cases q.2)]; exact ⟨rfl, h, Lw.rf⟩
    | true =>
      obtain ⟨b1, e1⟩ := rg_T hx
      obtain ⟨b2, e2⟩ := rg_T hf
      have hz' : true = true ∧ true = true := ⟨rfl, rfl⟩
      rw [rT', n10, brc_nF, if_pos hz', if_pos hz']
      clear hz'
      generalize cl s = s' at *
      generalize cl t = t' at *
      subst e1
      subst e2
      obtain ⟨s1, s2, s3, s4, s5⟩ := h.2.2.2.2.1 s' b1
      obtain ⟨u1, u2, u3, u4, u5⟩ := h.2.2.2.2.1 t' b2
      simp only [nI_clamp (show s' < 2 ^ 31 by omega), nI_clamp (show t' < 2 ^ 31 by omega), s1, u1, s3, u3]
      rw [inb_n (c := 63) (n := 4) rfl (show s' < 2 ^ 31 by omega) (by omega), inb_n (c := 63) (n := 4) rfl (show t' < 2 ^ 31 by omega) (by omega), inb_n (c := 64) (n := 4) rfl (show s' < 2 ^ 31 by omega) (by omega), inb_n (c := 64) (n := 4) rfl (show t' < 2 ^ 31 by omega) (by omega), ix_l0 (by omega), ix_ge0 (by omega), ix_ix (by omega) (by omega)]
      have B3 : gfm g s' = 0 ∨ gfm g t' = 0 → WP 114 [] 3 [some (.ref 62), some (.int (nI s')), some (.int i), some (.int (nI t')), some (.int j), some (.int n), none] [] M (fun r N => r = some (.int (if gfm g s' = 0 ∨ gfm g t' = 0 then mI 11 else if gfm g s' = gfm g t' then (if hrw (gsz g s') i n = true ∧ hrw (gsz g t') j n = true then nI 1 else mI 12) else mI 14)) ∧ MJ N (if gfm g s' = 0 ∨ gfm g t' = 0 then setFd g 1 else if gfm g s' = gfm g t' then (if hrw (gsz g s') i n = true ∧ hrw (gsz g t') j n = true then setS g t' (gfm g t') (gsz g t') (itC g s' (cl i) t' (cl j) (cl n)) else setFd g 2) else setFd g 4) ∧ Lw M N) := by
        intro hz
        simp only [B_114_0, B_114_1, B_114_2, B_114_3, B_114_4, B_114_5, B_114_6, B_114_7, B_114_9, B_114_11, cm, ct_finds, r_iconst_p, r_iconst_m, r_bipush_p, r_bipush_m, r_sipush_p, r_sipush_m, r_ldc_p, r_ldc_m, r_ldc_w_p, r_ldc_w_m, r_lconst_p, r_lconst_m, r_ldc2_w_p, r_ldc2_w_m, r_iload, r_iload_n, r_lload, r_lload_n, r_aload, r_aload_n, r_istore, r_istore_n, r_astore, r_astore_n, r_lstore, r_lstore_n, r_iinc_p, r_iinc_m, r_iadd, r_isub, r_imul, r_iand, r_ior, r_ixor, r_ishl, r_ishr, r_iushr, r_idiv, r_irem, r_ladd, r_lsub, r_lmul, r_ldiv, r_lrem, r_lshl, r_lcmp, r_i2l, r_i2b, r_i2s, r_dup_i, r_dup_r, r_dup2_ii, r_dup2_ir, r_dup2_l, r_pop, r_getfield, r_putfield, r_iaload, r_iastore, r_aaload, r_arraylength, r_if_eq, r_icmp_eq, r_if_ne, r_icmp_ne, r_if_lt, r_icmp_lt, r_if_ge, r_icmp_ge, r_if_gt, r_icmp_gt, r_if_le, r_icmp_le, r_goto, r_switch, r_ireturn0, r_ireturn1, r_lreturn, r_areturn, r_return, r_inv0, r_inv1, r_inv2, r_inv3, r_inv4, r_inv5, r_min, r_max, r_acopy, onI_s, onL_s, onR_s, onO_s, fv0, fv1, fv2, fv3, fp1, fp20, fp21, fp3, tl_s, tl_n, lg0, lg1, lg2, lg3, lg4, lg5, lg6, lg7, lg8, lg9, lg10, lg11, lg12, lg13, lg14, lg15, lg16, lg17, ls0, ls1, ls2, ls3, ls4, ls5, ls6, ls7, ls8, ls9, ls10, ls11, ls12, ls13, ls14, ls15, ls16, ls17, lk0, lk1, lk2, lk3, lk4, lk5, lk6, lk7, lk8, lk9, lk10, lk11, lk12, lk13, lk14, lk15, lk16, lk17, kl_n, kl_i, kl_r, kl_l, Nat.reduceAdd, Nat.reduceLeDiff, not_false_eq_true, r_ins0, r_ins1, r_ins2, r_ins3, r_ins4, r_ins5]
        rw [if_pos hz, if_pos hz, m10 1 (by omega)]
        have := h.fnd (n := 1) (by omega)
        exact ⟨trivial, by simp, rfl, this.1, this.2⟩
      refine ⟨b1, brc_i (fun hz => B3 (Or.inl hz)) (fun hz => ⟨b2, brc_i (fun hy => ?_) (fun hy => B3 (Or.inr (Classical.not_not.mp hy)))⟩)⟩
      clear B3
      have hzy : ¬ (gfm g s' = 0 ∨ gfm g t' = 0) := fun q => q.elim hz hy
      rw [if_neg hzy, if_neg hzy]
      refine ⟨b1, b2, brc_i (fun hq => ?_) (fun hq => ?_)⟩
      · rw [if_pos hq, if_pos hq]
        have B6 : ¬ (hrw (gsz g s') i n = true ∧ hrw (gsz g t') j n = true) → WP 114 [] 6 [some (.ref 62), some (.int (nI s')), some (.int i), some (.int (nI t')), some (.int j), some (.int n), none] [] M (fun r N => r = some (.int (if hrw (gsz g s') i n = true ∧ hrw (gsz g t') j n = true then nI 1 else mI 12)) ∧ MJ N (if hrw (gsz g s') i n = true ∧ hrw (gsz g t') j n = true then setS g t' (gfm g t') (gsz g t') (itC g s' (cl i) t' (cl j) (cl n)) else setFd g 2) ∧ Lw M N) := by
          intro hb
          simp only [B_114_0, B_114_1, B_114_2, B_114_3, B_114_4, B_114_5, B_114_6, B_114_7, B_114_9, B_114_11, cm, ct_finds, r_iconst_p, r_iconst_m, r_bipush_p, r_bipush_m, r_sipush_p, r_sipush_m, r_ldc_p, r_ldc_m, r_ldc_w_p, r_ldc_w_m, r_lconst_p, r_lconst_m, r_ldc2_w_p, r_ldc2_w_m, r_iload, r_iload_n, r_lload, r_lload_n, r_aload, r_aload_n, r_istore, r_istore_n, r_astore, r_astore_n, r_lstore, r_lstore_n, r_iinc_p, r_iinc_m, r_iadd, r_isub, r_imul, r_iand, r_ior, r_ixor, r_ishl, r_ishr, r_iushr, r_idiv, r_irem, r_ladd, r_lsub, r_lmul, r_ldiv, r_lrem, r_lshl, r_lcmp, r_i2l, r_i2b, r_i2s, r_dup_i, r_dup_r, r_dup2_ii, r_dup2_ir, r_dup2_l, r_pop, r_getfield, r_putfield, r_iaload, r_iastore, r_aaload, r_arraylength, r_if_eq, r_icmp_eq, r_if_ne, r_icmp_ne, r_if_lt, r_icmp_lt, r_if_ge, r_icmp_ge, r_if_gt, r_icmp_gt, r_if_le, r_icmp_le, r_goto, r_switch, r_ireturn0, r_ireturn1, r_lreturn, r_areturn, r_return, r_inv0, r_inv1, r_inv2, r_inv3, r_inv4, r_inv5, r_min, r_max, r_acopy, onI_s, onL_s, onR_s, onO_s, fv0, fv1, fv2, fv3, fp1, fp20, fp21, fp3, tl_s, tl_n, lg0, lg1, lg2, lg3, lg4, lg5, lg6, lg7, lg8, lg9, lg10, lg11, lg12, lg13, lg14, lg15, lg16, lg17, ls0, ls1, ls2, ls3, ls4, ls5, ls6, ls7, ls8, ls9, ls10, ls11, ls12, ls13, ls14, ls15, ls16, ls17, lk0, lk1, lk2, lk3, lk4, lk5, lk6, lk7, lk8, lk9, lk10, lk11, lk12, lk13, lk14, lk15, lk16, lk17, kl_n, kl_i, kl_r, kl_l, Nat.reduceAdd, Nat.reduceLeDiff, not_false_eq_true, r_ins0, r_ins1, r_ins2, r_ins3, r_ins4, r_ins5]
          rw [if_neg hb, if_neg hb, m10 2 (by omega)]
          have := h.fnd (n := 2) (by omega)
          exact ⟨trivial, by simp, rfl, this.1, this.2⟩
        have z0 : (nI 0).toInt = 0 := rfl
        rw [cmp_gt, Int64.toInt_add, Int32.toInt_toInt64, Int32.toInt_toInt64, Int32.toInt_toInt64, nI_toInt (by omega)]
        by_cases c1 : i < nI 0
        · rw [brc_pos c1]
          exact B6 (fun q => by have := q.1; unfold hrw at this; rw [decide_eq_true_eq] at this; rw [Int32.lt_iff_toInt_lt] at c1; omega)
        rw [brc_neg c1]
        by_cases c2 : j < nI 0
        · rw [brc_pos c2]
          exact B6 (fun q => by have := q.2; unfold hrw at this; rw [decide_eq_true_eq] at this; rw [Int32.lt_iff_toInt_lt] at c2; omega)
        rw [brc_neg c2]
        by_cases c3 : n < nI 0
        · rw [brc_pos c3]
          exact B6 (fun q => by have := q.1; unfold hrw at this; rw [decide_eq_true_eq] at this; rw [Int32.lt_iff_toInt_lt] at c3; omega)
        rw [brc_neg c3]
        obtain ⟨i', hi', rfl⟩ := nI_of c1
        obtain ⟨j', hj', rfl⟩ := nI_of c2
        obtain ⟨n', hn', rfl⟩ := nI_of c3
        simp only [cl_nI hi', cl_nI hj', cl_nI hn'] at B6 ⊢
        have hr1 : hrw (gsz g s') (nI i') (nI n') = decide (i' + n' ≤ gsz g s') := by
          unfold hrw; rw [nI_toInt hi', nI_toInt hn']; apply decide_eq_decide.mpr; omega
        have hr2 : hrw (gsz g t') (nI j') (nI n') = decide (j' + n' ≤ gsz g t') := by
          unfold hrw; rw [nI_toInt hj', nI_toInt hn']; apply decide_eq_decide.mpr; omega
        rw [hr1, hr2] at B6 ⊢
        rw [nI_toInt hi', nI_toInt hn']
        rw [show ((i' : Int) + (n' : Int)).bmod (2 ^ 64) = (i' : Int) + n' from Int.bmod_eq_of_le (by omega) (by omega)]
        by_cases c4 : ((gsz g s' : Nat) : Int) < (i' : Int) + n'
        · rw [brc_pos c4]
          exact ⟨b1, B6 (fun q => by have := of_decide_eq_true q.1; omega)⟩
        rw [brc_neg c4]
        have l1 : ∀ x y : Int64, (lg_cmp x y ≤ nI 0) = ¬ (y.toInt < x.toInt) := fun x y => by rw [← cmp_gt]; exact propext ⟨fun q w => absurd q (Int32.not_le.mpr w), fun q => Int32.not_lt.mp q⟩
        rw [l1, Int64.toInt_add, Int32.toInt_toInt64, Int32.toInt_toInt64, Int32.toInt_toInt64, nI_toInt (by omega), nI_toInt hj', nI_toInt hn', show ((j' : Int) + (n' : Int)).bmod (2 ^ 64) = (j' : Int) + n' from Int.bmod_eq_of_le (by omega) (by omega)]
        refine ⟨b1, b2, brc_i (fun c5 => ?_) (fun c5 => B6 (fun q => by have := of_decide_eq_true q.2; omega))⟩
        clear B6
        have hb : decide (i' + n' ≤ gsz g s') = true ∧ decide (j' + n' ≤ gsz g t') = true := ⟨decide_eq_true (by omega), decide_eq_true (by omega)⟩
        rw [if_pos hb, if_pos hb]
        generalize hQ : (fun (r : Option Value) (N : Mem) => r = some (.int (nI 1)) ∧ MJ N (setS g t' (gfm g t') (gsz g t') (itC g s' i' t' j' n')) ∧ Lw M N) = Q
        have k10 : ∀ (m a : Nat) (N : Mem), a + m = n' → Fr [65, 66] M N → (∀ q, q < n' → N 66 q = git g s' (i' + q)) → (∀ q, q < 60 * t' + j' ∨ 60 * t' + j' + a ≤ q → N 65 q = M 65 q) → (∀ q, q < a → N 65 (60 * t' + j' + q) = git g s' (i' + q)) → WP 114 [] 10 [some (.ref 62), some (.int (nI s')), some (.int (nI i')), some (.int (nI t')), some (.int (nI j')), some (.int (nI n')), some (.int (nI a))] [] N Q := by
          intro m
          induction m with
          | zero =>
            intro a N ha hF h66 ho hd
            obtain rfl : a = n' := by omega
            rw [B_114_10]
            simp only [B_114_0, B_114_1, B_114_2, B_114_3, B_114_4, B_114_5, B_114_6, B_114_7, B_114_9, B_114_11, cm, r_iconst_p, r_iconst_m, r_bipush_p, r_bipush_m, r_sipush_p, r_sipush_m, r_ldc_p, r_ldc_m, r_ldc_w_p, r_ldc_w_m, r_lconst_p, r_lconst_m, r_ldc2_w_p, r_ldc2_w_m, r_iload, r_iload_n, r_lload, r_lload_n, r_aload, r_aload_n, r_istore, r_istore_n, r_astore, r_astore_n, r_lstore, r_lstore_n, r_iinc_p, r_iinc_m, r_iadd, r_isub, r_imul, r_iand, r_ior, r_ixor, r_ishl, r_ishr, r_iushr, r_idiv, r_irem, r_ladd, r_lsub, r_lmul, r_ldiv, r_lrem, r_lshl, r_lcmp, r_i2l, r_i2b, r_i2s, r_dup_i, r_dup_r, r_dup2_ii, r_dup2_ir, r_dup2_l, r_pop, r_getfield, r_putfield, r_iaload, r_iastore, r_aaload, r_arraylength, r_if_eq, r_icmp_eq, r_if_ne, r_icmp_ne, r_if_lt, r_icmp_lt, r_if_ge, r_icmp_ge, r_if_gt, r_icmp_gt, r_if_le, r_icmp_le, r_goto, r_switch, r_ireturn0, r_ireturn1, r_lreturn, r_areturn, r_return, r_inv0, r_inv1, r_inv2, r_inv3, r_inv4, r_inv5, r_min, r_max, r_acopy, onI_s, onL_s, onR_s, onO_s, fv0, fv1, fv2, fv3, fp1, fp20, fp21, fp3, tl_s, tl_n, lg0, lg1, lg2, lg3, lg4, lg5, lg6, lg7, lg8, lg9, lg10, lg11, lg12, lg13, lg14, lg15, lg16, lg17, ls0, ls1, ls2, ls3, ls4, ls5, ls6, ls7, ls8, ls9, ls10, ls11, ls12, ls13, ls14, ls15, ls16, ls17, lk0, lk1, lk2, lk3, lk4, lk5, lk6, lk7, lk8, lk9, lk10, lk11, lk12, lk13, lk14, lk15, lk16, lk17, kl_n, kl_i, kl_r, kl_l, Nat.reduceAdd, Nat.reduceLeDiff, not_false_eq_true, r_ins0, r_ins1, r_ins2, r_ins3, r_ins4, r_ins5]
            rw [brc_pos (Int32.le_refl _), ← hQ]
            refine ⟨rfl, ?_, Lw.of hF (fun c hc => by simp only [List.mem_cons, List.not_mem_nil, or_false] at hc; omega)⟩
            have G : ∀ c, c ≠ 65 → c ≠ 66 → N c = M c := fun c c1 c2 => hF c (by simp only [List.mem_cons, List.not_mem_nil, or_false]; omega)
            have hN66 : MJ (setC M 66 (N 66)) g := h.mv (fun c hc => msc_ne (by omega)) (fun q _ => by rw [msc_ne (by decide)])
            refine hN66.sht (q := (un (gfm g) t' (gfm g t'), un (gsz g) t' (gsz g t'), ui (git g) t' (itC g s' i' t' j' a))) (fun c d1 d2 d3 => ?_) (hN66.2.2.2.2.1.set (by rw [msc_ne (by decide), G 63 (by decide) (by decide), u_id u1]) u2 (by rw [msc_ne (by decide), G 64 (by decide) (by decide), u_id u3]) u4 (fun q hq => by rw [msc_ne (by decide)]; exact ho q (by omega)) (fun q hq => ?_))
            · by_cases e : c = 66
              · rw [e, msc_eq]
              · rw [msc_ne e]; exact G c d3 e
            · unfold itC
              by_cases e : j' ≤ q ∧ q < j' + a
              · rw [if_pos e]
                have := hd (q - j') (by omega)
                rw [show 60 * t' + j' + (q - j') = 60 * t' + q by omega] at this
                exact this
              · rw [if_neg e, ho _ (by omega)]
                exact u5 q hq
          | succ m ih =>
            intro a N ha hF h66 ho hd
            rw [B_114_10]
            simp only [B_114_0, B_114_1, B_114_2, B_114_3, B_114_4, B_114_5, B_114_6, B_114_7, B_114_9, B_114_11, cm, q_mul, q_add, nI_clamp (show a < 2 ^ 31 by omega), nI_clamp (show 60 * t' + j' + a < 2 ^ 31 by omega), h66 a (by omega), r_iconst_p, r_iconst_m, r_bipush_p, r_bipush_m, r_sipush_p, r_sipush_m, r_ldc_p, r_ldc_m, r_ldc_w_p, r_ldc_w_m, r_lconst_p, r_lconst_m, r_ldc2_w_p, r_ldc2_w_m, r_iload, r_iload_n, r_lload, r_lload_n, r_aload, r_aload_n, r_istore, r_istore_n, r_astore, r_astore_n, r_lstore, r_lstore_n, r_iinc_p, r_iinc_m, r_iadd, r_isub, r_imul, r_iand, r_ior, r_ixor, r_ishl, r_ishr, r_iushr, r_idiv, r_irem, r_ladd, r_lsub, r_lmul, r_ldiv, r_lrem, r_lshl, r_lcmp, r_i2l, r_i2b, r_i2s, r_dup_i, r_dup_r, r_dup2_ii, r_dup2_ir, r_dup2_l, r_pop, r_getfield, r_putfield, r_iaload, r_iastore, r_aaload, r_arraylength, r_if_eq, r_icmp_eq, r_if_ne, r_icmp_ne, r_if_lt, r_icmp_lt, r_if_ge, r_icmp_ge, r_if_gt, r_icmp_gt, r_if_le, r_icmp_le, r_goto, r_switch, r_ireturn0, r_ireturn1, r_lreturn, r_areturn, r_return, r_inv0, r_inv1, r_inv2, r_inv3, r_inv4, r_inv5, r_min, r_max, r_acopy, onI_s, onL_s, onR_s, onO_s, fv0, fv1, fv2, fv3, fp1, fp20, fp21, fp3, tl_s, tl_n, lg0, lg1, lg2, lg3, lg4, lg5, lg6, lg7, lg8, lg9, lg10, lg11, lg12, lg13, lg14, lg15, lg16, lg17, ls0, ls1, ls2, ls3, ls4, ls5, ls6, ls7, ls8, ls9, ls10, ls11, ls12, ls13, ls14, ls15, ls16, ls17, lk0, lk1, lk2, lk3, lk4, lk5, lk6, lk7, lk8, lk9, lk10, lk11, lk12, lk13, lk14, lk15, lk16, lk17, kl_n, kl_i, kl_r, kl_l, Nat.reduceAdd, Nat.reduceLeDiff, not_false_eq_true, r_ins0, r_ins1, r_ins2, r_ins3, r_ins4, r_ins5]
            rw [brc_neg (nI_ge (by omega) (by omega)), inb_n (n := 60) rfl (by omega) (by omega), inb_n (n := 240) rfl (by omega) (by omega)]
            refine ⟨by omega, by omega, ih (a + 1) _ (by omega) (hF.st (by decide)) (fun q hq => by rw [sm_ne (by decide)]; exact h66 q hq) (fun q hq => by rw [sm_eq, u_ne (by omega)]; exact ho q (by omega)) (fun q hq => ?_)⟩
            rw [sm_eq, u_if]
            by_cases e : q = a
            · rw [if_pos (by omega), e]
            · rw [if_neg (by omega)]; exact hd q (by omega)
        have k8 : ∀ (m a : Nat) (N : Mem), a + m = n' → Fr [66] M N → (∀ q, q < a → N 66 q = git g s' (i' + q)) → WP 114 [] 8 [some (.ref 62), some (.int (nI s')), some (.int (nI i')), some (.int (nI t')), some (.int (nI j')), some (.int (nI n')), some (.int (nI a))] [] N Q := by
          intro m
          induction m with
          | zero =>
            intro a N ha hF h66
            obtain rfl : a = n' := by omega
            rw [B_114_8]
            simp only [B_114_0, B_114_1, B_114_2, B_114_3, B_114_4, B_114_5, B_114_6, B_114_7, B_114_9, B_114_11, cm, r_iconst_p, r_iconst_m, r_bipush_p, r_bipush_m, r_sipush_p, r_sipush_m, r_ldc_p, r_ldc_m, r_ldc_w_p, r_ldc_w_m, r_lconst_p, r_lconst_m, r_ldc2_w_p, r_ldc2_w_m, r_iload, r_iload_n, r_lload, r_lload_n, r_aload, r_aload_n, r_istore, r_istore_n, r_astore, r_astore_n, r_lstore, r_lstore_n, r_iinc_p, r_iinc_m, r_iadd, r_isub, r_imul, r_iand, r_ior, r_ixor, r_ishl, r_ishr, r_iushr, r_idiv, r_irem, r_ladd, r_lsub, r_lmul, r_ldiv, r_lrem, r_lshl, r_lcmp, r_i2l, r_i2b, r_i2s, r_dup_i, r_dup_r, r_dup2_ii, r_dup2_ir, r_dup2_l, r_pop, r_getfield, r_putfield, r_iaload, r_iastore, r_aaload, r_arraylength, r_if_eq, r_icmp_eq, r_if_ne, r_icmp_ne, r_if_lt, r_icmp_lt, r_if_ge, r_icmp_ge, r_if_gt, r_icmp_gt, r_if_le, r_icmp_le, r_goto, r_switch, r_ireturn0, r_ireturn1, r_lreturn, r_areturn, r_return, r_inv0, r_inv1, r_inv2, r_inv3, r_inv4, r_inv5, r_min, r_max, r_acopy, onI_s, onL_s, onR_s, onO_s, fv0, fv1, fv2, fv3, fp1, fp20, fp21, fp3, tl_s, tl_n, lg0, lg1, lg2, lg3, lg4, lg5, lg6, lg7, lg8, lg9, lg10, lg11, lg12, lg13, lg14, lg15, lg16, lg17, ls0, ls1, ls2, ls3, ls4, ls5, ls6, ls7, ls8, ls9, ls10, ls11, ls12, ls13, ls14, ls15, ls16, ls17, lk0, lk1, lk2, lk3, lk4, lk5, lk6, lk7, lk8, lk9, lk10, lk11, lk12, lk13, lk14, lk15, lk16, lk17, kl_n, kl_i, kl_r, kl_l, Nat.reduceAdd, Nat.reduceLeDiff, not_false_eq_true, r_ins0, r_ins1, r_ins2, r_ins3, r_ins4, r_ins5]
            rw [brc_pos (Int32.le_refl _)]
            exact k10 a 0 N (by omega) (hF.sub (by decide)) h66 (fun q _ => by rw [hF 65 (by decide)]) (fun q hq => by omega)
          | succ m ih =>
            intro a N ha hF h66
            have hi5 : M 65 (60 * s' + i' + a) = git g s' (i' + a) := by have := s5 (i' + a) (by omega); rw [← Nat.add_assoc] at this; exact this
            rw [B_114_8]
            simp only [B_114_0, B_114_1, B_114_2, B_114_3, B_114_4, B_114_5, B_114_6, B_114_7, B_114_11, cm, q_mul, q_add, nI_clamp (show a < 2 ^ 31 by omega), nI_clamp (show 60 * s' + i' + a < 2 ^ 31 by omega), hF 65 (by decide), hi5, r_iconst_p, r_iconst_m, r_bipush_p, r_bipush_m, r_sipush_p, r_sipush_m, r_ldc_p, r_ldc_m, r_ldc_w_p, r_ldc_w_m, r_lconst_p, r_lconst_m, r_ldc2_w_p, r_ldc2_w_m, r_iload, r_iload_n, r_lload, r_lload_n, r_aload, r_aload_n, r_istore, r_istore_n, r_astore, r_astore_n, r_lstore, r_lstore_n, r_iinc_p, r_iinc_m, r_iadd, r_isub, r_imul, r_iand, r_ior, r_ixor, r_ishl, r_ishr, r_iushr, r_idiv, r_irem, r_ladd, r_lsub, r_lmul, r_ldiv, r_lrem, r_lshl, r_lcmp, r_i2l, r_i2b, r_i2s, r_dup_i, r_dup_r, r_dup2_ii, r_dup2_ir, r_dup2_l, r_pop, r_getfield, r_putfield, r_iaload, r_iastore, r_aaload, r_arraylength, r_if_eq, r_icmp_eq, r_if_ne, r_icmp_ne, r_if_lt, r_icmp_lt, r_if_ge, r_icmp_ge, r_if_gt, r_icmp_gt, r_if_le, r_icmp_le, r_goto, r_switch, r_ireturn0, r_ireturn1, r_lreturn, r_areturn, r_return, r_inv0, r_inv1, r_inv2, r_inv3, r_inv4, r_inv5, r_min, r_max, r_acopy, onI_s, onL_s, onR_s, onO_s, fv0, fv1, fv2, fv3, fp1, fp20, fp21, fp3, tl_s, tl_n, lg0, lg1, lg2, lg3, lg4, lg5, lg6, lg7, lg8, lg9, lg10, lg11, lg12, lg13, lg14, lg15, lg16, lg17, ls0, ls1, ls2, ls3, ls4, ls5, ls6, ls7, ls8, ls9, ls10, ls11, ls12, ls13, ls14, ls15, ls16, ls17, lk0, lk1, lk2, lk3, lk4, lk5, lk6, lk7, lk8, lk9, lk10, lk11, lk12, lk13, lk14, lk15, lk16, lk17, kl_n, kl_i, kl_r, kl_l, Nat.reduceAdd, Nat.reduceLeDiff, not_false_eq_true, r_ins0, r_ins1, r_ins2, r_ins3, r_ins4, r_ins5]
            rw [brc_neg (nI_ge (by omega) (by omega)), inb_n (n := 240) rfl (by omega) (by omega), inb_n (n := 60) rfl (by omega) (by omega)]
            refine ⟨by omega, by omega, ih (a + 1) _ (by omega) (hF.st (by decide)) (fun q hq => ?_)⟩
            rw [sm_eq, u_if]
            by_cases e : q = a
            · rw [if_pos e, e]
            · rw [if_neg e]; exact h66 q (by omega)
        simp only [B_114_0, B_114_1, B_114_2, B_114_3, B_114_4, B_114_5, B_114_6, B_114_7, B_114_9, B_114_11, cm, r_iconst_p, r_iconst_m, r_bipush_p, r_bipush_m, r_sipush_p, r_sipush_m, r_ldc_p, r_ldc_m, r_ldc_w_p, r_ldc_w_m, r_lconst_p, r_lconst_m, r_ldc2_w_p, r_ldc2_w_m, r_iload, r_iload_n, r_lload, r_lload_n, r_aload, r_aload_n, r_istore, r_istore_n, r_astore, r_astore_n, r_lstore, r_lstore_n, r_iinc_p, r_iinc_m, r_iadd, r_isub, r_imul, r_iand, r_ior, r_ixor, r_ishl, r_ishr, r_iushr, r_idiv, r_irem, r_ladd, r_lsub, r_lmul, r_ldiv, r_lrem, r_lshl, r_lcmp, r_i2l, r_i2b, r_i2s, r_dup_i, r_dup_r, r_dup2_ii, r_dup2_ir, r_dup2_l, r_pop, r_getfield, r_putfield, r_iaload, r_iastore, r_aaload, r_arraylength, r_if_eq, r_icmp_eq, r_if_ne, r_icmp_ne, r_if_lt, r_icmp_lt, r_if_ge, r_icmp_ge, r_if_gt, r_icmp_gt, r_if_le, r_icmp_le, r_goto, r_switch, r_ireturn0, r_ireturn1, r_lreturn, r_areturn, r_return, r_inv0, r_inv1, r_inv2, r_inv3, r_inv4, r_inv5, r_min, r_max, r_acopy, onI_s, onL_s, onR_s, onO_s, fv0, fv1, fv2, fv3, fp1, fp20, fp21, fp3, tl_s, tl_n, lg0, lg1, lg2, lg3, lg4, lg5, lg6, lg7, lg8, lg9, lg10, lg11, lg12, lg13, lg14, lg15, lg16, lg17, ls0, ls1, ls2, ls3, ls4, ls5, ls6, ls7, ls8, ls9, ls10, ls11, ls12, ls13, ls14, ls15, ls16, ls17, lk0, lk1, lk2, lk3, lk4, lk5, lk6, lk7, lk8, lk9, lk10, lk11, lk12, lk13, lk14, lk15, lk16, lk17, kl_n, kl_i, kl_r, kl_l, Nat.reduceAdd, Nat.reduceLeDiff, not_false_eq_true, r_ins0, r_ins1, r_ins2, r_ins3, r_ins4, r_ins5]
        exact k8 n' 0 M (by omega) Fr.rf (fun q hq => by omega)
      · rw [if_neg hq, if_neg hq]
        simp only [B_114_0, B_114_1, B_114_2, B_114_3, B_114_4, B_114_5, B_114_6, B_114_7, B_114_9, B_114_11, cm, ct_finds, r_iconst_p, r_iconst_m, r_bipush_p, r_bipush_m, r_sipush_p, r_sipush_m, r_ldc_p, r_ldc_m, r_ldc_w_p, r_ldc_w_m, r_lconst_p, r_lconst_m, r_ldc2_w_p, r_ldc2_w_m, r_iload, r_iload_n, r_lload, r_lload_n, r_aload, r_aload_n, r_istore, r_istore_n, r_astore, r_astore_n, r_lstore, r_lstore_n, r_iinc_p, r_iinc_m, r_iadd, r_isub, r_imul, r_iand, r_ior, r_ixor, r_ishl, r_ishr, r_iushr, r_idiv, r_irem, r_ladd, r_lsub, r_lmul, r_ldiv, r_lrem, r_lshl, r_lcmp, r_i2l, r_i2b, r_i2s, r_dup_i, r_dup_r, r_dup2_ii, r_dup2_ir, r_dup2_l, r_pop, r_getfield, r_putfield, r_iaload, r_iastore, r_aaload, r_arraylength, r_if_eq, r_icmp_eq, r_if_ne, r_icmp_ne, r_if_lt, r_icmp_lt, r_if_ge, r_icmp_ge, r_if_gt, r_icmp_gt, r_if_le, r_icmp_le, r_goto, r_switch, r_ireturn0, r_ireturn1, r_lreturn, r_areturn, r_return, r_inv0, r_inv1, r_inv2, r_inv3, r_inv4, r_inv5, r_min, r_max, r_acopy, onI_s, onL_s, onR_s, onO_s, fv0, fv1, fv2, fv3, fp1, fp20, fp21, fp3, tl_s, tl_n, lg0, lg1, lg2, lg3, lg4, lg5, lg6, lg7, lg8, lg9, lg10, lg11, lg12, lg13, lg14, lg15, lg16, lg17, ls0, ls1, ls2, ls3, ls4, ls5, ls6, ls7, ls8, ls9, ls10, ls11, ls12, ls13, ls14, ls15, ls16, ls17, lk0, lk1, lk2, lk3, lk4, lk5, lk6, lk7, lk8, lk9, lk10, lk11, lk12, lk13, lk14, lk15, lk16, lk17, kl_n, kl_i, kl_r, kl_l, Nat.reduceAdd, Nat.reduceLeDiff, not_false_eq_true, r_ins0, r_ins1, r_ins2, r_ins3, r_ins4, r_ins5]
        rw [m10 4 (by omega)]
        have := h.fnd (n := 4) (by omega)
        exact ⟨trivial, by simp, rfl, this.1, this.2⟩
end RW
