/-! the reference: sheets -/
section RW
variable {M N : Mem} {g : Sg}
theorem MJ.sht (h : MJ M g) {q : (Nat → Nat) × (Nat → Nat) × (Nat → Nat → Int32)} (hF : ∀ c, c ≠ 63 → c ≠ 64 → c ≠ 65 → N c = M c) (hS : ShM N q.1 q.2.1 q.2.2) : MJ N (setSh g q) := by
  obtain ⟨a0, a1, b, b2, -, d, e⟩ := h
  unfold TxM at a0 a1
  unfold EvM at b
  unfold SnM at b2
  rw [← hF 67 (by decide) (by decide) (by decide), ← hF 68 (by decide) (by decide) (by decide)] at a0 a1
  rw [← hF 62 (by decide) (by decide) (by decide)] at b b2 d e
  rw [← hF 72 (by decide) (by decide) (by decide)] at b
  rw [← hF 80 (by decide) (by decide) (by decide)] at b2
  exact ⟨a0, a1, b, b2, hS, d, e⟩
theorem ShM.set {fm sz : Nat → Nat} {it : Nat → Nat → Int32} (h : ShM M fm sz it) {s f n : Nat} {it' : Nat → Int32} (h63 : N 63 = upd (M 63) s (ix f)) (hf : f ≤ 3) (h64 : N 64 = upd (M 64) s (nI n)) (hn : n ≤ 60) (ho : ∀ q, q < 60 * s ∨ 60 * s + 60 ≤ q → N 65 q = M 65 q) (hi : ∀ i, i < n → N 65 (60 * s + i) = it' i) : ShM N (un fm s f) (un sz s n) (ui it s it') := by
  intro k hk
  unfold un ui
  rw [h63, h64]
  by_cases e : k = s
  · subst e
    rw [if_pos rfl, if_pos rfl, if_pos rfl, u_eq, u_eq]
    exact ⟨rfl, hf, rfl, hn, hi⟩
  · rw [if_neg e, if_neg e, if_neg e, u_ne e, u_ne e]
    obtain ⟨a, b, c, d, f⟩ := h k hk
    exact ⟨a, b, c, d, fun i hi => by rw [ho _ (by omega)]; exact f i hi⟩
theorem u_id {f : Nat → Int32} {k : Nat} {x : Int32} (h : f k = x) : upd f k x = f := by
  funext j
  rw [u_if]
  split
  · rename_i e; rw [e, h]
  · rfl
theorem m_sheet (h : MJ M g) (s f n : Int32) : Ct 108 [.ref 62, .int s, .int f, .int n] M (fun r N => r = some (.int (aSheet s f n)) ∧ MJ N (gSheet g s f n) ∧ Lw M N) := by
  unfold aSheet gSheet
  simp only [E_108, B_108_0, B_108_1, B_108_2, B_108_3, B_108_5, cm, ct_isSh, ct_in, in_rg (show 2 < 2 ^ 31 by omega), ct_finds, r_iconst_p, r_iconst_m, r_bipush_p, r_bipush_m, r_sipush_p, r_sipush_m, r_ldc_p, r_ldc_m, r_ldc_w_p, r_ldc_w_m, r_lconst_p, r_lconst_m, r_ldc2_w_p, r_ldc2_w_m, r_iload, r_iload_n, r_lload, r_lload_n, r_aload, r_aload_n, r_istore, r_istore_n, r_astore, r_astore_n, r_lstore, r_lstore_n, r_iinc_p, r_iinc_m, r_iadd, r_isub, r_imul, r_iand, r_ior, r_ixor, r_ishl, r_ishr, r_iushr, r_idiv, r_irem, r_ladd, r_lsub, r_lmul, r_ldiv, r_lrem, r_lshl, r_lcmp, r_i2l, r_i2b, r_i2s, r_dup_i, r_dup_r, r_dup2_ii, r_dup2_ir, r_dup2_l, r_pop, r_getfield, r_putfield, r_iaload, r_iastore, r_aaload, r_arraylength, r_if_eq, r_icmp_eq, r_if_ne, r_icmp_ne, r_if_lt, r_icmp_lt, r_if_ge, r_icmp_ge, r_if_gt, r_icmp_gt, r_if_le, r_icmp_le, r_goto, r_switch, r_ireturn0, r_ireturn1, r_lreturn, r_areturn, r_return, r_inv0, r_inv1, r_inv2, r_inv3, r_inv4, r_inv5, r_min, r_max, r_acopy, onI_s, onL_s, onR_s, onO_s, fv0, fv1, fv2, fv3, fp1, fp20, fp21, fp3, tl_s, tl_n, lg0, lg1, lg2, lg3, lg4, lg5, lg6, lg7, lg8, lg9, lg10, lg11, lg12, lg13, lg14, lg15, lg16, lg17, ls0, ls1, ls2, ls3, ls4, ls5, ls6, ls7, ls8, ls9, ls10, ls11, ls12, ls13, ls14, ls15, ls16, ls17, lk0, lk1, lk2, lk3, lk4, lk5, lk6, lk7, lk8, lk9, lk10, lk11, lk12, lk13, lk14, lk15, lk16, lk17, kl_n, kl_i, kl_r, kl_l, Nat.reduceAdd, Nat.reduceLeDiff, not_false_eq_true, r_ins0, r_ins1, r_ins2, r_ins3, r_ins4, r_ins5]
  refine ⟨by simp, ?_⟩
  cases hx : rg s 4 with
  | false => rw [rF', brc_pos rfl, if_neg (fun q => by cases q.1), if_neg (fun q => by cases q.1)]; exact ⟨rfl, h, Lw.rf⟩
  | true =>
    rw [rT', n10, brc_F]
    refine ⟨by simp, ?_⟩
    cases hf : rg f (2 + 1) with
    | false => rw [rF', brc_pos rfl, if_neg (fun q => by cases q.2.1), if_neg (fun q => by cases q.2.1)]; exact ⟨rfl, h, Lw.rf⟩
    | true =>
      obtain ⟨b1, e1⟩ := rg_T hx
      obtain ⟨b2, e2⟩ := rg_T hf
      rw [rT', n10, brc_F]
      refine brc_i (fun hz => ?_) (fun hz => ?_)
      · have hz' : true = true ∧ true = true ∧ n ≤ nI 60 := ⟨rfl, rfl, hz⟩
        rw [if_pos hz', if_pos hz']
        clear hz'
        by_cases h0 : n < nI 0
        · rw [if_pos h0, if_pos h0, brc_neg (fun q => by rw [Int32.lt_iff_toInt_lt] at h0; rw [Int32.le_iff_toInt_le] at q; omega)]
          have := h.fnd (n := 5) (by omega)
          rw [m10 5 (by omega)]
          exact ⟨trivial, by simp, rfl, this.1, this.2⟩
        · obtain ⟨y, hy, rfl⟩ := nI_of h0
          rw [if_neg h0, if_neg h0, q_le (by omega) (by omega), brc_pos (by omega)]
          rw [q_le (by omega) (by omega)] at hz
          generalize cl s = s' at *
          generalize cl f = f' at *
          subst e1
          subst e2
          rw [inb_n (n := 4) rfl (by omega) (by omega), nI_clamp (by omega), inb_n (n := 4) rfl (by omega) (by omega), cl_nI hy]
          refine ⟨b1, b1, ?_⟩
          generalize hQ : (fun (r : Option Value) (N : Mem) => r = some (.int (nI y)) ∧ MJ N (setS g s' (f' + 1) y fun _ => nI 0) ∧ Lw M N) = Q
          have key : ∀ (m i : Nat) (N : Mem), i + m = y → Fr [63, 64, 65] M N → N 63 = upd (M 63) s' (nI f') → N 64 = upd (M 64) s' (nI y) → (∀ q, q < 60 * s' ∨ 60 * s' + 60 ≤ q → N 65 q = M 65 q) → (∀ j, j < i → N 65 (60 * s' + j) = nI 0) → WP 108 [] 4 [some (.ref 62), some (.int (nI s')), some (.int (nI f')), some (.int (nI y)), some (.int (nI i))] [] N Q := by
            intro m
            induction m with
            | zero =>
              intro i N hi hF a1 a2 a3 a4
              obtain rfl : i = y := by omega
              rw [B_108_4]
              simp only [B_108_0, B_108_1, B_108_2, B_108_3, B_108_5, cm, r_iconst_p, r_iconst_m, r_bipush_p, r_bipush_m, r_sipush_p, r_sipush_m, r_ldc_p, r_ldc_m, r_ldc_w_p, r_ldc_w_m, r_lconst_p, r_lconst_m, r_ldc2_w_p, r_ldc2_w_m, r_iload, r_iload_n, r_lload, r_lload_n, r_aload, r_aload_n, r_istore, r_istore_n, r_astore, r_astore_n, r_lstore, r_lstore_n, r_iinc_p, r_iinc_m, r_iadd, r_isub, r_imul, r_iand, r_ior, r_ixor, r_ishl, r_ishr, r_iushr, r_idiv, r_irem, r_ladd, r_lsub, r_lmul, r_ldiv, r_lrem, r_lshl, r_lcmp, r_i2l, r_i2b, r_i2s, r_dup_i, r_dup_r, r_dup2_ii, r_dup2_ir, r_dup2_l, r_pop, r_getfield, r_putfield, r_iaload, r_iastore, r_aaload, r_arraylength, r_if_eq, r_icmp_eq, r_if_ne, r_icmp_ne, r_if_lt, r_icmp_lt, r_if_ge, r_icmp_ge, r_if_gt, r_icmp_gt, r_if_le, r_icmp_le, r_goto, r_switch, r_ireturn0, r_ireturn1, r_lreturn, r_areturn, r_return, r_inv0, r_inv1, r_inv2, r_inv3, r_inv4, r_inv5, r_min, r_max, r_acopy, onI_s, onL_s, onR_s, onO_s, fv0, fv1, fv2, fv3, fp1, fp20, fp21, fp3, tl_s, tl_n, lg0, lg1, lg2, lg3, lg4, lg5, lg6, lg7, lg8, lg9, lg10, lg11, lg12, lg13, lg14, lg15, lg16, lg17, ls0, ls1, ls2, ls3, ls4, ls5, ls6, ls7, ls8, ls9, ls10, ls11, ls12, ls13, ls14, ls15, ls16, ls17, lk0, lk1, lk2, lk3, lk4, lk5, lk6, lk7, lk8, lk9, lk10, lk11, lk12, lk13, lk14, lk15, lk16, lk17, kl_n, kl_i, kl_r, kl_l, Nat.reduceAdd, Nat.reduceLeDiff, not_false_eq_true, r_ins0, r_ins1, r_ins2, r_ins3, r_ins4, r_ins5]
              rw [brc_pos (Int32.le_refl _), ← hQ]
              refine ⟨rfl, h.sht (q := (un (gfm g) s' (f' + 1), un (gsz g) s' i, ui (git g) s' (fun _ => nI 0))) (fun c c1 c2 c3 => hF c (by simp only [List.mem_cons, List.not_mem_nil, or_false]; omega)) (h.2.2.2.2.1.set (by rw [ix_s]; exact a1) (by omega) a2 (by omega) a3 a4), Lw.of hF (fun c hc => by simp only [List.mem_cons, List.not_mem_nil, or_false] at hc; omega)⟩
            | succ m ih =>
              intro i N hi hF a1 a2 a3 a4
              rw [B_108_4]
              simp only [B_108_0, B_108_1, B_108_2, B_108_3, B_108_5, cm, q_mul, q_add, nI_clamp (show 60 * s' + i < 2 ^ 31 by omega), r_iconst_p, r_iconst_m, r_bipush_p, r_bipush_m, r_sipush_p, r_sipush_m, r_ldc_p, r_ldc_m, r_ldc_w_p, r_ldc_w_m, r_lconst_p, r_lconst_m, r_ldc2_w_p, r_ldc2_w_m, r_iload, r_iload_n, r_lload, r_lload_n, r_aload, r_aload_n, r_istore, r_istore_n, r_astore, r_astore_n, r_lstore, r_lstore_n, r_iinc_p, r_iinc_m, r_iadd, r_isub, r_imul, r_iand, r_ior, r_ixor, r_ishl, r_ishr, r_iushr, r_idiv, r_irem, r_ladd, r_lsub, r_lmul, r_ldiv, r_lrem, r_lshl, r_lcmp, r_i2l, r_i2b, r_i2s, r_dup_i, r_dup_r, r_dup2_ii, r_dup2_ir, r_dup2_l, r_pop, r_getfield, r_putfield, r_iaload, r_iastore, r_aaload, r_arraylength, r_if_eq, r_icmp_eq, r_if_ne, r_icmp_ne, r_if_lt, r_icmp_lt, r_if_ge, r_icmp_ge, r_if_gt, r_icmp_gt, r_if_le, r_icmp_le, r_goto, r_switch, r_ireturn0, r_ireturn1, r_lreturn, r_areturn, r_return, r_inv0, r_inv1, r_inv2, r_inv3, r_inv4, r_inv5, r_min, r_max, r_acopy, onI_s, onL_s, onR_s, onO_s, fv0, fv1, fv2, fv3, fp1, fp20, fp21, fp3, tl_s, tl_n, lg0, lg1, lg2, lg3, lg4, lg5, lg6, lg7, lg8, lg9, lg10, lg11, lg12, lg13, lg14, lg15, lg16, lg17, ls0, ls1, ls2, ls3, ls4, ls5, ls6, ls7, ls8, ls9, ls10, ls11, ls12, ls13, ls14, ls15, ls16, ls17, lk0, lk1, lk2, lk3, lk4, lk5, lk6, lk7, lk8, lk9, lk10, lk11, lk12, lk13, lk14, lk15, lk16, lk17, kl_n, kl_i, kl_r, kl_l, Nat.reduceAdd, Nat.reduceLeDiff, not_false_eq_true, r_ins0, r_ins1, r_ins2, r_ins3, r_ins4, r_ins5]
              rw [brc_neg (nI_ge (by omega) (by omega)), inb_n (n := 240) rfl (by omega) (by omega)]
              refine ⟨by omega, ih (i + 1) _ (by omega) (hF.st (by decide)) (by rw [sm_ne (by decide)]; exact a1) (by rw [sm_ne (by decide)]; exact a2) (fun q hq => by rw [sm_eq, u_ne (by omega)]; exact a3 q hq) (fun j hj => ?_)⟩
              rw [sm_eq, u_if]
              by_cases e : j = i
              · rw [if_pos (by omega)]
              · rw [if_neg (by omega)]; exact a4 j (by omega)
          exact key y 0 _ (by omega) ((Fr.rf.st (by decide)).st (by decide)) (by rw [sm_ne (by decide), sm_eq]) (by rw [sm_eq, sm_ne (by decide)]) (fun q _ => by rw [sm_ne (by decide), sm_ne (by decide)]) (fun j hj => by omega)
      · rw [if_neg (fun q => hz q.2.2), if_neg (fun q => hz q.2.2)]; exact ⟨rfl, h, Lw.rf⟩
theorem m_lose (h : MJ M g) (s : Int32) : Ct 109 [.ref 62, .int s] M (fun r N => r = some (.int (aLose g s)) ∧ MJ N (gLose g s) ∧ Lw M N) := by
  unfold aLose gLose
  simp only [E_109, B_109_0, B_109_1, B_109_2, cm, ct_isSh, ct_finds, r_iconst_p, r_iconst_m, r_bipush_p, r_bipush_m, r_sipush_p, r_sipush_m, r_ldc_p, r_ldc_m, r_ldc_w_p, r_ldc_w_m, r_lconst_p, r_lconst_m, r_ldc2_w_p, r_ldc2_w_m, r_iload, r_iload_n, r_lload, r_lload_n, r_aload, r_aload_n, r_istore, r_istore_n, r_astore, r_astore_n, r_lstore, r_lstore_n, r_iinc_p, r_iinc_m, r_iadd, r_isub, r_imul, r_iand, r_ior, r_ixor, r_ishl, r_ishr, r_iushr, r_idiv, r_irem, r_ladd, r_lsub, r_lmul, r_ldiv, r_lrem, r_lshl, r_lcmp, r_i2l, r_i2b, r_i2s, r_dup_i, r_dup_r, r_dup2_ii, r_dup2_ir, r_dup2_l, r_pop, r_getfield, r_putfield, r_iaload, r_iastore, r_aaload, r_arraylength, r_if_eq, r_icmp_eq, r_if_ne, r_icmp_ne, r_if_lt, r_icmp_lt, r_if_ge, r_icmp_ge, r_if_gt, r_icmp_gt, r_if_le, r_icmp_le, r_goto, r_switch, r_ireturn0, r_ireturn1, r_lreturn, r_areturn, r_return, r_inv0, r_inv1, r_inv2, r_inv3, r_inv4, r_inv5, r_min, r_max, r_acopy, onI_s, onL_s, onR_s, onO_s, fv0, fv1, fv2, fv3, fp1, fp20, fp21, fp3, tl_s, tl_n, lg0, lg1, lg2, lg3, lg4, lg5, lg6, lg7, lg8, lg9, lg10, lg11, lg12, lg13, lg14, lg15, lg16, lg17, ls0, ls1, ls2, ls3, ls4, ls5, ls6, ls7, ls8, ls9, ls10, ls11, ls12, ls13, ls14, ls15, ls16, ls17, lk0, lk1, lk2, lk3, lk4, lk5, lk6, lk7, lk8, lk9, lk10, lk11, lk12, lk13, lk14, lk15, lk16, lk17, kl_n, kl_i, kl_r, kl_l, Nat.reduceAdd, Nat.reduceLeDiff, not_false_eq_true, r_ins0, r_ins1, r_ins2, r_ins3, r_ins4, r_ins5]
  refine ⟨by simp, ?_⟩
  cases hx : rg s 4 with
  | false => rw [rF', brc_neg (fun q => q rfl), if_neg (by decide), if_neg (by decide)]; exact ⟨rfl, h, Lw.rf⟩
  | true =>
    obtain ⟨b1, e1⟩ := rg_T hx
    rw [rT', n10, brc_nF, if_pos rfl, if_pos rfl]
    generalize cl s = s' at *
    subst e1
    obtain ⟨s1, s2, s3, s4, s5⟩ := h.2.2.2.2.1 s' b1
    rw [inb_n (n := 4) rfl (by omega) (by omega), nI_clamp (by omega), s1, ix_ge0 (by omega), sm_ne (show ¬ 64 = 63 by decide), s3, inb_n (n := 4) rfl (by omega) (by omega)]
    refine ⟨b1, brc_i (fun hz => ?_) (fun hz => ?_)⟩
    · rw [if_neg hz, if_neg hz]
      exact ⟨b1, b1, rfl, h.sht (q := (un (gfm g) s' 0, un (gsz g) s' (gsz g s'), ui (git g) s' (git g s'))) (fun c c1 c2 c3 => sm_ne c1) (h.2.2.2.2.1.set (N := stM M 63 s' (mI 1)) (f := 0) (by rw [sm_eq]; rfl) (by omega) (by rw [sm_ne (by decide), u_id s3]) s4 (fun q _ => by rw [sm_ne (by decide)]) (fun i hi => by rw [sm_ne (by decide)]; exact s5 i hi)), Lw.rf.st (by omega)⟩
    · rw [if_pos (Classical.not_not.mp hz), if_pos (Classical.not_not.mp hz)]
      have := h.fnd (n := 1) (by omega)
      rw [m10 1 (by omega)]
      exact ⟨trivial, by simp, rfl, this.1, this.2⟩
theorem x_lacks (h : MJ M g) {s j : Nat} (hs : s < 4) (hj : j < 3) (i : Int32) : Ev 110 [.ref 62, .int (nI s), .int (nI j), .int i] M (some (.int (if hnd (gfm g s) (gsz g s) j i = 0 then nI 0 else mI (10 + hnd (gfm g s) (gsz g s) j i)))) (if hnd (gfm g s) (gsz g s) j i = 0 then M else stM M 62 4 (nI (hnd (gfm g s) (gsz g s) j i))) := by
  obtain ⟨s1, s2, s3, s4, s5⟩ := h.2.2.2.2.1 s hs
  apply Ev.of
  unfold hnd
  simp only [E_110, B_110_0, B_110_1, B_110_2, B_110_3, B_110_4, cm, ct_in, ct_finds, nI_clamp (show s < 2 ^ 31 by omega), s1, s3, in_rgn (show gsz g s < 2 ^ 31 by omega), r_iconst_p, r_iconst_m, r_bipush_p, r_bipush_m, r_sipush_p, r_sipush_m, r_ldc_p, r_ldc_m, r_ldc_w_p, r_ldc_w_m, r_lconst_p, r_lconst_m, r_ldc2_w_p, r_ldc2_w_m, r_iload, r_iload_n, r_lload, r_lload_n, r_aload, r_aload_n, r_istore, r_istore_n, r_astore, r_astore_n, r_lstore, r_lstore_n, r_iinc_p, r_iinc_m, r_iadd, r_isub, r_imul, r_iand, r_ior, r_ixor, r_ishl, r_ishr, r_iushr, r_idiv, r_irem, r_ladd, r_lsub, r_lmul, r_ldiv, r_lrem, r_lshl, r_lcmp, r_i2l, r_i2b, r_i2s, r_dup_i, r_dup_r, r_dup2_ii, r_dup2_ir, r_dup2_l, r_pop, r_getfield, r_putfield, r_iaload, r_iastore, r_aaload, r_arraylength, r_if_eq, r_icmp_eq, r_if_ne, r_icmp_ne, r_if_lt, r_icmp_lt, r_if_ge, r_icmp_ge, r_if_gt, r_icmp_gt, r_if_le, r_icmp_le, r_goto, r_switch, r_ireturn0, r_ireturn1, r_lreturn, r_areturn, r_return, r_inv0, r_inv1, r_inv2, r_inv3, r_inv4, r_inv5, r_min, r_max, r_acopy, onI_s, onL_s, onR_s, onO_s, fv0, fv1, fv2, fv3, fp1, fp20, fp21, fp3, tl_s, tl_n, lg0, lg1, lg2, lg3, lg4, lg5, lg6, lg7, lg8, lg9, lg10, lg11, lg12, lg13, lg14, lg15, lg16, lg17, ls0, ls1, ls2, ls3, ls4, ls5, ls6, ls7, ls8, ls9, ls10, ls11, ls12, ls13, ls14, ls15, ls16, ls17, lk0, lk1, lk2, lk3, lk4, lk5, lk6, lk7, lk8, lk9, lk10, lk11, lk12, lk13, lk14, lk15, lk16, lk17, kl_n, kl_i, kl_r, kl_l, Nat.reduceAdd, Nat.reduceLeDiff, not_false_eq_true, r_ins0, r_ins1, r_ins2, r_ins3, r_ins4, r_ins5]
  rw [inb_n (c := 63) (n := 4) rfl (by omega) (by omega), inb_n (c := 64) (n := 4) rfl (by omega) (by omega), ix_ge0 (by omega), ix_nI (by omega) (by omega)]
  refine ⟨hs, brc_i (fun hz => ⟨hs, ?_⟩) (fun hz => ?_)⟩
  · rw [if_neg hz]
    refine brc_i (fun hq => ⟨hs, by simp, ?_⟩) (fun hq => ?_)
    · rw [if_pos hq]
      cases hx : rg i (gsz g s) with
      | false => rw [rF', brc_pos rfl, m10 2 (by omega)]; exact ⟨trivial, by simp, rfl, rfl⟩
      | true => rw [rT', n10, brc_F]; exact ⟨rfl, rfl⟩
    · rw [if_neg hq, m10 3 (by omega)]; exact ⟨trivial, by simp, rfl, rfl⟩
  · rw [if_pos (Classical.not_not.mp hz), m10 1 (by omega)]; exact ⟨trivial, by simp, rfl, rfl⟩
theorem mI_n0 {n : Nat} (h : 0 < n) (h2 : n < 2 ^ 31) : (mI n = nI 0) = False := q_mn (by omega) h (by omega)
theorem m_lay (h : MJ M g) (s f i v : Int32) : Ct 112 [.ref 62, .int s, .int f, .int i, .int v] M (fun r N => r = some (.int (aLay g s f i)) ∧ MJ N (gLay g s f i v) ∧ Lw M N) := by
  unfold aLay gLay
  simp only [E_112, B_112_0, B_112_1, B_112_2, B_112_3, cm, ct_isSh, ct_in, in_rg (show 2 < 2 ^ 31 by omega), r_iconst_p, r_iconst_m, r_bipush_p, r_bipush_m, r_sipush_p, r_sipush_m, r_ldc_p, r_ldc_m, r_ldc_w_p, r_ldc_w_m, r_lconst_p, r_lconst_m, r_ldc2_w_p, r_ldc2_w_m, r_iload, r_iload_n, r_lload, r_lload_n, r_aload, r_aload_n, r_istore, r_istore_n, r_astore, r_astore_n, r_lstore, r_lstore_n, r_iinc_p, r_iinc_m, r_iadd, r_isub, r_imul, r_iand, r_ior, r_ixor, r_ishl, r_ishr, r_iushr, r_idiv, r_irem, r_ladd, r_lsub, r_lmul, r_ldiv, r_lrem, r_lshl, r_lcmp, r_i2l, r_i2b, r_i2s, r_dup_i, r_dup_r, r_dup2_ii, r_dup2_ir, r_dup2_l, r_pop, r_getfield, r_putfield, r_iaload, r_iastore, r_aaload, r_arraylength, r_if_eq, r_icmp_eq, r_if_ne, r_icmp_ne, r_if_lt, r_icmp_lt, r_if_ge, r_icmp_ge, r_if_gt, r_icmp_gt, r_if_le, r_icmp_le, r_goto, r_switch, r_ireturn0, r_ireturn1, r_lreturn, r_areturn, r_return, r_inv0, r_inv1, r_inv2, r_inv3, r_inv4, r_inv5, r_min, r_max, r_acopy, onI_s, onL_s, onR_s, onO_s, fv0, fv1, fv2, fv3, fp1, fp20, fp21, fp3, tl_s, tl_n, lg0, lg1, lg2, lg3, lg4, lg5, lg6, lg7, lg8, lg9, lg10, lg11, lg12, lg13, lg14, lg15, lg16, lg17, ls0, ls1, ls2, ls3, ls4, ls5, ls6, ls7, ls8, ls9, ls10, ls11, ls12, ls13, ls14, ls15, ls16, ls17, lk0, lk1, lk2, lk3, lk4, lk5, lk6, lk7, lk8, lk9, lk10, lk11, lk12, lk13, lk14, lk15, lk16, lk17, kl_n, kl_i, kl_r, kl_l, Nat.reduceAdd, Nat.reduceLeDiff, not_false_eq_true, r_ins0, r_ins1, r_ins2, r_ins3, r_ins4, r_ins5]
  refine ⟨by simp, ?_⟩
  cases hx : rg s 4 with
  | false => rw [rF', brc_pos rfl, if_neg (fun q => by cases q.1), if_neg (fun q => by cases q.1)]; exact ⟨rfl, h, Lw.rf⟩
  | true =>
    rw [rT', n10, brc_F]
    refine ⟨by simp, ?_⟩
    cases hf : rg f (2 + 1) with
    | false => rw [rF', brc_neg (fun q => q rfl), if_neg (fun q => by cases q.2), if_neg (fun q => by cases q.2)]; exact ⟨rfl, h, Lw.rf⟩
    | true =>
      obtain ⟨b1, e1⟩ := rg_T hx
      obtain ⟨b2, e2⟩ := rg_T hf
      have hz' : true = true ∧ true = true := ⟨rfl, rfl⟩
      rw [rT', n10, brc_nF, if_pos hz', if_pos hz']
      clear hz'
      generalize cl s = s' at *
      generalize cl f = f' at *
      subst e1
      subst e2
      obtain ⟨s1, s2, s3, s4, s5⟩ := h.2.2.2.2.1 s' b1
      refine ⟨trivial, by simp, ?_⟩
      rw [(x_lacks h b1 b2 i).ct]
      have hl := hnd_le (gfm g s') (gsz g s') f' i
      by_cases h0 : hnd (gfm g s') (gsz g s') f' i = 0
      · rw [if_pos h0, if_pos h0, if_pos h0, if_pos h0]
        obtain ⟨ef, ei⟩ := hnd_0 h0
        obtain ⟨b3, e3⟩ := rg_T ei
        generalize hci : cl i = i' at *
        subst e3
        simp only [B_112_0, B_112_1, B_112_2, B_112_3, cm, q_mul, q_add, s_cut b2, nI_clamp (show 60 * s' + i' < 2 ^ 31 by omega), r_iconst_p, r_iconst_m, r_bipush_p, r_bipush_m, r_sipush_p, r_sipush_m, r_ldc_p, r_ldc_m, r_ldc_w_p, r_ldc_w_m, r_lconst_p, r_lconst_m, r_ldc2_w_p, r_ldc2_w_m, r_iload, r_iload_n, r_lload, r_lload_n, r_aload, r_aload_n, r_istore, r_istore_n, r_astore, r_astore_n, r_lstore, r_lstore_n, r_iinc_p, r_iinc_m, r_iadd, r_isub, r_imul, r_iand, r_ior, r_ixor, r_ishl, r_ishr, r_iushr, r_idiv, r_irem, r_ladd, r_lsub, r_lmul, r_ldiv, r_lrem, r_lshl, r_lcmp, r_i2l, r_i2b, r_i2s, r_dup_i, r_dup_r, r_dup2_ii, r_dup2_ir, r_dup2_l, r_pop, r_getfield, r_putfield, r_iaload, r_iastore, r_aaload, r_arraylength, r_if_eq, r_icmp_eq, r_if_ne, r_icmp_ne, r_if_lt, r_icmp_lt, r_if_ge, r_icmp_ge, r_if_gt, r_icmp_gt, r_if_le, r_icmp_le, r_goto, r_switch, r_ireturn0, r_ireturn1, r_lreturn, r_areturn, r_return, r_inv0, r_inv1, r_inv2, r_inv3, r_inv4, r_inv5, r_min, r_max, r_acopy, onI_s, onL_s, onR_s, onO_s, fv0, fv1, fv2, fv3, fp1, fp20, fp21, fp3, tl_s, tl_n, lg0, lg1, lg2, lg3, lg4, lg5, lg6, lg7, lg8, lg9, lg10, lg11, lg12, lg13, lg14, lg15, lg16, lg17, ls0, ls1, ls2, ls3, ls4, ls5, ls6, ls7, ls8, ls9, ls10, ls11, ls12, ls13, ls14, ls15, ls16, ls17, lk0, lk1, lk2, lk3, lk4, lk5, lk6, lk7, lk8, lk9, lk10, lk11, lk12, lk13, lk14, lk15, lk16, lk17, kl_n, kl_i, kl_r, kl_l, Nat.reduceAdd, Nat.reduceLeDiff, not_false_eq_true, r_ins0, r_ins1, r_ins2, r_ins3, r_ins4, r_ins5]
        rw [brc_T, inb_n (n := 240) rfl (by omega) (by omega)]
        refine ⟨by simp, by omega, by first | rfl | trivial, h.sht (q := (un (gfm g) s' (gfm g s'), un (gsz g) s' (gsz g s'), ui (git g) s' (itP g s' i' v))) (fun c c1 c2 c3 => sm_ne c3) (h.2.2.2.2.1.set (by rw [sm_ne (by decide), u_id s1]) s2 (by rw [sm_ne (by decide), u_id s3]) s4 (fun q hq => by rw [sm_eq, u_ne (by omega)]) (fun j hj => ?_)), Lw.rf.st (by omega)⟩
        rw [sm_eq, u_if]
        unfold itP
        by_cases e : j = i'
        · rw [if_pos (by omega), if_pos e, ef]
        · rw [if_neg (by omega), if_neg e]; exact s5 j hj
      · rw [if_neg h0, if_neg h0, if_neg h0, if_neg h0]
        simp only [B_112_0, B_112_1, B_112_2, B_112_3, cm, r_iconst_p, r_iconst_m, r_bipush_p, r_bipush_m, r_sipush_p, r_sipush_m, r_ldc_p, r_ldc_m, r_ldc_w_p, r_ldc_w_m, r_lconst_p, r_lconst_m, r_ldc2_w_p, r_ldc2_w_m, r_iload, r_iload_n, r_lload, r_lload_n, r_aload, r_aload_n, r_istore, r_istore_n, r_astore, r_astore_n, r_lstore, r_lstore_n, r_iinc_p, r_iinc_m, r_iadd, r_isub, r_imul, r_iand, r_ior, r_ixor, r_ishl, r_ishr, r_iushr, r_idiv, r_irem, r_ladd, r_lsub, r_lmul, r_ldiv, r_lrem, r_lshl, r_lcmp, r_i2l, r_i2b, r_i2s, r_dup_i, r_dup_r, r_dup2_ii, r_dup2_ir, r_dup2_l, r_pop, r_getfield, r_putfield, r_iaload, r_iastore, r_aaload, r_arraylength, r_if_eq, r_icmp_eq, r_if_ne, r_icmp_ne, r_if_lt, r_icmp_lt, r_if_ge, r_icmp_ge, r_if_gt, r_icmp_gt, r_if_le, r_icmp_le, r_goto, r_switch, r_ireturn0, r_ireturn1, r_lreturn, r_areturn, r_return, r_inv0, r_inv1, r_inv2, r_inv3, r_inv4, r_inv5, r_min, r_max, r_acopy, onI_s, onL_s, onR_s, onO_s, fv0, fv1, fv2, fv3, fp1, fp20, fp21, fp3, tl_s, tl_n, lg0, lg1, lg2, lg3, lg4, lg5, lg6, lg7, lg8, lg9, lg10, lg11, lg12, lg13, lg14, lg15, lg16, lg17, ls0, ls1, ls2, ls3, ls4, ls5, ls6, ls7, ls8, ls9, ls10, ls11, ls12, ls13, ls14, ls15, ls16, ls17, lk0, lk1, lk2, lk3, lk4, lk5, lk6, lk7, lk8, lk9, lk10, lk11, lk12, lk13, lk14, lk15, lk16, lk17, kl_n, kl_i, kl_r, kl_l, Nat.reduceAdd, Nat.reduceLeDiff, not_false_eq_true, r_ins0, r_ins1, r_ins2, r_ins3, r_ins4, r_ins5]
        rw [mI_n0 (by omega) (by omega), brc_F]
        have := h.fnd (n := hnd (gfm g s') (gsz g s') f' i) (by omega)
        exact ⟨by first | rfl | trivial, this.1, this.2⟩
theorem m_get (h : MJ M g) (s f i : Int32) : Ct 113 [.ref 62, .int s, .int f, .int i] M (fun r N => r = some (.int (aGet g s f i)) ∧ MJ N (gGet g s f i) ∧ Lw M N) := by
  unfold aGet gGet
  simp only [E_113, B_113_0, B_113_1, B_113_2, cm, ct_isSh, ct_in, in_rg (show 2 < 2 ^ 31 by omega), r_iconst_p, r_iconst_m, r_bipush_p, r_bipush_m, r_sipush_p, r_sipush_m, r_ldc_p, r_ldc_m, r_ldc_w_p, r_ldc_w_m, r_lconst_p, r_lconst_m, r_ldc2_w_p, r_ldc2_w_m, r_iload, r_iload_n, r_lload, r_lload_n, r_aload, r_aload_n, r_istore, r_istore_n, r_astore, r_astore_n, r_lstore, r_lstore_n, r_iinc_p, r_iinc_m, r_iadd, r_isub, r_imul, r_iand, r_ior, r_ixor, r_ishl, r_ishr, r_iushr, r_idiv, r_irem, r_ladd, r_lsub, r_lmul, r_ldiv, r_lrem, r_lshl, r_lcmp, r_i2l, r_i2b, r_i2s, r_dup_i, r_dup_r, r_dup2_ii, r_dup2_ir, r_dup2_l, r_pop, r_getfield, r_putfield, r_iaload, r_iastore, r_aaload, r_arraylength, r_if_eq, r_icmp_eq, r_if_ne, r_icmp_ne, r_if_lt, r_icmp_lt, r_if_ge, r_icmp_ge, r_if_gt, r_icmp_gt, r_if_le, r_icmp_le, r_goto, r_switch, r_ireturn0, r_ireturn1, r_lreturn, r_areturn, r_return, r_inv0, r_inv1, r_inv2, r_inv3, r_inv4, r_inv5, r_min, r_max, r_acopy, onI_s, onL_s, onR_s, onO_s, fv0, fv1, fv2, fv3, fp1, fp20, fp21, fp3, tl_s, tl_n, lg0, lg1, lg2, lg3, lg4, lg5, lg6, lg7, lg8, lg9, lg10, lg11, lg12, lg13, lg14, lg15, lg16, lg17, ls0, ls1, ls2, ls3, ls4, ls5, ls6, ls7, ls8, ls9, ls10, ls11, ls12, ls13, ls14, ls15, ls16, ls17, lk0, lk1, lk2, lk3, lk4, lk5, lk6, lk7, lk8, lk9, lk10, lk11, lk12, lk13, lk14, lk15, lk16, lk17, kl_n, kl_i, kl_r, kl_l, Nat.reduceAdd, Nat.reduceLeDiff, not_false_eq_true, r_ins0, r_ins1, r_ins2, r_ins3, r_ins4, r_ins5]
  refine ⟨by simp, ?_⟩
  cases hx : rg s 4 with
  | false => rw [rF', brc_pos rfl, if_neg (fun q => by cases q.1), if_neg (fun q => by cases q.1)]; exact ⟨rfl, h, Lw.rf⟩
  | true =>
    rw [rT', n10, brc_F]
    refine ⟨by simp, ?_⟩
    cases hf : rg f (2 + 1) with
    | false => rw [rF', brc_pos rfl, if_neg (fun q => by cases q.2), if_neg (fun q => by cases q.2)]; exact ⟨rfl, h, Lw.rf⟩
    | true =>
      obtain ⟨b1, e1⟩ := rg_T hx
      obtain ⟨b2, e2⟩ := rg_T hf
      have hz' : true = true ∧ true = true := ⟨rfl, rfl⟩
      rw [rT', n10, brc_F, if_pos hz', if_pos hz']
      clear hz'
      generalize cl s = s' at *
      generalize cl f = f' at *
      subst e1
      subst e2
      obtain ⟨s1, s2, s3, s4, s5⟩ := h.2.2.2.2.1 s' b1
      refine ⟨trivial, by simp, ?_⟩
      rw [(x_lacks h b1 b2 i).ct]
      have hl := hnd_le (gfm g s') (gsz g s') f' i
      by_cases h0 : hnd (gfm g s') (gsz g s') f' i = 0
      · rw [if_pos h0, if_pos h0, if_pos h0, if_pos h0]
        obtain ⟨ef, ei⟩ := hnd_0 h0
        obtain ⟨b3, e3⟩ := rg_T ei
        generalize hci : cl i = i' at *
        subst e3
        simp only [B_113_0, B_113_1, B_113_2, cm, q_mul, q_add, nI_clamp (show 60 * s' + i' < 2 ^ 31 by omega), s5 i' b3, r_iconst_p, r_iconst_m, r_bipush_p, r_bipush_m, r_sipush_p, r_sipush_m, r_ldc_p, r_ldc_m, r_ldc_w_p, r_ldc_w_m, r_lconst_p, r_lconst_m, r_ldc2_w_p, r_ldc2_w_m, r_iload, r_iload_n, r_lload, r_lload_n, r_aload, r_aload_n, r_istore, r_istore_n, r_astore, r_astore_n, r_lstore, r_lstore_n, r_iinc_p, r_iinc_m, r_iadd, r_isub, r_imul, r_iand, r_ior, r_ixor, r_ishl, r_ishr, r_iushr, r_idiv, r_irem, r_ladd, r_lsub, r_lmul, r_ldiv, r_lrem, r_lshl, r_lcmp, r_i2l, r_i2b, r_i2s, r_dup_i, r_dup_r, r_dup2_ii, r_dup2_ir, r_dup2_l, r_pop, r_getfield, r_putfield, r_iaload, r_iastore, r_aaload, r_arraylength, r_if_eq, r_icmp_eq, r_if_ne, r_icmp_ne, r_if_lt, r_icmp_lt, r_if_ge, r_icmp_ge, r_if_gt, r_icmp_gt, r_if_le, r_icmp_le, r_goto, r_switch, r_ireturn0, r_ireturn1, r_lreturn, r_areturn, r_return, r_inv0, r_inv1, r_inv2, r_inv3, r_inv4, r_inv5, r_min, r_max, r_acopy, onI_s, onL_s, onR_s, onO_s, fv0, fv1, fv2, fv3, fp1, fp20, fp21, fp3, tl_s, tl_n, lg0, lg1, lg2, lg3, lg4, lg5, lg6, lg7, lg8, lg9, lg10, lg11, lg12, lg13, lg14, lg15, lg16, lg17, ls0, ls1, ls2, ls3, ls4, ls5, ls6, ls7, ls8, ls9, ls10, ls11, ls12, ls13, ls14, ls15, ls16, ls17, lk0, lk1, lk2, lk3, lk4, lk5, lk6, lk7, lk8, lk9, lk10, lk11, lk12, lk13, lk14, lk15, lk16, lk17, kl_n, kl_i, kl_r, kl_l, Nat.reduceAdd, Nat.reduceLeDiff, not_false_eq_true, r_ins0, r_ins1, r_ins2, r_ins3, r_ins4, r_ins5]
        rw [brc_T, inb_n (n := 240) rfl (by omega) (by omega)]
        exact ⟨by omega, by first | rfl | trivial, h, Lw.rf⟩
      · rw [if_neg h0, if_neg h0, if_neg h0, if_neg h0]
        simp only [B_113_0, B_113_1, B_113_2, cm, r_iconst_p, r_iconst_m, r_bipush_p, r_bipush_m, r_sipush_p, r_sipush_m, r_ldc_p, r_ldc_m, r_ldc_w_p, r_ldc_w_m, r_lconst_p, r_lconst_m, r_ldc2_w_p, r_ldc2_w_m, r_iload, r_iload_n, r_lload, r_lload_n, r_aload, r_aload_n, r_istore, r_istore_n, r_astore, r_astore_n, r_lstore, r_lstore_n, r_iinc_p, r_iinc_m, r_iadd, r_isub, r_imul, r_iand, r_ior, r_ixor, r_ishl, r_ishr, r_iushr, r_idiv, r_irem, r_ladd, r_lsub, r_lmul, r_ldiv, r_lrem, r_lshl, r_lcmp, r_i2l, r_i2b, r_i2s, r_dup_i, r_dup_r, r_dup2_ii, r_dup2_ir, r_dup2_l, r_pop, r_getfield, r_putfield, r_iaload, r_iastore, r_aaload, r_arraylength, r_if_eq, r_icmp_eq, r_if_ne, r_icmp_ne, r_if_lt, r_icmp_lt, r_if_ge, r_icmp_ge, r_if_gt, r_icmp_gt, r_if_le, r_icmp_le, r_goto, r_switch, r_ireturn0, r_ireturn1, r_lreturn, r_areturn, r_return, r_inv0, r_inv1, r_inv2, r_inv3, r_inv4, r_inv5, r_min, r_max, r_acopy, onI_s, onL_s, onR_s, onO_s, fv0, fv1, fv2, fv3, fp1, fp20, fp21, fp3, tl_s, tl_n, lg0, lg1, lg2, lg3, lg4, lg5, lg6, lg7, lg8, lg9, lg10, lg11, lg12, lg13, lg14, lg15, lg16, lg17, ls0, ls1, ls2, ls3, ls4, ls5, ls6, ls7, ls8, ls9, ls10, ls11, ls12, ls13, ls14, ls15, ls16, ls17, lk0, lk1, lk2, lk3, lk4, lk5, lk6, lk7, lk8, lk9, lk10, lk11, lk12, lk13, lk14, lk15, lk16, lk17, kl_n, kl_i, kl_r, kl_l, Nat.reduceAdd, Nat.reduceLeDiff, not_false_eq_true, r_ins0, r_ins1, r_ins2, r_ins3, r_ins4, r_ins5]
        rw [mI_n0 (by omega) (by omega), brc_F]
        have := h.fnd (n := hnd (gfm g s') (gsz g s') f' i) (by omega)
        exact ⟨by first | rfl | trivial, this.1, this.2⟩
end RW
