/-! the reference: swap, later -/
theorem mxs_pos (f : Nat → Nat) : ∀ n, 0 < (mxs f (n + 2)).1
  | 0 => by
    have e : mxs f 2 = (2, f 1 + 1) := by
      rw [mxs_s, if_pos]
      refine ⟨by decide, ?_⟩
      have : mxs f 1 = (0, 0) := by rw [mxs_skip (by decide)]; rfl
      rw [this]
      exact Nat.succ_pos _
    rw [e]
    exact Nat.succ_pos _
  | n + 1 => by
    have ih := mxs_pos f n
    rw [show n + 1 + 2 = n + 2 + 1 from rfl, mxs_s]
    split
    · exact Nat.succ_pos _
    · exact ih
theorem rem2 {a d : Nat} (ha : a < 2 ^ 31) (h0 : 0 < d) (hd : d < 2 ^ 31) : nI a - nI (a / d) * nI d = nI (a % d) := by rw [← pk_div ha h0 hd, pk_rem ha h0 hd]
section RW
variable {M : Mem} {g : Sg}
set_option maxHeartbeats 400000 in
theorem m_swapBy (h : MF M g) {k : Nat} (hk : k < 3) : Ct 166 [.ref 62, .int (nI k)] M (fun r N => r = some (.int (if k = 0 then cdA (mxs (gswa g) 36).1 else if k = 1 then cdB (mxs (gswa g) 36).1 else ix (mxs (gswa g) 36).2)) ∧ MF N g ∧ Lw M N) := by
  have hf : ∀ c, swaF (gB g) (gno g) (gow g) (goq g) (gne g) (gek g) (gew g) (gec g) c = gswa g c := fun _ => rfl
  unfold swaF at hf
  generalize gswa g = f at *
  have hB := bkC_ok (t0 g) (n0 g)
  have hl0 := h.LV
  have hfl : ∀ d, f d ≤ 324 := fun d => by
    rw [← hf d]
    exact icC_le (yr_ok (show okI (InW (swp (gB g) (d / 6) (d % 6)) (gno g) (gow g) (goq g) (evw (gek g) (gew g) (gec g) 255 (gne g))) from ⟨swp_ok hB _ _, hl0.2.2.2.1, hl0.2.2.2.2.1, hl0.2.2.2.2.2.1⟩) 24).1
  have hml := fun c => mxs_le hfl c
  generalize hQ : (fun (r : Option Value) (N : Mem) => r = some (.int (if k = 0 then cdA (mxs f 36).1 else if k = 1 then cdB (mxs f 36).1 else ix (mxs f 36).2)) ∧ MF N g ∧ Lw M N) = Q
  have key : ∀ (n c : Nat) (N : Mem) (v : Option Value) (a b : Nat), c + n = 36 → ST N g → LV N (gB g) (gno g) (gow g) (goq g) (gne g) (gek g) (gew g) (gec g) 0 0 a b → Lw M N → WP 166 [] 1 [some (.ref 62), some (.int (nI k)), some (.int (ix (mxs f c).1)), some (.int (ix (mxs f c).2)), some (.int (nI c)), v] [] N Q := by
    intro n
    induction n with
    | zero =>
      intro c N v a b hc hS hL hw
      obtain rfl : c = 36 := by omega
      have hp := mxs_pos f 34
      rw [show 34 + 2 = 36 from rfl] at hp
      have h36 := (hml 36).1
      have e1 : ix (mxs f 36).1 = nI ((mxs f 36).1 - 1) := by unfold ix; rw [if_neg (by omega)]
      have e2 : cdA (mxs f 36).1 = nI (((mxs f 36).1 - 1) / 6) := by unfold cdA; rw [if_neg (by omega)]
      have e3 : cdB (mxs f 36).1 = nI (((mxs f 36).1 - 1) % 6) := by unfold cdB; rw [if_neg (by omega)]
      have hE := hL.gab (k := 0) (m := 0) (by omega) (by omega)
      have hM : MF (stM (stM N 62 15 (nI 0)) 62 16 (nI 0)) g := mf_of ((hS.st (by omega)).st (by omega)) hE
      have hw2 : Lw M (stM (stM N 62 15 (nI 0)) 62 16 (nI 0)) := (hw.st (by omega)).st (by omega)
      rw [B_166_1]
      simp only [B_166_0, B_166_5, B_166_6, B_166_7, B_166_8, cm, e1, pk_div (show (mxs f 36).1 - 1 < 2 ^ 31 by omega) (show 0 < 6 by omega) (show 6 < 2 ^ 31 by omega), rem2 (show (mxs f 36).1 - 1 < 2 ^ 31 by omega) (show 0 < 6 by omega) (show 6 < 2 ^ 31 by omega), r_iconst_p, r_iconst_m, r_bipush_p, r_bipush_m, r_sipush_p, r_sipush_m, r_ldc_p, r_ldc_m, r_ldc_w_p, r_ldc_w_m, r_lconst_p, r_lconst_m, r_ldc2_w_p, r_ldc2_w_m, r_iload, r_iload_n, r_lload, r_lload_n, r_aload, r_aload_n, r_istore, r_istore_n, r_astore, r_astore_n, r_lstore, r_lstore_n, r_iinc_p, r_iinc_m, r_iadd, r_isub, r_imul, r_iand, r_ior, r_ixor, r_ishl, r_ishr, r_iushr, r_idiv, r_irem, r_ladd, r_lsub, r_lmul, r_ldiv, r_lrem, r_lshl, r_lcmp, r_i2l, r_i2b, r_i2s, r_dup_i, r_dup_r, r_dup2_ii, r_dup2_ir, r_dup2_l, r_pop, r_getfield, r_putfield, r_iaload, r_iastore, r_aaload, r_arraylength, r_if_eq, r_icmp_eq, r_if_ne, r_icmp_ne, r_if_lt, r_icmp_lt, r_if_ge, r_icmp_ge, r_if_gt, r_icmp_gt, r_if_le, r_icmp_le, r_goto, r_switch, r_ireturn0, r_ireturn1, r_lreturn, r_areturn, r_return, r_inv0, r_inv1, r_inv2, r_inv3, r_inv4, r_inv5, r_min, r_max, r_acopy, onI_s, onL_s, onR_s, onO_s, fv0, fv1, fv2, fv3, fp1, fp20, fp21, fp3, tl_s, tl_n, lg0, lg1, lg2, lg3, lg4, lg5, lg6, lg7, lg8, lg9, lg10, lg11, lg12, lg13, lg14, lg15, lg16, lg17, ls0, ls1, ls2, ls3, ls4, ls5, ls6, ls7, ls8, ls9, ls10, ls11, ls12, ls13, ls14, ls15, ls16, ls17, lk0, lk1, lk2, lk3, lk4, lk5, lk6, lk7, lk8, lk9, lk10, lk11, lk12, lk13, lk14, lk15, lk16, lk17, kl_n, kl_i, kl_r, kl_l, Nat.reduceAdd, Nat.reduceLeDiff, not_false_eq_true, r_ins0, r_ins1, r_ins2, r_ins3, r_ins4, r_ins5]
      rw [brc_pos (Int32.le_refl _), q_eq (show k < 2 ^ 31 by omega) (show 0 < 2 ^ 31 by omega), q_eq (show k < 2 ^ 31 by omega) (show 1 < 2 ^ 31 by omega), ← hQ, e2, e3]
      generalize mxs f 36 = mm at *
      refine brc_i (fun hz => ?_) (fun hz => ?_)
      · rw [if_neg hz]
        refine brc_i (fun hy => ?_) (fun hy => ?_)
        · rw [if_neg hy]; exact ⟨rfl, hM, hw2⟩
        · rw [if_pos (Classical.not_not.mp hy)]; exact ⟨by decide, rfl, hM, hw2⟩
      · rw [if_pos (Classical.not_not.mp hz)]; exact ⟨by decide, rfl, hM, hw2⟩
    | succ n ih =>
      intro c N v a b hc hS hL hw
      rw [B_166_1]
      simp only [B_166_0, B_166_2, B_166_3, B_166_6, B_166_7, B_166_8, cm, pk_div (show c < 2 ^ 31 by omega) (show 0 < 6 by omega) (show 6 < 2 ^ 31 by omega), rem2 (show c < 2 ^ 31 by omega) (show 0 < 6 by omega) (show 6 < 2 ^ 31 by omega), r_iconst_p, r_iconst_m, r_bipush_p, r_bipush_m, r_sipush_p, r_sipush_m, r_ldc_p, r_ldc_m, r_ldc_w_p, r_ldc_w_m, r_lconst_p, r_lconst_m, r_ldc2_w_p, r_ldc2_w_m, r_iload, r_iload_n, r_lload, r_lload_n, r_aload, r_aload_n, r_istore, r_istore_n, r_astore, r_astore_n, r_lstore, r_lstore_n, r_iinc_p, r_iinc_m, r_iadd, r_isub, r_imul, r_iand, r_ior, r_ixor, r_ishl, r_ishr, r_iushr, r_idiv, r_irem, r_ladd, r_lsub, r_lmul, r_ldiv, r_lrem, r_lshl, r_lcmp, r_i2l, r_i2b, r_i2s, r_dup_i, r_dup_r, r_dup2_ii, r_dup2_ir, r_dup2_l, r_pop, r_getfield, r_putfield, r_iaload, r_iastore, r_aaload, r_arraylength, r_if_eq, r_icmp_eq, r_if_ne, r_icmp_ne, r_if_lt, r_icmp_lt, r_if_ge, r_icmp_ge, r_if_gt, r_icmp_gt, r_if_le, r_icmp_le, r_goto, r_switch, r_ireturn0, r_ireturn1, r_lreturn, r_areturn, r_return, r_inv0, r_inv1, r_inv2, r_inv3, r_inv4, r_inv5, r_min, r_max, r_acopy, onI_s, onL_s, onR_s, onO_s, fv0, fv1, fv2, fv3, fp1, fp20, fp21, fp3, tl_s, tl_n, lg0, lg1, lg2, lg3, lg4, lg5, lg6, lg7, lg8, lg9, lg10, lg11, lg12, lg13, lg14, lg15, lg16, lg17, ls0, ls1, ls2, ls3, ls4, ls5, ls6, ls7, ls8, ls9, ls10, ls11, ls12, ls13, ls14, ls15, ls16, ls17, lk0, lk1, lk2, lk3, lk4, lk5, lk6, lk7, lk8, lk9, lk10, lk11, lk12, lk13, lk14, lk15, lk16, lk17, kl_n, kl_i, kl_r, kl_l, Nat.reduceAdd, Nat.reduceLeDiff, not_false_eq_true, r_ins0, r_ins1, r_ins2, r_ins3, r_ins4, r_ins5]
      rw [brc_neg (nI_ge (by omega) (by omega)), q_le (by omega) (by omega)]
      refine ⟨by decide, by decide, brc_i (fun hz => ?_) (fun hz => ?_)⟩
      · simp only [B_166_0, B_166_2, B_166_3, B_166_4, B_166_6, B_166_7, B_166_8, cm, q_add, r_iconst_p, r_iconst_m, r_bipush_p, r_bipush_m, r_sipush_p, r_sipush_m, r_ldc_p, r_ldc_m, r_ldc_w_p, r_ldc_w_m, r_lconst_p, r_lconst_m, r_ldc2_w_p, r_ldc2_w_m, r_iload, r_iload_n, r_lload, r_lload_n, r_aload, r_aload_n, r_istore, r_istore_n, r_astore, r_astore_n, r_lstore, r_lstore_n, r_iinc_p, r_iinc_m, r_iadd, r_isub, r_imul, r_iand, r_ior, r_ixor, r_ishl, r_ishr, r_iushr, r_idiv, r_irem, r_ladd, r_lsub, r_lmul, r_ldiv, r_lrem, r_lshl, r_lcmp, r_i2l, r_i2b, r_i2s, r_dup_i, r_dup_r, r_dup2_ii, r_dup2_ir, r_dup2_l, r_pop, r_getfield, r_putfield, r_iaload, r_iastore, r_aaload, r_arraylength, r_if_eq, r_icmp_eq, r_if_ne, r_icmp_ne, r_if_lt, r_icmp_lt, r_if_ge, r_icmp_ge, r_if_gt, r_icmp_gt, r_if_le, r_icmp_le, r_goto, r_switch, r_ireturn0, r_ireturn1, r_lreturn, r_areturn, r_return, r_inv0, r_inv1, r_inv2, r_inv3, r_inv4, r_inv5, r_min, r_max, r_acopy, onI_s, onL_s, onR_s, onO_s, fv0, fv1, fv2, fv3, fp1, fp20, fp21, fp3, tl_s, tl_n, lg0, lg1, lg2, lg3, lg4, lg5, lg6, lg7, lg8, lg9, lg10, lg11, lg12, lg13, lg14, lg15, lg16, lg17, ls0, ls1, ls2, ls3, ls4, ls5, ls6, ls7, ls8, ls9, ls10, ls11, ls12, ls13, ls14, ls15, ls16, ls17, lk0, lk1, lk2, lk3, lk4, lk5, lk6, lk7, lk8, lk9, lk10, lk11, lk12, lk13, lk14, lk15, lk16, lk17, kl_n, kl_i, kl_r, kl_l, Nat.reduceAdd, Nat.reduceLeDiff, not_false_eq_true, r_ins0, r_ins1, r_ins2, r_ins3, r_ins4, r_ins5]
        have ih' := ih (c + 1) N v a b (by omega) hS hL hw
        rw [mxs_skip (by omega)] at ih'
        exact ih'
      · have hne : ¬ c / 6 = c % 6 := by omega
        have hE := hL.gab (k := c / 6) (m := c % 6) (by omega) (by omega)
        refine ⟨by decide, by decide, trivial, by simp, (x_lives ((hS.st (by omega)).st (by omega)) hE).mono ?_⟩
        rintro r P ⟨rfl, hS1, hL1, w1, hO, -⟩
        rw [LI_swp hne] at hO
        have hI : okI (InW (swp (gB g) (c / 6) (c % 6)) (gno g) (gow g) (goq g) (evw (gek g) (gew g) (gec g) 255 (gne g))) := ⟨swp_ok hB _ _, hl0.2.2.2.1, hl0.2.2.2.2.1, hl0.2.2.2.2.2.1⟩
        have h3 := icC_le (yr_ok hI 24).1
        have hfc := hf c
        generalize hv : icC (yr (InW (swp (gB g) (c / 6) (c % 6)) (gno g) (gow g) (goq g) (evw (gek g) (gew g) (gec g) 255 (gne g))) 24).1 = nn at *
        have hm := hml c
        simp only [B_166_0, B_166_2, B_166_3, B_166_4, B_166_6, B_166_7, B_166_8, cm, s_allIce hO hI (show 23 < 24 by omega), hv, s_greatx (show nn < 2 ^ 30 by omega) (show (mxs f c).2 < 2 ^ 30 by omega), q_add, r_iconst_p, r_iconst_m, r_bipush_p, r_bipush_m, r_sipush_p, r_sipush_m, r_ldc_p, r_ldc_m, r_ldc_w_p, r_ldc_w_m, r_lconst_p, r_lconst_m, r_ldc2_w_p, r_ldc2_w_m, r_iload, r_iload_n, r_lload, r_lload_n, r_aload, r_aload_n, r_istore, r_istore_n, r_astore, r_astore_n, r_lstore, r_lstore_n, r_iinc_p, r_iinc_m, r_iadd, r_isub, r_imul, r_iand, r_ior, r_ixor, r_ishl, r_ishr, r_iushr, r_idiv, r_irem, r_ladd, r_lsub, r_lmul, r_ldiv, r_lrem, r_lshl, r_lcmp, r_i2l, r_i2b, r_i2s, r_dup_i, r_dup_r, r_dup2_ii, r_dup2_ir, r_dup2_l, r_pop, r_getfield, r_putfield, r_iaload, r_iastore, r_aaload, r_arraylength, r_if_eq, r_icmp_eq, r_if_ne, r_icmp_ne, r_if_lt, r_icmp_lt, r_if_ge, r_icmp_ge, r_if_gt, r_icmp_gt, r_if_le, r_icmp_le, r_goto, r_switch, r_ireturn0, r_ireturn1, r_lreturn, r_areturn, r_return, r_inv0, r_inv1, r_inv2, r_inv3, r_inv4, r_inv5, r_min, r_max, r_acopy, onI_s, onL_s, onR_s, onO_s, fv0, fv1, fv2, fv3, fp1, fp20, fp21, fp3, tl_s, tl_n, lg0, lg1, lg2, lg3, lg4, lg5, lg6, lg7, lg8, lg9, lg10, lg11, lg12, lg13, lg14, lg15, lg16, lg17, ls0, ls1, ls2, ls3, ls4, ls5, ls6, ls7, ls8, ls9, ls10, ls11, ls12, ls13, ls14, ls15, ls16, ls17, lk0, lk1, lk2, lk3, lk4, lk5, lk6, lk7, lk8, lk9, lk10, lk11, lk12, lk13, lk14, lk15, lk16, lk17, kl_n, kl_i, kl_r, kl_l, Nat.reduceAdd, Nat.reduceLeDiff, not_false_eq_true, r_ins0, r_ins1, r_ins2, r_ins3, r_ins4, r_ins5]
        rw [ix_le (by omega) (by omega)]
        have ih' := ih (c + 1) P (some (.int (nI nn))) _ _ (by omega) hS1 hL1 (((hw.st (by omega)).st (by omega)).tr w1)
        rw [mxs_s, ← hfc] at ih'
        refine ⟨trivial, by simp, brc_i (fun hz => ⟨by simp, ?_⟩) (fun hz => ⟨by simp, ?_⟩)⟩
        · rw [if_neg (by omega)] at ih'
          rw [show max (nn + 1) (mxs f c).2 = (mxs f c).2 by omega]
          exact ih'
        · rw [if_pos (by omega)] at ih'
          simp only [ix_s] at ih'
          rw [show max (nn + 1) (mxs f c).2 = nn + 1 by omega, ix_s]
          exact ih'
  simp only [E_166, B_166_0, B_166_2, B_166_3, B_166_4, B_166_5, B_166_6, B_166_7, B_166_8, cm, r_iconst_p, r_iconst_m, r_bipush_p, r_bipush_m, r_sipush_p, r_sipush_m, r_ldc_p, r_ldc_m, r_ldc_w_p, r_ldc_w_m, r_lconst_p, r_lconst_m, r_ldc2_w_p, r_ldc2_w_m, r_iload, r_iload_n, r_lload, r_lload_n, r_aload, r_aload_n, r_istore, r_istore_n, r_astore, r_astore_n, r_lstore, r_lstore_n, r_iinc_p, r_iinc_m, r_iadd, r_isub, r_imul, r_iand, r_ior, r_ixor, r_ishl, r_ishr, r_iushr, r_idiv, r_irem, r_ladd, r_lsub, r_lmul, r_ldiv, r_lrem, r_lshl, r_lcmp, r_i2l, r_i2b, r_i2s, r_dup_i, r_dup_r, r_dup2_ii, r_dup2_ir, r_dup2_l, r_pop, r_getfield, r_putfield, r_iaload, r_iastore, r_aaload, r_arraylength, r_if_eq, r_icmp_eq, r_if_ne, r_icmp_ne, r_if_lt, r_icmp_lt, r_if_ge, r_icmp_ge, r_if_gt, r_icmp_gt, r_if_le, r_icmp_le, r_goto, r_switch, r_ireturn0, r_ireturn1, r_lreturn, r_areturn, r_return, r_inv0, r_inv1, r_inv2, r_inv3, r_inv4, r_inv5, r_min, r_max, r_acopy, onI_s, onL_s, onR_s, onO_s, fv0, fv1, fv2, fv3, fp1, fp20, fp21, fp3, tl_s, tl_n, lg0, lg1, lg2, lg3, lg4, lg5, lg6, lg7, lg8, lg9, lg10, lg11, lg12, lg13, lg14, lg15, lg16, lg17, ls0, ls1, ls2, ls3, ls4, ls5, ls6, ls7, ls8, ls9, ls10, ls11, ls12, ls13, ls14, ls15, ls16, ls17, lk0, lk1, lk2, lk3, lk4, lk5, lk6, lk7, lk8, lk9, lk10, lk11, lk12, lk13, lk14, lk15, lk16, lk17, kl_n, kl_i, kl_r, kl_l, Nat.reduceAdd, Nat.reduceLeDiff, not_false_eq_true, r_ins0, r_ins1, r_ins2, r_ins3, r_ins4, r_ins5]
  exact key 36 0 M none 0 0 (by omega) h.ST h.LV Lw.rf
set_option maxHeartbeats 400000 in
theorem m_laterOf (h : MF M g) {i k : Nat} (hi : i < gno g) (hk : k < 2) : Ct 168 [.ref 62, .int (nI i), .int (nI k)] M (fun r N => r = some (.int (if k = 0 then ix (mnf 13 (gwai g i) 24).1 else nI (mnf 13 (gwai g i) 24).2)) ∧ MF N g ∧ Lw M N) := by
  have hf : ∀ c, waiF (gB g) (gno g) (gow g) (goq g) (gne g) (gek g) (gew g) (gec g) i c = gwai g i c := fun _ => rfl
  unfold waiF at hf
  generalize gwai g i = f at *
  have hl0 := h.LV
  have hno := hl0.2.2.2.1
  have hfl : ∀ d, f d ≤ 12 := fun d => by
    rw [← hf d]
    exact shN_le hno
  rw [show (24 : Nat) = 23 + 1 from rfl, mnf_K (K' := 99) (by have := hfl 0; omega) (by have := hfl 0; omega) 23]
  rw [show (23 + 1 : Nat) = 24 from rfl]
  have hwas : M 71 (2 * i) = nI (gow g i) := (h.2.2.2 i hi).1
  generalize hQ : (fun (r : Option Value) (N : Mem) => r = some (.int (if k = 0 then ix (mnf 99 f 24).1 else nI (mnf 99 f 24).2)) ∧ MF N g ∧ Lw M N) = Q
  have key : ∀ (n w : Nat) (N : Mem) (v : Option Value) (ow : Nat → Nat), w + n = 24 → ST N g → (∀ j, j ≠ i → ow j = gow g j) → LV N (gB g) (gno g) ow (goq g) (gne g) (gek g) (gew g) (gec g) 0 0 0 0 → Lw M N → WP 168 [] 1 [some (.ref 62), some (.int (nI i)), some (.int (nI k)), some (.int (nI (gow g i))), some (.int (ix (mnf 99 f w).1)), some (.int (nI (mnf 99 f w).2)), some (.int (nI w)), v] [] N Q := by
    intro n
    induction n with
    | zero =>
      intro w N v ow hw hS ho hL hlw
      obtain rfl : w = 24 := by omega
      rw [B_168_1]
      simp only [B_168_0, B_168_4, B_168_5, B_168_6, cm, q_mul, nI_clamp (show 2 * i < 2 ^ 31 by omega), r_iconst_p, r_iconst_m, r_bipush_p, r_bipush_m, r_sipush_p, r_sipush_m, r_ldc_p, r_ldc_m, r_ldc_w_p, r_ldc_w_m, r_lconst_p, r_lconst_m, r_ldc2_w_p, r_ldc2_w_m, r_iload, r_iload_n, r_lload, r_lload_n, r_aload, r_aload_n, r_istore, r_istore_n, r_astore, r_astore_n, r_lstore, r_lstore_n, r_iinc_p, r_iinc_m, r_iadd, r_isub, r_imul, r_iand, r_ior, r_ixor, r_ishl, r_ishr, r_iushr, r_idiv, r_irem, r_ladd, r_lsub, r_lmul, r_ldiv, r_lrem, r_lshl, r_lcmp, r_i2l, r_i2b, r_i2s, r_dup_i, r_dup_r, r_dup2_ii, r_dup2_ir, r_dup2_l, r_pop, r_getfield, r_putfield, r_iaload, r_iastore, r_aaload, r_arraylength, r_if_eq, r_icmp_eq, r_if_ne, r_icmp_ne, r_if_lt, r_icmp_lt, r_if_ge, r_icmp_ge, r_if_gt, r_icmp_gt, r_if_le, r_icmp_le, r_goto, r_switch, r_ireturn0, r_ireturn1, r_lreturn, r_areturn, r_return, r_inv0, r_inv1, r_inv2, r_inv3, r_inv4, r_inv5, r_min, r_max, r_acopy, onI_s, onL_s, onR_s, onO_s, fv0, fv1, fv2, fv3, fp1, fp20, fp21, fp3, tl_s, tl_n, lg0, lg1, lg2, lg3, lg4, lg5, lg6, lg7, lg8, lg9, lg10, lg11, lg12, lg13, lg14, lg15, lg16, lg17, ls0, ls1, ls2, ls3, ls4, ls5, ls6, ls7, ls8, ls9, ls10, ls11, ls12, ls13, ls14, ls15, ls16, ls17, lk0, lk1, lk2, lk3, lk4, lk5, lk6, lk7, lk8, lk9, lk10, lk11, lk12, lk13, lk14, lk15, lk16, lk17, kl_n, kl_i, kl_r, kl_l, Nat.reduceAdd, Nat.reduceLeDiff, not_false_eq_true, r_ins0, r_ins1, r_ins2, r_ins3, r_ins4, r_ins5]
      rw [brc_pos (Int32.le_refl _), inb_n (n := 24) rfl (by omega) (by omega), q_eq (by omega) (by omega), ← hQ]
      have hE := hL.gow (i := i) (w := gow g i) (hl0.2.2.2.2.1 i)
      have e : (fun j => if j = i then gow g i else ow j) = gow g := by
        funext j
        by_cases q : j = i
        · rw [if_pos q, q]
        · rw [if_neg q, ho j q]
      rw [e] at hE
      have hM : MF (stM N 71 (2 * i) (nI (gow g i))) g := mf_of (hS.st (by omega)) hE
      refine ⟨by omega, brc_i (fun hz => ?_) (fun hz => ?_)⟩
      · rw [if_neg hz]; exact ⟨rfl, hM, hlw.st (by omega)⟩
      · rw [if_pos (Classical.not_not.mp hz)]; exact ⟨rfl, hM, hlw.st (by omega)⟩
    | succ n ih =>
      intro w N v ow hw hS ho hL hlw
      rw [B_168_1]
      simp only [B_168_0, B_168_2, B_168_3, B_168_5, B_168_6, cm, q_mul, nI_clamp (show 2 * i < 2 ^ 31 by omega), r_iconst_p, r_iconst_m, r_bipush_p, r_bipush_m, r_sipush_p, r_sipush_m, r_ldc_p, r_ldc_m, r_ldc_w_p, r_ldc_w_m, r_lconst_p, r_lconst_m, r_ldc2_w_p, r_ldc2_w_m, r_iload, r_iload_n, r_lload, r_lload_n, r_aload, r_aload_n, r_istore, r_istore_n, r_astore, r_astore_n, r_lstore, r_lstore_n, r_iinc_p, r_iinc_m, r_iadd, r_isub, r_imul, r_iand, r_ior, r_ixor, r_ishl, r_ishr, r_iushr, r_idiv, r_irem, r_ladd, r_lsub, r_lmul, r_ldiv, r_lrem, r_lshl, r_lcmp, r_i2l, r_i2b, r_i2s, r_dup_i, r_dup_r, r_dup2_ii, r_dup2_ir, r_dup2_l, r_pop, r_getfield, r_putfield, r_iaload, r_iastore, r_aaload, r_arraylength, r_if_eq, r_icmp_eq, r_if_ne, r_icmp_ne, r_if_lt, r_icmp_lt, r_if_ge, r_icmp_ge, r_if_gt, r_icmp_gt, r_if_le, r_icmp_le, r_goto, r_switch, r_ireturn0, r_ireturn1, r_lreturn, r_areturn, r_return, r_inv0, r_inv1, r_inv2, r_inv3, r_inv4, r_inv5, r_min, r_max, r_acopy, onI_s, onL_s, onR_s, onO_s, fv0, fv1, fv2, fv3, fp1, fp20, fp21, fp3, tl_s, tl_n, lg0, lg1, lg2, lg3, lg4, lg5, lg6, lg7, lg8, lg9, lg10, lg11, lg12, lg13, lg14, lg15, lg16, lg17, ls0, ls1, ls2, ls3, ls4, ls5, ls6, ls7, ls8, ls9, ls10, ls11, ls12, ls13, ls14, ls15, ls16, ls17, lk0, lk1, lk2, lk3, lk4, lk5, lk6, lk7, lk8, lk9, lk10, lk11, lk12, lk13, lk14, lk15, lk16, lk17, kl_n, kl_i, kl_r, kl_l, Nat.reduceAdd, Nat.reduceLeDiff, not_false_eq_true, r_ins0, r_ins1, r_ins2, r_ins3, r_ins4, r_ins5]
      rw [brc_neg (nI_ge (by omega) (by omega)), inb_n (n := 24) rfl (by omega) (by omega)]
      have hE := hL.gow (i := i) (w := w) (by omega)
      have e : (fun j => if j = i then w else ow j) = (fun j => if j = i then w else gow g j) := by
        funext j
        by_cases q : j = i
        · rw [if_pos q, if_pos q]
        · rw [if_neg q, if_neg q, ho j q]
      rw [e] at hE
      refine ⟨by omega, trivial, by simp, (x_lives (hS.st (by omega)) hE).mono ?_⟩
      rintro r P ⟨rfl, hS1, hL1, w1, hO, -⟩
      rw [LI_gn] at hO
      have hI : okI (InW (gB g) (gno g) (fun j => if j = i then w else gow g j) (goq g) (evw (gek g) (gew g) (gec g) (255 - 0) (gne g))) := ⟨hL1.2.1, hL1.2.2.2.1, hL1.2.2.2.2.1, hL1.2.2.2.2.2.1⟩
      have hfw : shN (InW (gB g) (gno g) (fun j => if j = i then w else gow g j) (goq g) (evw (gek g) (gew g) (gec g) (255 - 0) (gne g))) = f w := hf w
      have h12 := hfl w
      have hm := (mnf_le (K := 99) (f := f) w).2
      simp only [B_168_0, B_168_2, B_168_3, B_168_5, B_168_6, cm, s_sumBy hO hI hL1.2.2.1 rfl rfl (show 1 < 2 by omega), show ((1 : Nat) = 0) = False by decide, if_false, hfw, s_lesser (show f w < 2 ^ 31 by omega) (show (mnf 99 f w).2 < 2 ^ 31 by omega), q_add, r_iconst_p, r_iconst_m, r_bipush_p, r_bipush_m, r_sipush_p, r_sipush_m, r_ldc_p, r_ldc_m, r_ldc_w_p, r_ldc_w_m, r_lconst_p, r_lconst_m, r_ldc2_w_p, r_ldc2_w_m, r_iload, r_iload_n, r_lload, r_lload_n, r_aload, r_aload_n, r_istore, r_istore_n, r_astore, r_astore_n, r_lstore, r_lstore_n, r_iinc_p, r_iinc_m, r_iadd, r_isub, r_imul, r_iand, r_ior, r_ixor, r_ishl, r_ishr, r_iushr, r_idiv, r_irem, r_ladd, r_lsub, r_lmul, r_ldiv, r_lrem, r_lshl, r_lcmp, r_i2l, r_i2b, r_i2s, r_dup_i, r_dup_r, r_dup2_ii, r_dup2_ir, r_dup2_l, r_pop, r_getfield, r_putfield, r_iaload, r_iastore, r_aaload, r_arraylength, r_if_eq, r_icmp_eq, r_if_ne, r_icmp_ne, r_if_lt, r_icmp_lt, r_if_ge, r_icmp_ge, r_if_gt, r_icmp_gt, r_if_le, r_icmp_le, r_goto, r_switch, r_ireturn0, r_ireturn1, r_lreturn, r_areturn, r_return, r_inv0, r_inv1, r_inv2, r_inv3, r_inv4, r_inv5, r_min, r_max, r_acopy, onI_s, onL_s, onR_s, onO_s, fv0, fv1, fv2, fv3, fp1, fp20, fp21, fp3, tl_s, tl_n, lg0, lg1, lg2, lg3, lg4, lg5, lg6, lg7, lg8, lg9, lg10, lg11, lg12, lg13, lg14, lg15, lg16, lg17, ls0, ls1, ls2, ls3, ls4, ls5, ls6, ls7, ls8, ls9, ls10, ls11, ls12, ls13, ls14, ls15, ls16, ls17, lk0, lk1, lk2, lk3, lk4, lk5, lk6, lk7, lk8, lk9, lk10, lk11, lk12, lk13, lk14, lk15, lk16, lk17, kl_n, kl_i, kl_r, kl_l, Nat.reduceAdd, Nat.reduceLeDiff, not_false_eq_true, r_ins0, r_ins1, r_ins2, r_ins3, r_ins4, r_ins5]
      rw [q_le (by omega) (by omega)]
      have ih' := ih (w + 1) P (some (.int (nI (f w)))) _ (by omega) hS1 (fun j hj => if_neg hj) hL1 ((hlw.st (by omega)).tr w1)
      rw [mnf_s] at ih'
      refine ⟨trivial, by simp, brc_i (fun hz => ⟨by simp, ?_⟩) (fun hz => ⟨by simp, ?_⟩)⟩
      · rw [if_neg (by omega)] at ih'
        rw [show min (f w) (mnf 99 f w).2 = (mnf 99 f w).2 by omega]
        exact ih'
      · rw [if_pos (by omega)] at ih'
        simp only [ix_s] at ih'
        rw [show min (f w) (mnf 99 f w).2 = f w by omega]
        exact ih'
  simp only [E_168, B_168_0, B_168_2, B_168_3, B_168_4, B_168_5, B_168_6, cm, q_mul, nI_clamp (show 2 * i < 2 ^ 31 by omega), hwas, r_iconst_p, r_iconst_m, r_bipush_p, r_bipush_m, r_sipush_p, r_sipush_m, r_ldc_p, r_ldc_m, r_ldc_w_p, r_ldc_w_m, r_lconst_p, r_lconst_m, r_ldc2_w_p, r_ldc2_w_m, r_iload, r_iload_n, r_lload, r_lload_n, r_aload, r_aload_n, r_istore, r_istore_n, r_astore, r_astore_n, r_lstore, r_lstore_n, r_iinc_p, r_iinc_m, r_iadd, r_isub, r_imul, r_iand, r_ior, r_ixor, r_ishl, r_ishr, r_iushr, r_idiv, r_irem, r_ladd, r_lsub, r_lmul, r_ldiv, r_lrem, r_lshl, r_lcmp, r_i2l, r_i2b, r_i2s, r_dup_i, r_dup_r, r_dup2_ii, r_dup2_ir, r_dup2_l, r_pop, r_getfield, r_putfield, r_iaload, r_iastore, r_aaload, r_arraylength, r_if_eq, r_icmp_eq, r_if_ne, r_icmp_ne, r_if_lt, r_icmp_lt, r_if_ge, r_icmp_ge, r_if_gt, r_icmp_gt, r_if_le, r_icmp_le, r_goto, r_switch, r_ireturn0, r_ireturn1, r_lreturn, r_areturn, r_return, r_inv0, r_inv1, r_inv2, r_inv3, r_inv4, r_inv5, r_min, r_max, r_acopy, onI_s, onL_s, onR_s, onO_s, fv0, fv1, fv2, fv3, fp1, fp20, fp21, fp3, tl_s, tl_n, lg0, lg1, lg2, lg3, lg4, lg5, lg6, lg7, lg8, lg9, lg10, lg11, lg12, lg13, lg14, lg15, lg16, lg17, ls0, ls1, ls2, ls3, ls4, ls5, ls6, ls7, ls8, ls9, ls10, ls11, ls12, ls13, ls14, ls15, ls16, ls17, lk0, lk1, lk2, lk3, lk4, lk5, lk6, lk7, lk8, lk9, lk10, lk11, lk12, lk13, lk14, lk15, lk16, lk17, kl_n, kl_i, kl_r, kl_l, Nat.reduceAdd, Nat.reduceLeDiff, not_false_eq_true, r_ins0, r_ins1, r_ins2, r_ins3, r_ins4, r_ins5]
  rw [inb_n (n := 24) rfl (by omega) (by omega)]
  exact ⟨by omega, key 24 0 M none (gow g) (by omega) h.ST (fun _ _ => rfl) h.LV Lw.rf⟩
end RW
