/-! the reference: texts -/
def zr (f : Nat → Int32) : Nat → Int32 := fun i => if i < 6 then nI 0 else f i
theorem ct_bares {M : Mem} {Q : Option Value → Mem → Prop} : Ct 118 [.ref 62] M Q = Q none (setC M 69 (zr (M 69))) := by
  refine Ev.ct (Ev.of ?_) Q
  simp only [E_118, B_118_0, B_118_2, cm, r_iconst_p, r_iconst_m, r_bipush_p, r_bipush_m, r_sipush_p, r_sipush_m, r_ldc_p, r_ldc_m, r_ldc_w_p, r_ldc_w_m, r_lconst_p, r_lconst_m, r_ldc2_w_p, r_ldc2_w_m, r_iload, r_iload_n, r_lload, r_lload_n, r_aload, r_aload_n, r_istore, r_istore_n, r_astore, r_astore_n, r_lstore, r_lstore_n, r_iinc_p, r_iinc_m, r_iadd, r_isub, r_imul, r_iand, r_ior, r_ixor, r_ishl, r_ishr, r_iushr, r_idiv, r_irem, r_ladd, r_lsub, r_lmul, r_ldiv, r_lrem, r_lshl, r_lcmp, r_i2l, r_i2b, r_i2s, r_dup_i, r_dup_r, r_dup2_ii, r_dup2_ir, r_dup2_l, r_pop, r_getfield, r_putfield, r_iaload, r_iastore, r_aaload, r_arraylength, r_if_eq, r_icmp_eq, r_if_ne, r_icmp_ne, r_if_lt, r_icmp_lt, r_if_ge, r_icmp_ge, r_if_gt, r_icmp_gt, r_if_le, r_icmp_le, r_goto, r_switch, r_ireturn0, r_ireturn1, r_lreturn, r_areturn, r_return, r_inv0, r_inv1, r_inv2, r_inv3, r_inv4, r_inv5, r_min, r_max, r_acopy, onI_s, onL_s, onR_s, onO_s, fv0, fv1, fv2, fv3, fp1, fp20, fp21, fp3, tl_s, tl_n, lg0, lg1, lg2, lg3, lg4, lg5, lg6, lg7, lg8, lg9, lg10, lg11, lg12, lg13, lg14, lg15, lg16, lg17, ls0, ls1, ls2, ls3, ls4, ls5, ls6, ls7, ls8, ls9, ls10, ls11, ls12, ls13, ls14, ls15, ls16, ls17, lk0, lk1, lk2, lk3, lk4, lk5, lk6, lk7, lk8, lk9, lk10, lk11, lk12, lk13, lk14, lk15, lk16, lk17, kl_n, kl_i, kl_r, kl_l, Nat.reduceAdd, Nat.reduceLeDiff, not_false_eq_true, r_ins0, r_ins1, r_ins2, r_ins3, r_ins4, r_ins5]
  have key : ∀ k i, i + k = 6 → WP 118 [] 1 [some (.ref 62), some (.int (nI i))] [] (setC M 69 (fun j => if j < i then nI 0 else M 69 j)) (fun v N => v = none ∧ N = setC M 69 (zr (M 69))) := by
    intro k
    induction k with
    | zero =>
      intro i hi
      obtain rfl : i = 6 := by omega
      rw [B_118_1]
      simp only [B_118_0, B_118_2, cm, r_iconst_p, r_iconst_m, r_bipush_p, r_bipush_m, r_sipush_p, r_sipush_m, r_ldc_p, r_ldc_m, r_ldc_w_p, r_ldc_w_m, r_lconst_p, r_lconst_m, r_ldc2_w_p, r_ldc2_w_m, r_iload, r_iload_n, r_lload, r_lload_n, r_aload, r_aload_n, r_istore, r_istore_n, r_astore, r_astore_n, r_lstore, r_lstore_n, r_iinc_p, r_iinc_m, r_iadd, r_isub, r_imul, r_iand, r_ior, r_ixor, r_ishl, r_ishr, r_iushr, r_idiv, r_irem, r_ladd, r_lsub, r_lmul, r_ldiv, r_lrem, r_lshl, r_lcmp, r_i2l, r_i2b, r_i2s, r_dup_i, r_dup_r, r_dup2_ii, r_dup2_ir, r_dup2_l, r_pop, r_getfield, r_putfield, r_iaload, r_iastore, r_aaload, r_arraylength, r_if_eq, r_icmp_eq, r_if_ne, r_icmp_ne, r_if_lt, r_icmp_lt, r_if_ge, r_icmp_ge, r_if_gt, r_icmp_gt, r_if_le, r_icmp_le, r_goto, r_switch, r_ireturn0, r_ireturn1, r_lreturn, r_areturn, r_return, r_inv0, r_inv1, r_inv2, r_inv3, r_inv4, r_inv5, r_min, r_max, r_acopy, onI_s, onL_s, onR_s, onO_s, fv0, fv1, fv2, fv3, fp1, fp20, fp21, fp3, tl_s, tl_n, lg0, lg1, lg2, lg3, lg4, lg5, lg6, lg7, lg8, lg9, lg10, lg11, lg12, lg13, lg14, lg15, lg16, lg17, ls0, ls1, ls2, ls3, ls4, ls5, ls6, ls7, ls8, ls9, ls10, ls11, ls12, ls13, ls14, ls15, ls16, ls17, lk0, lk1, lk2, lk3, lk4, lk5, lk6, lk7, lk8, lk9, lk10, lk11, lk12, lk13, lk14, lk15, lk16, lk17, kl_n, kl_i, kl_r, kl_l, Nat.reduceAdd, Nat.reduceLeDiff, not_false_eq_true, r_ins0, r_ins1, r_ins2, r_ins3, r_ins4, r_ins5]
      rw [brc_pos (Int32.le_refl _)]
      exact ⟨trivial, rfl⟩
    | succ k ih =>
      intro i hi
      rw [B_118_1]
      simp only [B_118_0, B_118_2, cm, r_iconst_p, r_iconst_m, r_bipush_p, r_bipush_m, r_sipush_p, r_sipush_m, r_ldc_p, r_ldc_m, r_ldc_w_p, r_ldc_w_m, r_lconst_p, r_lconst_m, r_ldc2_w_p, r_ldc2_w_m, r_iload, r_iload_n, r_lload, r_lload_n, r_aload, r_aload_n, r_istore, r_istore_n, r_astore, r_astore_n, r_lstore, r_lstore_n, r_iinc_p, r_iinc_m, r_iadd, r_isub, r_imul, r_iand, r_ior, r_ixor, r_ishl, r_ishr, r_iushr, r_idiv, r_irem, r_ladd, r_lsub, r_lmul, r_ldiv, r_lrem, r_lshl, r_lcmp, r_i2l, r_i2b, r_i2s, r_dup_i, r_dup_r, r_dup2_ii, r_dup2_ir, r_dup2_l, r_pop, r_getfield, r_putfield, r_iaload, r_iastore, r_aaload, r_arraylength, r_if_eq, r_icmp_eq, r_if_ne, r_icmp_ne, r_if_lt, r_icmp_lt, r_if_ge, r_icmp_ge, r_if_gt, r_icmp_gt, r_if_le, r_icmp_le, r_goto, r_switch, r_ireturn0, r_ireturn1, r_lreturn, r_areturn, r_return, r_inv0, r_inv1, r_inv2, r_inv3, r_inv4, r_inv5, r_min, r_max, r_acopy, onI_s, onL_s, onR_s, onO_s, fv0, fv1, fv2, fv3, fp1, fp20, fp21, fp3, tl_s, tl_n, lg0, lg1, lg2, lg3, lg4, lg5, lg6, lg7, lg8, lg9, lg10, lg11, lg12, lg13, lg14, lg15, lg16, lg17, ls0, ls1, ls2, ls3, ls4, ls5, ls6, ls7, ls8, ls9, ls10, ls11, ls12, ls13, ls14, ls15, ls16, ls17, lk0, lk1, lk2, lk3, lk4, lk5, lk6, lk7, lk8, lk9, lk10, lk11, lk12, lk13, lk14, lk15, lk16, lk17, kl_n, kl_i, kl_r, kl_l, Nat.reduceAdd, Nat.reduceLeDiff, not_false_eq_true, r_ins0, r_ins1, r_ins2, r_ins3, r_ins4, r_ins5]
      rw [brc_neg (nI_ge (by omega) (by omega)), inb_n (n := 6) rfl (by omega) (by omega), nI_clamp (by omega), q_add]
      refine ⟨by omega, ?_⟩
      have h := ih (i + 1) (by omega)
      have e : stM (setC M 69 (fun j => if j < i then nI 0 else M 69 j)) 69 i (nI 0) = setC M 69 (fun j => if j < i + 1 then nI 0 else M 69 j) := by
        unfold stM
        rw [msc_sc, msc_eq]
        congr 1
        funext j
        rw [u_if]
        by_cases h1 : j = i
        · rw [if_pos h1, if_pos (by omega)]
        · rw [if_neg h1]
          by_cases h2 : j < i
          · rw [if_pos h2, if_pos (by omega)]
          · rw [if_neg h2, if_neg (by omega)]
      rw [e]
      exact h
  have h0 := key 6 0 (by omega)
  have e : setC M 69 (fun j => if j < 0 then nI 0 else M 69 j) = M := by simp [msc_id]
  rw [e] at h0
  exact h0
theorem RG_bare {M : Mem} : RG (setC M 69 (zr (M 69))) 69 70 (fun _ => []) := fun c hc => ⟨by rw [msc_eq]; unfold zr; rw [if_pos hc]; rfl, fun j hj => absurd hj (Nat.not_lt_zero j)⟩
theorem Fr.sc {l : List Nat} {M N : Mem} (h : Fr l M N) {c : Nat} {f : Nat → Int32} (hc : c ∈ l) : Fr l M (setC N c f) := fun d hd => by
  rw [msc_ne (show ¬ d = c from fun q => hd (q ▸ hc))]
  exact h d hd
theorem RG.fr {l : List Nat} {M N : Mem} (h : Fr l M N) {g k : Nat} (hg : g ∉ l) (hk : k ∉ l) {C : Col} (H : RG M g k C) : RG N g k C := by
  unfold RG
  rw [h g hg, h k hk]
  exact H
theorem RG_push {M : Mem} {C : Col} {c v : Nat} (H : RG M 69 70 C) (hC : okC6 C) (h6 : (C c).length < 6) : RG (stM (stM M 70 (6 * c + (C c).length) (nI v)) 69 c (nI ((C c).length + 1))) 69 70 (setc C c (C c ++ [v])) := by
  intro d hd
  have hl := (hC d).1
  rw [sm_eq, sm_ne (show ¬ 70 = 69 by decide), sm_eq, sm_ne (show ¬ 69 = 70 by decide)]
  unfold setc
  by_cases e : d = c
  · subst e
    rw [if_pos rfl, u_eq, List.length_append, List.length_singleton]
    refine ⟨rfl, fun j hj => ?_⟩
    rw [u_if, List.getD_eq_getElem?_getD]
    by_cases e2 : j = (C d).length
    · subst e2
      rw [if_pos rfl, List.getElem?_append_right (Nat.le_refl _), Nat.sub_self]; rfl
    · rw [if_neg (by omega), List.getElem?_append_left (by omega), ← List.getD_eq_getElem?_getD]
      exact (H d hd).2 j (by omega)
  · rw [if_neg e, u_ne e]
    refine ⟨(H d hd).1, fun j hj => ?_⟩
    have hlc := (hC c).1
    rw [u_ne (by omega)]
    exact (H d hd).2 j hj
set_option maxHeartbeats 1000000 in
theorem s_readsBlocks {M : Mem} {n : Nat} {t : Nat → Nat} (HT : TxM M 0 41 n t) : Ct 119 [.ref 62] M (fun r N => r = some (.int (ix (pB t n).1)) ∧ Fr [69, 70] M N ∧ RG N 69 70 (bkC t n)) := by
  obtain ⟨t1, t2, t3, t4⟩ := HT
  simp only [E_119, B_119_0, B_119_2, B_119_3, B_119_4, B_119_5, B_119_6, B_119_7, B_119_8, B_119_9, cm, ct_bares, r_iconst_p, r_iconst_m, r_bipush_p, r_bipush_m, r_sipush_p, r_sipush_m, r_ldc_p, r_ldc_m, r_ldc_w_p, r_ldc_w_m, r_lconst_p, r_lconst_m, r_ldc2_w_p, r_ldc2_w_m, r_iload, r_iload_n, r_lload, r_lload_n, r_aload, r_aload_n, r_istore, r_istore_n, r_astore, r_astore_n, r_lstore, r_lstore_n, r_iinc_p, r_iinc_m, r_iadd, r_isub, r_imul, r_iand, r_ior, r_ixor, r_ishl, r_ishr, r_iushr, r_idiv, r_irem, r_ladd, r_lsub, r_lmul, r_ldiv, r_lrem, r_lshl, r_lcmp, r_i2l, r_i2b, r_i2s, r_dup_i, r_dup_r, r_dup2_ii, r_dup2_ir, r_dup2_l, r_pop, r_getfield, r_putfield, r_iaload, r_iastore, r_aaload, r_arraylength, r_if_eq, r_icmp_eq, r_if_ne, r_icmp_ne, r_if_lt, r_icmp_lt, r_if_ge, r_icmp_ge, r_if_gt, r_icmp_gt, r_if_le, r_icmp_le, r_goto, r_switch, r_ireturn0, r_ireturn1, r_lreturn, r_areturn, r_return, r_inv0, r_inv1, r_inv2, r_inv3, r_inv4, r_inv5, r_min, r_max, r_acopy, onI_s, onL_s, onR_s, onO_s, fv0, fv1, fv2, fv3, fp1, fp20, fp21, fp3, tl_s, tl_n, lg0, lg1, lg2, lg3, lg4, lg5, lg6, lg7, lg8, lg9, lg10, lg11, lg12, lg13, lg14, lg15, lg16, lg17, ls0, ls1, ls2, ls3, ls4, ls5, ls6, ls7, ls8, ls9, ls10, ls11, ls12, ls13, ls14, ls15, ls16, ls17, lk0, lk1, lk2, lk3, lk4, lk5, lk6, lk7, lk8, lk9, lk10, lk11, lk12, lk13, lk14, lk15, lk16, lk17, kl_n, kl_i, kl_r, kl_l, Nat.reduceAdd, Nat.reduceLeDiff, not_false_eq_true, r_ins0, r_ins1, r_ins2, r_ins3, r_ins4, r_ins5]
  refine ⟨trivial, by simp, ?_⟩
  generalize hQ : (fun (r : Option Value) (N : Mem) => r = some (.int (ix (pB t n).1)) ∧ Fr [69, 70] M N ∧ RG N 69 70 (bkC t n)) = Q
  have key : ∀ (k i : Nat) (N : Mem) (u v w : Option Value), i + k = n → Fr [69, 70] M N → (pB t i).1 = 0 → RG N 69 70 (pB t i).2.2 → WP 119 [] 1 [some (.ref 62), some (.int (nI (pB t i).2.1)), some (.int (nI i)), u, v, w] [] N Q := by
    intro k
    induction k with
    | zero =>
      intro i N u v w hi hF h0 hR
      obtain rfl : i = n := by omega
      rw [B_119_1]
      simp only [B_119_0, B_119_6, B_119_7, B_119_8, B_119_9, cm, r_iconst_p, r_iconst_m, r_bipush_p, r_bipush_m, r_sipush_p, r_sipush_m, r_ldc_p, r_ldc_m, r_ldc_w_p, r_ldc_w_m, r_lconst_p, r_lconst_m, r_ldc2_w_p, r_ldc2_w_m, r_iload, r_iload_n, r_lload, r_lload_n, r_aload, r_aload_n, r_istore, r_istore_n, r_astore, r_astore_n, r_lstore, r_lstore_n, r_iinc_p, r_iinc_m, r_iadd, r_isub, r_imul, r_iand, r_ior, r_ixor, r_ishl, r_ishr, r_iushr, r_idiv, r_irem, r_ladd, r_lsub, r_lmul, r_ldiv, r_lrem, r_lshl, r_lcmp, r_i2l, r_i2b, r_i2s, r_dup_i, r_dup_r, r_dup2_ii, r_dup2_ir, r_dup2_l, r_pop, r_getfield, r_putfield, r_iaload, r_iastore, r_aaload, r_arraylength, r_if_eq, r_icmp_eq, r_if_ne, r_icmp_ne, r_if_lt, r_icmp_lt, r_if_ge, r_icmp_ge, r_if_gt, r_icmp_gt, r_if_le, r_icmp_le, r_goto, r_switch, r_ireturn0, r_ireturn1, r_lreturn, r_areturn, r_return, r_inv0, r_inv1, r_inv2, r_inv3, r_inv4, r_inv5, r_min, r_max, r_acopy, onI_s, onL_s, onR_s, onO_s, fv0, fv1, fv2, fv3, fp1, fp20, fp21, fp3, tl_s, tl_n, lg0, lg1, lg2, lg3, lg4, lg5, lg6, lg7, lg8, lg9, lg10, lg11, lg12, lg13, lg14, lg15, lg16, lg17, ls0, ls1, ls2, ls3, ls4, ls5, ls6, ls7, ls8, ls9, ls10, ls11, ls12, ls13, ls14, ls15, ls16, ls17, lk0, lk1, lk2, lk3, lk4, lk5, lk6, lk7, lk8, lk9, lk10, lk11, lk12, lk13, lk14, lk15, lk16, lk17, kl_n, kl_i, kl_r, kl_l, Nat.reduceAdd, Nat.reduceLeDiff, not_false_eq_true, r_ins0, r_ins1, r_ins2, r_ins3, r_ins4, r_ins5]
      rw [inb_n (n := 2) rfl (by omega) (by omega), nI_clamp (by omega), hF 68 (by decide), t1, brc_pos (Int32.le_refl _), ← hQ]
      refine ⟨by omega, by rw [h0]; rfl, hF, ?_⟩
      unfold bkC
      rw [if_pos h0]
      exact hR
    | succ k ih =>
      intro i N u v w hi hF h0 hR
      obtain ⟨p1, p2, p3⟩ := pB_ok t i
      have hs := pB_s t i
      rw [if_neg (fun q => q h0)] at hs
      generalize hc : (pB t i).2.1 = c at *
      generalize hC : (pB t i).2.2 = C at *
      have hti := t4 i
      have hl := (p3 c).1
      have good : ∀ (N' : Mem) (c' : Nat) (u v w : Option Value), (pB t (i + 1)).1 = 0 → (pB t (i + 1)).2.1 = c' → Fr [69, 70] M N' → RG N' 69 70 (pB t (i + 1)).2.2 → WP 119 [] 8 [some (.ref 62), some (.int (nI c')), some (.int (nI i)), u, v, w] [] N' Q := by
        intro N' c' u v w a1 a2 a3 a4
        simp only [B_119_0, B_119_2, B_119_3, B_119_4, B_119_5, B_119_6, B_119_7, B_119_8, B_119_9, cm, r_iconst_p, r_iconst_m, r_bipush_p, r_bipush_m, r_sipush_p, r_sipush_m, r_ldc_p, r_ldc_m, r_ldc_w_p, r_ldc_w_m, r_lconst_p, r_lconst_m, r_ldc2_w_p, r_ldc2_w_m, r_iload, r_iload_n, r_lload, r_lload_n, r_aload, r_aload_n, r_istore, r_istore_n, r_astore, r_astore_n, r_lstore, r_lstore_n, r_iinc_p, r_iinc_m, r_iadd, r_isub, r_imul, r_iand, r_ior, r_ixor, r_ishl, r_ishr, r_iushr, r_idiv, r_irem, r_ladd, r_lsub, r_lmul, r_ldiv, r_lrem, r_lshl, r_lcmp, r_i2l, r_i2b, r_i2s, r_dup_i, r_dup_r, r_dup2_ii, r_dup2_ir, r_dup2_l, r_pop, r_getfield, r_putfield, r_iaload, r_iastore, r_aaload, r_arraylength, r_if_eq, r_icmp_eq, r_if_ne, r_icmp_ne, r_if_lt, r_icmp_lt, r_if_ge, r_icmp_ge, r_if_gt, r_icmp_gt, r_if_le, r_icmp_le, r_goto, r_switch, r_ireturn0, r_ireturn1, r_lreturn, r_areturn, r_return, r_inv0, r_inv1, r_inv2, r_inv3, r_inv4, r_inv5, r_min, r_max, r_acopy, onI_s, onL_s, onR_s, onO_s, fv0, fv1, fv2, fv3, fp1, fp20, fp21, fp3, tl_s, tl_n, lg0, lg1, lg2, lg3, lg4, lg5, lg6, lg7, lg8, lg9, lg10, lg11, lg12, lg13, lg14, lg15, lg16, lg17, ls0, ls1, ls2, ls3, ls4, ls5, ls6, ls7, ls8, ls9, ls10, ls11, ls12, ls13, ls14, ls15, ls16, ls17, lk0, lk1, lk2, lk3, lk4, lk5, lk6, lk7, lk8, lk9, lk10, lk11, lk12, lk13, lk14, lk15, lk16, lk17, kl_n, kl_i, kl_r, kl_l, Nat.reduceAdd, Nat.reduceLeDiff, not_false_eq_true, r_ins0, r_ins1, r_ins2, r_ins3, r_ins4, r_ins5]
        rw [q_add, ← a2]
        exact ih (i + 1) N' u v w (by omega) a3 a1 a4
      have bad : ∀ (fg : Nat) (w : Option Value), (pB t (i + 1)).1 = i + 1 → WP 119 [] 5 [some (.ref 62), some (.int (nI c)), some (.int (nI i)), some (.int (nI (t i))), some (.int (nI fg)), w] [.int (nI 0)] N Q := by
        intro fg w a1
        have e1 := pB_stop (t := t) (n := i + 1) (by omega) k
        rw [show i + 1 + k = n by omega] at e1
        simp only [B_119_0, B_119_2, B_119_3, B_119_4, B_119_5, B_119_7, B_119_8, B_119_9, cm, ct_bares, r_iconst_p, r_iconst_m, r_bipush_p, r_bipush_m, r_sipush_p, r_sipush_m, r_ldc_p, r_ldc_m, r_ldc_w_p, r_ldc_w_m, r_lconst_p, r_lconst_m, r_ldc2_w_p, r_ldc2_w_m, r_iload, r_iload_n, r_lload, r_lload_n, r_aload, r_aload_n, r_istore, r_istore_n, r_astore, r_astore_n, r_lstore, r_lstore_n, r_iinc_p, r_iinc_m, r_iadd, r_isub, r_imul, r_iand, r_ior, r_ixor, r_ishl, r_ishr, r_iushr, r_idiv, r_irem, r_ladd, r_lsub, r_lmul, r_ldiv, r_lrem, r_lshl, r_lcmp, r_i2l, r_i2b, r_i2s, r_dup_i, r_dup_r, r_dup2_ii, r_dup2_ir, r_dup2_l, r_pop, r_getfield, r_putfield, r_iaload, r_iastore, r_aaload, r_arraylength, r_if_eq, r_icmp_eq, r_if_ne, r_icmp_ne, r_if_lt, r_icmp_lt, r_if_ge, r_icmp_ge, r_if_gt, r_icmp_gt, r_if_le, r_icmp_le, r_goto, r_switch, r_ireturn0, r_ireturn1, r_lreturn, r_areturn, r_return, r_inv0, r_inv1, r_inv2, r_inv3, r_inv4, r_inv5, r_min, r_max, r_acopy, onI_s, onL_s, onR_s, onO_s, fv0, fv1, fv2, fv3, fp1, fp20, fp21, fp3, tl_s, tl_n, lg0, lg1, lg2, lg3, lg4, lg5, lg6, lg7, lg8, lg9, lg10, lg11, lg12, lg13, lg14, lg15, lg16, lg17, ls0, ls1, ls2, ls3, ls4, ls5, ls6, ls7, ls8, ls9, ls10, ls11, ls12, ls13, ls14, ls15, ls16, ls17, lk0, lk1, lk2, lk3, lk4, lk5, lk6, lk7, lk8, lk9, lk10, lk11, lk12, lk13, lk14, lk15, lk16, lk17, kl_n, kl_i, kl_r, kl_l, Nat.reduceAdd, Nat.reduceLeDiff, not_false_eq_true, r_ins0, r_ins1, r_ins2, r_ins3, r_ins4, r_ins5]
        rw [brc_nT, ← hQ]
        refine ⟨trivial, by simp, by rw [e1, a1, ix_s], hF.sc (by decide), ?_⟩
        unfold bkC
        rw [e1, if_neg (by omega)]
        exact RG_bare
      rw [B_119_1]
      simp only [B_119_0, B_119_2, B_119_3, B_119_4, B_119_6, B_119_7, B_119_8, B_119_9, cm, ct_in, r_iconst_p, r_iconst_m, r_bipush_p, r_bipush_m, r_sipush_p, r_sipush_m, r_ldc_p, r_ldc_m, r_ldc_w_p, r_ldc_w_m, r_lconst_p, r_lconst_m, r_ldc2_w_p, r_ldc2_w_m, r_iload, r_iload_n, r_lload, r_lload_n, r_aload, r_aload_n, r_istore, r_istore_n, r_astore, r_astore_n, r_lstore, r_lstore_n, r_iinc_p, r_iinc_m, r_iadd, r_isub, r_imul, r_iand, r_ior, r_ixor, r_ishl, r_ishr, r_iushr, r_idiv, r_irem, r_ladd, r_lsub, r_lmul, r_ldiv, r_lrem, r_lshl, r_lcmp, r_i2l, r_i2b, r_i2s, r_dup_i, r_dup_r, r_dup2_ii, r_dup2_ir, r_dup2_l, r_pop, r_getfield, r_putfield, r_iaload, r_iastore, r_aaload, r_arraylength, r_if_eq, r_icmp_eq, r_if_ne, r_icmp_ne, r_if_lt, r_icmp_lt, r_if_ge, r_icmp_ge, r_if_gt, r_icmp_gt, r_if_le, r_icmp_le, r_goto, r_switch, r_ireturn0, r_ireturn1, r_lreturn, r_areturn, r_return, r_inv0, r_inv1, r_inv2, r_inv3, r_inv4, r_inv5, r_min, r_max, r_acopy, onI_s, onL_s, onR_s, onO_s, fv0, fv1, fv2, fv3, fp1, fp20, fp21, fp3, tl_s, tl_n, lg0, lg1, lg2, lg3, lg4, lg5, lg6, lg7, lg8, lg9, lg10, lg11, lg12, lg13, lg14, lg15, lg16, lg17, ls0, ls1, ls2, ls3, ls4, ls5, ls6, ls7, ls8, ls9, ls10, ls11, ls12, ls13, ls14, ls15, ls16, ls17, lk0, lk1, lk2, lk3, lk4, lk5, lk6, lk7, lk8, lk9, lk10, lk11, lk12, lk13, lk14, lk15, lk16, lk17, kl_n, kl_i, kl_r, kl_l, Nat.reduceAdd, Nat.reduceLeDiff, not_false_eq_true, r_ins0, r_ins1, r_ins2, r_ins3, r_ins4, r_ins5]
      rw [inb_n (n := 2) rfl (by omega) (by omega), nI_clamp (show 0 < 2 ^ 31 by omega), hF 68 (by decide), t1, brc_neg (nI_ge (by omega) (by omega)), inb_n (n := 84) rfl (by omega) (by omega), nI_clamp (show i < 2 ^ 31 by omega), nI_clamp (show c < 2 ^ 31 by omega), hF 67 (by decide), show M 67 i = nI (t i) by have := t3 i (by omega); rw [show 42 * 0 + i = i by omega] at this; exact this, in_nat (by omega) (by omega) (by omega), (hR c (by omega)).1, inb_n (n := 6) rfl (by omega) (by omega), q_le (by omega) (by omega), q_le (by omega) (by omega), q_eq (show t i < 2 ^ 31 by omega) (show 59 < 2 ^ 31 by omega)]
      refine ⟨by omega, by omega, by simp, ?_⟩
      by_cases hf : 49 ≤ t i ∧ t i ≤ 57
      · rw [decide_eq_true hf, rT', n10, brc_F]
        rw [if_neg (by omega)] at hs
        refine ⟨by omega, brc_i (fun h6 => bad _ _ (by rw [hs, if_neg (by omega)])) (fun h6 => ?_)⟩
        rw [if_pos ⟨hf, by omega⟩] at hs
        simp only [B_119_0, B_119_2, B_119_3, B_119_4, B_119_5, B_119_6, B_119_7, B_119_9, cm, r_iconst_p, r_iconst_m, r_bipush_p, r_bipush_m, r_sipush_p, r_sipush_m, r_ldc_p, r_ldc_m, r_ldc_w_p, r_ldc_w_m, r_lconst_p, r_lconst_m, r_ldc2_w_p, r_ldc2_w_m, r_iload, r_iload_n, r_lload, r_lload_n, r_aload, r_aload_n, r_istore, r_istore_n, r_astore, r_astore_n, r_lstore, r_lstore_n, r_iinc_p, r_iinc_m, r_iadd, r_isub, r_imul, r_iand, r_ior, r_ixor, r_ishl, r_ishr, r_iushr, r_idiv, r_irem, r_ladd, r_lsub, r_lmul, r_ldiv, r_lrem, r_lshl, r_lcmp, r_i2l, r_i2b, r_i2s, r_dup_i, r_dup_r, r_dup2_ii, r_dup2_ir, r_dup2_l, r_pop, r_getfield, r_putfield, r_iaload, r_iastore, r_aaload, r_arraylength, r_if_eq, r_icmp_eq, r_if_ne, r_icmp_ne, r_if_lt, r_icmp_lt, r_if_ge, r_icmp_ge, r_if_gt, r_icmp_gt, r_if_le, r_icmp_le, r_goto, r_switch, r_ireturn0, r_ireturn1, r_lreturn, r_areturn, r_return, r_inv0, r_inv1, r_inv2, r_inv3, r_inv4, r_inv5, r_min, r_max, r_acopy, onI_s, onL_s, onR_s, onO_s, fv0, fv1, fv2, fv3, fp1, fp20, fp21, fp3, tl_s, tl_n, lg0, lg1, lg2, lg3, lg4, lg5, lg6, lg7, lg8, lg9, lg10, lg11, lg12, lg13, lg14, lg15, lg16, lg17, ls0, ls1, ls2, ls3, ls4, ls5, ls6, ls7, ls8, ls9, ls10, ls11, ls12, ls13, ls14, ls15, ls16, ls17, lk0, lk1, lk2, lk3, lk4, lk5, lk6, lk7, lk8, lk9, lk10, lk11, lk12, lk13, lk14, lk15, lk16, lk17, kl_n, kl_i, kl_r, kl_l, Nat.reduceAdd, Nat.reduceLeDiff, not_false_eq_true, r_ins0, r_ins1, r_ins2, r_ins3, r_ins4, r_ins5]
        rw [n10, brc_nF, brc_F]
        simp only [nI_clamp (show c < 2 ^ 31 by omega), (hR c (by omega)).1, q_mul, q_add, q_sub (show 48 ≤ t i by omega), sm_ne (show ¬ 69 = 70 by decide), nI_clamp (show 6 * c + (C c).length < 2 ^ 31 by omega)]
        rw [inb_n (n := 6) rfl (by omega) (by omega), inb_n (n := 36) rfl (by omega) (by omega)]
        refine ⟨by omega, by omega, by omega, by omega, ?_⟩
        refine good _ c _ _ _ (by rw [hs]) (by rw [hs]) ((hF.st (by decide)).st (by decide)) ?_
        rw [hs]
        exact RG_push hR p3 (by omega)
      · rw [decide_eq_false hf, rF', brc_pos rfl]
        rw [if_neg (show ¬ ((49 ≤ t i ∧ t i ≤ 57) ∧ (C c).length < 6) from fun q => hf q.1)] at hs
        refine brc_i (fun h1 => bad _ _ (by rw [hs, if_neg (fun q => h1 q.1)])) (fun h1 => brc_i (fun h2 => bad _ _ (by rw [hs, if_neg (fun q => by omega)])) (fun h2 => ?_))
        rw [if_pos ⟨by omega, by omega⟩] at hs
        simp only [B_119_0, B_119_2, B_119_3, B_119_4, B_119_5, B_119_6, B_119_7, B_119_9, cm, r_iconst_p, r_iconst_m, r_bipush_p, r_bipush_m, r_sipush_p, r_sipush_m, r_ldc_p, r_ldc_m, r_ldc_w_p, r_ldc_w_m, r_lconst_p, r_lconst_m, r_ldc2_w_p, r_ldc2_w_m, r_iload, r_iload_n, r_lload, r_lload_n, r_aload, r_aload_n, r_istore, r_istore_n, r_astore, r_astore_n, r_lstore, r_lstore_n, r_iinc_p, r_iinc_m, r_iadd, r_isub, r_imul, r_iand, r_ior, r_ixor, r_ishl, r_ishr, r_iushr, r_idiv, r_irem, r_ladd, r_lsub, r_lmul, r_ldiv, r_lrem, r_lshl, r_lcmp, r_i2l, r_i2b, r_i2s, r_dup_i, r_dup_r, r_dup2_ii, r_dup2_ir, r_dup2_l, r_pop, r_getfield, r_putfield, r_iaload, r_iastore, r_aaload, r_arraylength, r_if_eq, r_icmp_eq, r_if_ne, r_icmp_ne, r_if_lt, r_icmp_lt, r_if_ge, r_icmp_ge, r_if_gt, r_icmp_gt, r_if_le, r_icmp_le, r_goto, r_switch, r_ireturn0, r_ireturn1, r_lreturn, r_areturn, r_return, r_inv0, r_inv1, r_inv2, r_inv3, r_inv4, r_inv5, r_min, r_max, r_acopy, onI_s, onL_s, onR_s, onO_s, fv0, fv1, fv2, fv3, fp1, fp20, fp21, fp3, tl_s, tl_n, lg0, lg1, lg2, lg3, lg4, lg5, lg6, lg7, lg8, lg9, lg10, lg11, lg12, lg13, lg14, lg15, lg16, lg17, ls0, ls1, ls2, ls3, ls4, ls5, ls6, ls7, ls8, ls9, ls10, ls11, ls12, ls13, ls14, ls15, ls16, ls17, lk0, lk1, lk2, lk3, lk4, lk5, lk6, lk7, lk8, lk9, lk10, lk11, lk12, lk13, lk14, lk15, lk16, lk17, kl_n, kl_i, kl_r, kl_l, Nat.reduceAdd, Nat.reduceLeDiff, not_false_eq_true, r_ins0, r_ins1, r_ins2, r_ins3, r_ins4, r_ins5]
        rw [n10, brc_nF, brc_T, q_add]
        exact good _ (c + 1) _ _ _ (by rw [hs]) (by rw [hs]) hF (by rw [hs]; exact hR)
  exact key n 0 _ none none none (by omega) (Fr.rf.sc (by decide)) rfl RG_bare
def oV (k b : Nat) : Int32 := if k = 0 then (if 97 ≤ b ∧ b ≤ 120 then nI (b - 97) else mI 9) else if k = 1 then (if 49 ≤ b ∧ b ≤ 57 then nI (b - 48) else mI 9) else if b = 59 then nI 0 else mI 9
theorem s_orderOf {k b : Nat} (hk : k < 3) (hb : b ≤ 255) {M : Mem} {Q : Option Value → Mem → Prop} : Ct 120 [.int (nI k), .int (nI b)] M Q = Q (some (.int (oV k b))) M := by
  refine Ev.ct (Ev.of ?_) Q
  unfold oV
  simp only [E_120, B_120_0, B_120_1, B_120_2, B_120_3, B_120_4, B_120_5, B_120_6, B_120_7, ct_in, r_iconst_p, r_iconst_m, r_bipush_p, r_bipush_m, r_sipush_p, r_sipush_m, r_ldc_p, r_ldc_m, r_ldc_w_p, r_ldc_w_m, r_lconst_p, r_lconst_m, r_ldc2_w_p, r_ldc2_w_m, r_iload, r_iload_n, r_lload, r_lload_n, r_aload, r_aload_n, r_istore, r_istore_n, r_astore, r_astore_n, r_lstore, r_lstore_n, r_iinc_p, r_iinc_m, r_iadd, r_isub, r_imul, r_iand, r_ior, r_ixor, r_ishl, r_ishr, r_iushr, r_idiv, r_irem, r_ladd, r_lsub, r_lmul, r_ldiv, r_lrem, r_lshl, r_lcmp, r_i2l, r_i2b, r_i2s, r_dup_i, r_dup_r, r_dup2_ii, r_dup2_ir, r_dup2_l, r_pop, r_getfield, r_putfield, r_iaload, r_iastore, r_aaload, r_arraylength, r_if_eq, r_icmp_eq, r_if_ne, r_icmp_ne, r_if_lt, r_icmp_lt, r_if_ge, r_icmp_ge, r_if_gt, r_icmp_gt, r_if_le, r_icmp_le, r_goto, r_switch, r_ireturn0, r_ireturn1, r_lreturn, r_areturn, r_return, r_inv0, r_inv1, r_inv2, r_inv3, r_inv4, r_inv5, r_min, r_max, r_acopy, onI_s, onL_s, onR_s, onO_s, fv0, fv1, fv2, fv3, fp1, fp20, fp21, fp3, tl_s, tl_n, lg0, lg1, lg2, lg3, lg4, lg5, lg6, lg7, lg8, lg9, lg10, lg11, lg12, lg13, lg14, lg15, lg16, lg17, ls0, ls1, ls2, ls3, ls4, ls5, ls6, ls7, ls8, ls9, ls10, ls11, ls12, ls13, ls14, ls15, ls16, ls17, lk0, lk1, lk2, lk3, lk4, lk5, lk6, lk7, lk8, lk9, lk10, lk11, lk12, lk13, lk14, lk15, lk16, lk17, kl_n, kl_i, kl_r, kl_l, Nat.reduceAdd, Nat.reduceLeDiff, not_false_eq_true, r_ins0, r_ins1, r_ins2, r_ins3, r_ins4, r_ins5]
  rw [in_nat (by omega) (by omega) (by omega), in_nat (by omega) (by omega) (by omega), q_eq (show k < 2 ^ 31 by omega) (show 0 < 2 ^ 31 by omega), q_eq (show k < 2 ^ 31 by omega) (show 1 < 2 ^ 31 by omega), q_eq (show b < 2 ^ 31 by omega) (show 59 < 2 ^ 31 by omega)]
  by_cases h0 : k = 0
  · rw [brc_neg (fun q => q h0), if_pos h0]
    refine ⟨by simp, ?_⟩
    by_cases h1 : 97 ≤ b ∧ b ≤ 120
    · rw [decide_eq_true h1, rT', n10, brc_F, if_pos h1, q_sub (by omega)]; exact ⟨rfl, trivial⟩
    · rw [decide_eq_false h1, rF', brc_pos rfl, if_neg h1]; exact ⟨rfl, trivial⟩
  · rw [brc_pos h0, if_neg h0]
    by_cases h2 : k = 1
    · rw [brc_neg (fun q => q h2), if_pos h2]
      refine ⟨by simp, ?_⟩
      by_cases h1 : 49 ≤ b ∧ b ≤ 57
      · rw [decide_eq_true h1, rT', n10, brc_F, if_pos h1, q_sub (by omega)]; exact ⟨rfl, trivial⟩
      · rw [decide_eq_false h1, rF', brc_pos rfl, if_neg h1]; exact ⟨rfl, trivial⟩
    · rw [brc_pos h2, if_neg h2]
      by_cases h1 : b = 59
      · rw [brc_neg (fun q => q h1), if_pos h1]; exact ⟨rfl, trivial⟩
      · rw [brc_pos h1, if_neg h1]; exact ⟨rfl, trivial⟩
theorem oV_F {t : Nat → Nat} {i : Nat} (h : okO t i = false) : oV (i % 3) (t i) = mI 9 := by
  unfold okO at h
  unfold oV
  by_cases h0 : i % 3 = 0
  · rw [if_pos h0] at h ⊢
    rw [if_neg (decide_eq_false_iff_not.mp h)]
  · rw [if_neg h0] at h ⊢
    by_cases h1 : i % 3 = 1
    · rw [if_pos h1] at h ⊢
      rw [if_neg (decide_eq_false_iff_not.mp h)]
    · rw [if_neg h1] at h ⊢
      rw [if_neg (decide_eq_false_iff_not.mp h)]
theorem oV_T {t : Nat → Nat} {i : Nat} (h : okO t i = true) : oV (i % 3) (t i) = nI (if i % 3 = 0 then t i - 97 else if i % 3 = 1 then t i - 48 else 0) := by
  unfold okO at h
  unfold oV
  by_cases h0 : i % 3 = 0
  · rw [if_pos h0] at h ⊢
    rw [if_pos (decide_eq_true_iff.mp h), if_pos h0]
  · rw [if_neg h0] at h ⊢
    rw [if_neg h0]
    by_cases h1 : i % 3 = 1
    · rw [if_pos h1] at h ⊢
      rw [if_pos (decide_eq_true_iff.mp h), if_pos h1]
    · rw [if_neg h1] at h ⊢
      rw [if_pos (decide_eq_true_iff.mp h), if_neg h1]
set_option maxHeartbeats 1000000 in
theorem s_readsOrders {M : Mem} {n : Nat} {t : Nat → Nat} (HT : TxM M 1 35 n t) : Ct 121 [.ref 62] M (fun r N => r = some (.int (ix (fO t n))) ∧ Fr [62, 71] M N ∧ (∀ j, j ≠ 9 → N 62 j = M 62 j) ∧ OrM N (noF t n) (owF t n) (oqF t n)) := by
  obtain ⟨t1, t2, t3, t4⟩ := HT
  simp only [E_121, B_121_0, B_121_2, B_121_3, B_121_4, B_121_5, B_121_6, B_121_7, cm, r_iconst_p, r_iconst_m, r_bipush_p, r_bipush_m, r_sipush_p, r_sipush_m, r_ldc_p, r_ldc_m, r_ldc_w_p, r_ldc_w_m, r_lconst_p, r_lconst_m, r_ldc2_w_p, r_ldc2_w_m, r_iload, r_iload_n, r_lload, r_lload_n, r_aload, r_aload_n, r_istore, r_istore_n, r_astore, r_astore_n, r_lstore, r_lstore_n, r_iinc_p, r_iinc_m, r_iadd, r_isub, r_imul, r_iand, r_ior, r_ixor, r_ishl, r_ishr, r_iushr, r_idiv, r_irem, r_ladd, r_lsub, r_lmul, r_ldiv, r_lrem, r_lshl, r_lcmp, r_i2l, r_i2b, r_i2s, r_dup_i, r_dup_r, r_dup2_ii, r_dup2_ir, r_dup2_l, r_pop, r_getfield, r_putfield, r_iaload, r_iastore, r_aaload, r_arraylength, r_if_eq, r_icmp_eq, r_if_ne, r_icmp_ne, r_if_lt, r_icmp_lt, r_if_ge, r_icmp_ge, r_if_gt, r_icmp_gt, r_if_le, r_icmp_le, r_goto, r_switch, r_ireturn0, r_ireturn1, r_lreturn, r_areturn, r_return, r_inv0, r_inv1, r_inv2, r_inv3, r_inv4, r_inv5, r_min, r_max, r_acopy, onI_s, onL_s, onR_s, onO_s, fv0, fv1, fv2, fv3, fp1, fp20, fp21, fp3, tl_s, tl_n, lg0, lg1, lg2, lg3, lg4, lg5, lg6, lg7, lg8, lg9, lg10, lg11, lg12, lg13, lg14, lg15, lg16, lg17, ls0, ls1, ls2, ls3, ls4, ls5, ls6, ls7, ls8, ls9, ls10, ls11, ls12, ls13, ls14, ls15, ls16, ls17, lk0, lk1, lk2, lk3, lk4, lk5, lk6, lk7, lk8, lk9, lk10, lk11, lk12, lk13, lk14, lk15, lk16, lk17, kl_n, kl_i, kl_r, kl_l, Nat.reduceAdd, Nat.reduceLeDiff, not_false_eq_true, r_ins0, r_ins1, r_ins2, r_ins3, r_ins4, r_ins5]
  rw [inb_n (n := 2) rfl (by omega) (by omega), nI_clamp (show 1 < 2 ^ 31 by omega), sm_ne (show ¬ 68 = 62 by decide), t1]
  refine ⟨by omega, ?_⟩
  generalize hQ : (fun (r : Option Value) (N : Mem) => r = some (.int (ix (fO t n))) ∧ Fr [62, 71] M N ∧ (∀ j, j ≠ 9 → N 62 j = M 62 j) ∧ OrM N (noF t n) (owF t n) (oqF t n)) = Q
  have z0 : ∀ (N : Mem), Fr [62, 71] M N → (∀ j, j ≠ 9 → N 62 j = M 62 j) → ¬ fO t n = 0 → Fr [62, 71] M (stM N 62 9 (nI 0)) ∧ (∀ j, j ≠ 9 → stM N 62 9 (nI 0) 62 j = M 62 j) ∧ OrM (stM N 62 9 (nI 0)) (noF t n) (owF t n) (oqF t n) := by
    intro N hF hj hf
    have e : noF t n = 0 := by unfold noF; rw [if_neg hf]
    refine ⟨hF.st (by decide), fun j h => by rw [sm_eq, u_ne h]; exact hj j h, ?_, fun i hi => by omega⟩
    rw [sm_eq, u_eq, e]
  have key : ∀ (k i : Nat) (N : Mem) (u v : Option Value), i + k = n → Fr [62, 71] M N → (∀ j, j ≠ 9 → N 62 j = M 62 j) → bdO t i = 0 → N 62 9 = nI ((i + 1) / 3) → (∀ m, 3 * m < i → N 71 (2 * m) = nI (t (3 * m) - 97)) → (∀ m, 3 * m + 1 < i → N 71 (2 * m + 1) = nI (t (3 * m + 1) - 48)) → WP 121 [] 1 [some (.ref 62), some (.int (nI n)), some (.int (nI i)), u, v] [] N Q := by
    intro k
    induction k with
    | zero =>
      intro i N u v hi hF hj h0 hN hw hq
      obtain rfl : i = n := by omega
      have ef : fO t i = if i = 0 ∨ i % 3 = 2 then 0 else i + 1 := by unfold fO; rw [if_neg (fun q => q h0)]
      rw [B_121_1]
      simp only [B_121_0, B_121_2, B_121_3, B_121_4, B_121_5, B_121_6, cm, r_iconst_p, r_iconst_m, r_bipush_p, r_bipush_m, r_sipush_p, r_sipush_m, r_ldc_p, r_ldc_m, r_ldc_w_p, r_ldc_w_m, r_lconst_p, r_lconst_m, r_ldc2_w_p, r_ldc2_w_m, r_iload, r_iload_n, r_lload, r_lload_n, r_aload, r_aload_n, r_istore, r_istore_n, r_astore, r_astore_n, r_lstore, r_lstore_n, r_iinc_p, r_iinc_m, r_iadd, r_isub, r_imul, r_iand, r_ior, r_ixor, r_ishl, r_ishr, r_iushr, r_idiv, r_irem, r_ladd, r_lsub, r_lmul, r_ldiv, r_lrem, r_lshl, r_lcmp, r_i2l, r_i2b, r_i2s, r_dup_i, r_dup_r, r_dup2_ii, r_dup2_ir, r_dup2_l, r_pop, r_getfield, r_putfield, r_iaload, r_iastore, r_aaload, r_arraylength, r_if_eq, r_icmp_eq, r_if_ne, r_icmp_ne, r_if_lt, r_icmp_lt, r_if_ge, r_icmp_ge, r_if_gt, r_icmp_gt, r_if_le, r_icmp_le, r_goto, r_switch, r_ireturn0, r_ireturn1, r_lreturn, r_areturn, r_return, r_inv0, r_inv1, r_inv2, r_inv3, r_inv4, r_inv5, r_min, r_max, r_acopy, onI_s, onL_s, onR_s, onO_s, fv0, fv1, fv2, fv3, fp1, fp20, fp21, fp3, tl_s, tl_n, lg0, lg1, lg2, lg3, lg4, lg5, lg6, lg7, lg8, lg9, lg10, lg11, lg12, lg13, lg14, lg15, lg16, lg17, ls0, ls1, ls2, ls3, ls4, ls5, ls6, ls7, ls8, ls9, ls10, ls11, ls12, ls13, ls14, ls15, ls16, ls17, lk0, lk1, lk2, lk3, lk4, lk5, lk6, lk7, lk8, lk9, lk10, lk11, lk12, lk13, lk14, lk15, lk16, lk17, kl_n, kl_i, kl_r, kl_l, Nat.reduceAdd, Nat.reduceLeDiff, not_false_eq_true, r_ins0, r_ins1, r_ins2, r_ins3, r_ins4, r_ins5]
      rw [brc_pos (Int32.le_refl _), q_le (by omega) (by omega), pk_rem (by omega) (by omega) (by omega), q_eq (by omega) (by omega), q_eq (by omega) (by omega)]
      have well : fO t i = 0 → WP 121 [] 7 [some (.ref 62), some (.int (nI i)), some (.int (nI i)), u, v] [] N Q := by
        intro h
        have en : noF t i = (i + 1) / 3 := by unfold noF; rw [if_pos h]
        have hd : i = 0 ∨ i % 3 = 2 := by
          rw [ef] at h
          split at h
          · assumption
          · omega
        simp only [B_121_0, B_121_2, B_121_3, B_121_4, B_121_5, B_121_6, B_121_7, cm, r_iconst_p, r_iconst_m, r_bipush_p, r_bipush_m, r_sipush_p, r_sipush_m, r_ldc_p, r_ldc_m, r_ldc_w_p, r_ldc_w_m, r_lconst_p, r_lconst_m, r_ldc2_w_p, r_ldc2_w_m, r_iload, r_iload_n, r_lload, r_lload_n, r_aload, r_aload_n, r_istore, r_istore_n, r_astore, r_astore_n, r_lstore, r_lstore_n, r_iinc_p, r_iinc_m, r_iadd, r_isub, r_imul, r_iand, r_ior, r_ixor, r_ishl, r_ishr, r_iushr, r_idiv, r_irem, r_ladd, r_lsub, r_lmul, r_ldiv, r_lrem, r_lshl, r_lcmp, r_i2l, r_i2b, r_i2s, r_dup_i, r_dup_r, r_dup2_ii, r_dup2_ir, r_dup2_l, r_pop, r_getfield, r_putfield, r_iaload, r_iastore, r_aaload, r_arraylength, r_if_eq, r_icmp_eq, r_if_ne, r_icmp_ne, r_if_lt, r_icmp_lt, r_if_ge, r_icmp_ge, r_if_gt, r_icmp_gt, r_if_le, r_icmp_le, r_goto, r_switch, r_ireturn0, r_ireturn1, r_lreturn, r_areturn, r_return, r_inv0, r_inv1, r_inv2, r_inv3, r_inv4, r_inv5, r_min, r_max, r_acopy, onI_s, onL_s, onR_s, onO_s, fv0, fv1, fv2, fv3, fp1, fp20, fp21, fp3, tl_s, tl_n, lg0, lg1, lg2, lg3, lg4, lg5, lg6, lg7, lg8, lg9, lg10, lg11, lg12, lg13, lg14, lg15, lg16, lg17, ls0, ls1, ls2, ls3, ls4, ls5, ls6, ls7, ls8, ls9, ls10, ls11, ls12, ls13, ls14, ls15, ls16, ls17, lk0, lk1, lk2, lk3, lk4, lk5, lk6, lk7, lk8, lk9, lk10, lk11, lk12, lk13, lk14, lk15, lk16, lk17, kl_n, kl_i, kl_r, kl_l, Nat.reduceAdd, Nat.reduceLeDiff, not_false_eq_true, r_ins0, r_ins1, r_ins2, r_ins3, r_ins4, r_ins5]
        rw [← hQ]
        refine ⟨by rw [h]; rfl, hF, hj, ?_, fun m hm => ?_⟩
        · rw [en]; exact hN
        · unfold owF oqF
          rw [if_pos hm, if_pos hm]
          rw [en] at hm
          exact ⟨hw m (by omega), hq m (by omega)⟩
      refine brc_i (fun h1 => well (by rw [ef, if_pos (Or.inl (by omega))])) (fun h1 => ⟨by omega, brc_i (fun h2 => well (by rw [ef, if_pos (Or.inr (by omega))])) (fun h2 => ?_)⟩)
      have e3 : fO t i = i + 1 := by rw [ef, if_neg (by omega)]
      rw [← hQ]
      exact ⟨by rw [e3, ix_s], z0 N hF hj (by omega)⟩
    | succ k ih =>
      intro i N u v hi hF hj h0 hN hw hq
      have hti := t4 i
      have hst := bdO_s t i
      rw [if_neg (fun q => q h0)] at hst
      have hm3 : i % 3 < 3 := by omega
      rw [B_121_1]
      simp only [B_121_0, B_121_3, B_121_4, B_121_5, B_121_6, B_121_7, cm, pk_rem (show i < 2 ^ 31 by omega) (show 0 < 3 by omega) (show 3 < 2 ^ 31 by omega), q_add, nI_clamp (show 42 + i < 2 ^ 31 by omega), hF 67 (by decide), show M 67 (42 + i) = nI (t i) from t3 i (by omega), s_orderOf hm3 hti, r_iconst_p, r_iconst_m, r_bipush_p, r_bipush_m, r_sipush_p, r_sipush_m, r_ldc_p, r_ldc_m, r_ldc_w_p, r_ldc_w_m, r_lconst_p, r_lconst_m, r_ldc2_w_p, r_ldc2_w_m, r_iload, r_iload_n, r_lload, r_lload_n, r_aload, r_aload_n, r_istore, r_istore_n, r_astore, r_astore_n, r_lstore, r_lstore_n, r_iinc_p, r_iinc_m, r_iadd, r_isub, r_imul, r_iand, r_ior, r_ixor, r_ishl, r_ishr, r_iushr, r_idiv, r_irem, r_ladd, r_lsub, r_lmul, r_ldiv, r_lrem, r_lshl, r_lcmp, r_i2l, r_i2b, r_i2s, r_dup_i, r_dup_r, r_dup2_ii, r_dup2_ir, r_dup2_l, r_pop, r_getfield, r_putfield, r_iaload, r_iastore, r_aaload, r_arraylength, r_if_eq, r_icmp_eq, r_if_ne, r_icmp_ne, r_if_lt, r_icmp_lt, r_if_ge, r_icmp_ge, r_if_gt, r_icmp_gt, r_if_le, r_icmp_le, r_goto, r_switch, r_ireturn0, r_ireturn1, r_lreturn, r_areturn, r_return, r_inv0, r_inv1, r_inv2, r_inv3, r_inv4, r_inv5, r_min, r_max, r_acopy, onI_s, onL_s, onR_s, onO_s, fv0, fv1, fv2, fv3, fp1, fp20, fp21, fp3, tl_s, tl_n, lg0, lg1, lg2, lg3, lg4, lg5, lg6, lg7, lg8, lg9, lg10, lg11, lg12, lg13, lg14, lg15, lg16, lg17, ls0, ls1, ls2, ls3, ls4, ls5, ls6, ls7, ls8, ls9, ls10, ls11, ls12, ls13, ls14, ls15, ls16, ls17, lk0, lk1, lk2, lk3, lk4, lk5, lk6, lk7, lk8, lk9, lk10, lk11, lk12, lk13, lk14, lk15, lk16, lk17, kl_n, kl_i, kl_r, kl_l, Nat.reduceAdd, Nat.reduceLeDiff, not_false_eq_true, r_ins0, r_ins1, r_ins2, r_ins3, r_ins4, r_ins5]
      rw [brc_neg (nI_ge (by omega) (by omega)), inb_n (n := 84) rfl (by omega) (by omega)]
      refine ⟨by decide, by omega, by simp, ?_⟩
      cases ho : okO t i with
      | false =>
        rw [oV_F ho, brc_neg (fun q => q rfl)]
        rw [ho, if_neg (by decide)] at hst
        have e1 := bdO_stop (t := t) (n := i + 1) (by omega) k
        rw [show i + 1 + k = n by omega, hst] at e1
        have e2 : fO t n = i + 1 := by unfold fO; rw [e1, if_pos (by omega)]
        rw [← hQ]
        exact ⟨by rw [e2, ix_s], z0 N hF hj (by omega)⟩
      | true =>
        rw [oV_T ho]
        rw [ho, if_pos rfl] at hst
        rw [brc_pos (by rw [q_nm (by split <;> (try split) <;> omega) (by omega) (by omega)]; exact not_false)]
        have nx : ∀ (N' : Mem) (u v : Option Value) (a : Nat), (i + 1) / 3 + a = (i + 2) / 3 → Fr [62, 71] M N' → (∀ j, j ≠ 9 → N' 62 j = M 62 j) → N' 62 9 = nI ((i + 1) / 3) → (∀ m, 3 * m < i + 1 → N' 71 (2 * m) = nI (t (3 * m) - 97)) → (∀ m, 3 * m + 1 < i + 1 → N' 71 (2 * m + 1) = nI (t (3 * m + 1) - 48)) → WP 121 [] 5 [some (.ref 62), some (.int (nI n)), some (.int (nI i)), u, v] [.int (nI a), .int (nI ((i + 1) / 3)), .ref 62] N' Q := by
          intro N' u v a ha a1 a2 a3 a4 a5
          simp only [B_121_0, B_121_2, B_121_3, B_121_4, B_121_5, B_121_6, B_121_7, cm, r_iconst_p, r_iconst_m, r_bipush_p, r_bipush_m, r_sipush_p, r_sipush_m, r_ldc_p, r_ldc_m, r_ldc_w_p, r_ldc_w_m, r_lconst_p, r_lconst_m, r_ldc2_w_p, r_ldc2_w_m, r_iload, r_iload_n, r_lload, r_lload_n, r_aload, r_aload_n, r_istore, r_istore_n, r_astore, r_astore_n, r_lstore, r_lstore_n, r_iinc_p, r_iinc_m, r_iadd, r_isub, r_imul, r_iand, r_ior, r_ixor, r_ishl, r_ishr, r_iushr, r_idiv, r_irem, r_ladd, r_lsub, r_lmul, r_ldiv, r_lrem, r_lshl, r_lcmp, r_i2l, r_i2b, r_i2s, r_dup_i, r_dup_r, r_dup2_ii, r_dup2_ir, r_dup2_l, r_pop, r_getfield, r_putfield, r_iaload, r_iastore, r_aaload, r_arraylength, r_if_eq, r_icmp_eq, r_if_ne, r_icmp_ne, r_if_lt, r_icmp_lt, r_if_ge, r_icmp_ge, r_if_gt, r_icmp_gt, r_if_le, r_icmp_le, r_goto, r_switch, r_ireturn0, r_ireturn1, r_lreturn, r_areturn, r_return, r_inv0, r_inv1, r_inv2, r_inv3, r_inv4, r_inv5, r_min, r_max, r_acopy, onI_s, onL_s, onR_s, onO_s, fv0, fv1, fv2, fv3, fp1, fp20, fp21, fp3, tl_s, tl_n, lg0, lg1, lg2, lg3, lg4, lg5, lg6, lg7, lg8, lg9, lg10, lg11, lg12, lg13, lg14, lg15, lg16, lg17, ls0, ls1, ls2, ls3, ls4, ls5, ls6, ls7, ls8, ls9, ls10, ls11, ls12, ls13, ls14, ls15, ls16, ls17, lk0, lk1, lk2, lk3, lk4, lk5, lk6, lk7, lk8, lk9, lk10, lk11, lk12, lk13, lk14, lk15, lk16, lk17, kl_n, kl_i, kl_r, kl_l, Nat.reduceAdd, Nat.reduceLeDiff, not_false_eq_true, r_ins0, r_ins1, r_ins2, r_ins3, r_ins4, r_ins5]
          rw [q_add, q_add, ha]
          exact ih (i + 1) _ _ _ (by omega) (a1.st (by decide)) (fun j hj => by rw [sm_eq, u_ne hj]; exact a2 j hj) hst (by rw [sm_eq, u_eq]) (fun m hm => by rw [sm_ne (by decide)]; exact a4 m hm) (fun m hm => by rw [sm_ne (by decide)]; exact a5 m hm)
        simp only [B_121_0, B_121_2, B_121_3, B_121_4, B_121_6, B_121_7, cm, pk_div (show i < 2 ^ 31 by omega) (show 0 < 3 by omega) (show 3 < 2 ^ 31 by omega), q_mul, q_add, nI_clamp (show 2 * (i / 3) + i % 3 < 2 ^ 31 by omega), sm_ne (show ¬ 62 = 71 by decide), hN, r_iconst_p, r_iconst_m, r_bipush_p, r_bipush_m, r_sipush_p, r_sipush_m, r_ldc_p, r_ldc_m, r_ldc_w_p, r_ldc_w_m, r_lconst_p, r_lconst_m, r_ldc2_w_p, r_ldc2_w_m, r_iload, r_iload_n, r_lload, r_lload_n, r_aload, r_aload_n, r_istore, r_istore_n, r_astore, r_astore_n, r_lstore, r_lstore_n, r_iinc_p, r_iinc_m, r_iadd, r_isub, r_imul, r_iand, r_ior, r_ixor, r_ishl, r_ishr, r_iushr, r_idiv, r_irem, r_ladd, r_lsub, r_lmul, r_ldiv, r_lrem, r_lshl, r_lcmp, r_i2l, r_i2b, r_i2s, r_dup_i, r_dup_r, r_dup2_ii, r_dup2_ir, r_dup2_l, r_pop, r_getfield, r_putfield, r_iaload, r_iastore, r_aaload, r_arraylength, r_if_eq, r_icmp_eq, r_if_ne, r_icmp_ne, r_if_lt, r_icmp_lt, r_if_ge, r_icmp_ge, r_if_gt, r_icmp_gt, r_if_le, r_icmp_le, r_goto, r_switch, r_ireturn0, r_ireturn1, r_lreturn, r_areturn, r_return, r_inv0, r_inv1, r_inv2, r_inv3, r_inv4, r_inv5, r_min, r_max, r_acopy, onI_s, onL_s, onR_s, onO_s, fv0, fv1, fv2, fv3, fp1, fp20, fp21, fp3, tl_s, tl_n, lg0, lg1, lg2, lg3, lg4, lg5, lg6, lg7, lg8, lg9, lg10, lg11, lg12, lg13, lg14, lg15, lg16, lg17, ls0, ls1, ls2, ls3, ls4, ls5, ls6, ls7, ls8, ls9, ls10, ls11, ls12, ls13, ls14, ls15, ls16, ls17, lk0, lk1, lk2, lk3, lk4, lk5, lk6, lk7, lk8, lk9, lk10, lk11, lk12, lk13, lk14, lk15, lk16, lk17, kl_n, kl_i, kl_r, kl_l, Nat.reduceAdd, Nat.reduceLeDiff, not_false_eq_true, r_ins0, r_ins1, r_ins2, r_ins3, r_ins4, r_ins5]
        rw [q_le (by omega) (by omega), q_eq (by omega) (by omega), inb_n (n := 24) rfl (by omega) (by omega)]
        refine brc_i (fun h2 => ?_) (fun h2 => ?_)
        · rw [brc_pos (by omega)]
          exact nx N _ _ 0 (by omega) hF hj hN (fun m hm => hw m (by omega)) (fun m hm => hq m (by omega))
        · refine ⟨by decide, by omega, ?_⟩
          rcases (show i % 3 = 0 ∨ i % 3 = 1 by omega) with e | e
          · rw [brc_pos (by omega)]
            refine nx _ _ _ 0 (by omega) (hF.st (by decide)) (fun j h => by rw [sm_ne (by decide)]; exact hj j h) (by rw [sm_ne (by decide)]; exact hN) (fun m hm => ?_) (fun m hm => ?_)
            · rw [sm_eq, u_if, if_pos e]
              by_cases q : 3 * m = i
              · rw [if_pos (by omega), q]
              · rw [if_neg (by omega)]; exact hw m (by omega)
            · rw [sm_eq, u_ne (by omega)]; exact hq m (by omega)
          · rw [brc_neg (by omega)]
            refine nx _ _ _ 1 (by omega) (hF.st (by decide)) (fun j h => by rw [sm_ne (by decide)]; exact hj j h) (by rw [sm_ne (by decide)]; exact hN) (fun m hm => ?_) (fun m hm => ?_)
            · rw [sm_eq, u_ne (by omega)]; exact hw m (by omega)
            · rw [sm_eq, u_if, if_neg (show ¬ i % 3 = 0 by omega), if_pos e]
              by_cases q : 3 * m + 1 = i
              · rw [if_pos (by omega), q]
              · rw [if_neg (by omega)]; exact hq m (by omega)
  exact key n 0 _ none none (by omega) (Fr.rf.st (by decide)) (fun j h => by rw [sm_eq, u_ne h]) rfl (by rw [sm_eq, u_eq]) (fun m hm => by omega) (fun m hm => by omega)
