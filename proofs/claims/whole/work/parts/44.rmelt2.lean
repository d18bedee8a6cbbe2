/-! the reference: melting, the second half -/
section RS
variable {M : Mem} {Q : Option Value → Mem → Prop} {C : Col}
set_option maxHeartbeats 2000000 in
theorem s_melt2 {w : Nat} {sw : Nat → Bool} {dr th : Bool} {v2 v3 : Option Value} {k4 : Int32} (H : RG M 73 74 C) (hC : okC6 C) (hw : w < 24) (hm : ∀ c h, c < 6 → h < (C c).length → M 75 (6 * c + h) = nI (mlV C sw dr th c h))
    (K : ∀ (N : Mem), Fr [73, 74, 79] M N → RG N 73 74 (mlC C sw dr th) → N 79 = upd (M 79) w (nI (mlW C sw dr th)) → Q none N) :
    ∀ u v v' k, WP 140 [] 8 [some (.ref 62), some (.int (nI w)), v2, v3, some (.int k4), some (.int k), u, v, v'] [] M Q := by
  intro u v v' k
  generalize hE : mlC C sw dr th = E at K
  generalize hWt : (fun c => (mlc C sw dr th c).2) = wt
  have hEc : ∀ c, (mlc C sw dr th c).1 = E c := fun c => by rw [← hE]; rfl
  have hwc : ∀ c, (mlc C sw dr th c).2 = wt c := fun c => by rw [← hWt]
  have hmw : mlW C sw dr th = smN wt 6 := by unfold mlW; rw [hWt]
  have hwt : ∀ c, wt c ≤ 54 := by
    intro c
    rw [← hwc]
    unfold mlc
    have hwl : ∀ n, n ≤ 6 → (mel (los C sw dr th c) (C c) n).2 ≤ 9 * n := by
      intro n
      induction n with
      | zero => intro _; exact Nat.le_refl 0
      | succ n ihn =>
        intro hn
        have := ihn (by omega)
        have h9 := getD_le (hC c).2 n
        unfold mel
        simp only
        omega
    have := hwl _ (hC c).1
    have := (hC c).1
    omega
  rw [hmw] at K
  have outer : ∀ (n c : Nat) (N : Mem) (u v v' : Option Value), c + n = 6 → Fr [73, 74, 79] M N → RG N 73 74 (mix C E c) → N 79 = upd (M 79) w (nI (smN wt c)) → WP 140 [] 9 [some (.ref 62), some (.int (nI w)), v2, v3, some (.int k4), some (.int (nI c)), u, v, v'] [] N Q := by
    intro n
    induction n with
    | zero =>
      intro c N u v v' hc hF hR h79
      obtain rfl : c = 6 := by omega
      rw [B_140_9]
      simp only [B_140_0, B_140_3, B_140_4, B_140_5, B_140_6, B_140_7, B_140_8, B_140_11, B_140_12, B_140_13, B_140_14, cm, r_iconst_p, r_iconst_m, r_bipush_p, r_bipush_m, r_sipush_p, r_sipush_m, r_ldc_p, r_ldc_m, r_ldc_w_p, r_ldc_w_m, r_lconst_p, r_lconst_m, r_ldc2_w_p, r_ldc2_w_m, r_iload, r_iload_n, r_lload, r_lload_n, r_aload, r_aload_n, r_istore, r_istore_n, r_astore, r_astore_n, r_lstore, r_lstore_n, r_iinc_p, r_iinc_m, r_iadd, r_isub, r_imul, r_iand, r_ior, r_ixor, r_ishl, r_ishr, r_iushr, r_idiv, r_irem, r_ladd, r_lsub, r_lmul, r_ldiv, r_lrem, r_lshl, r_lcmp, r_i2l, r_i2b, r_i2s, r_dup_i, r_dup_r, r_dup2_ii, r_dup2_ir, r_dup2_l, r_pop, r_getfield, r_putfield, r_iaload, r_iastore, r_aaload, r_arraylength, r_if_eq, r_icmp_eq, r_if_ne, r_icmp_ne, r_if_lt, r_icmp_lt, r_if_ge, r_icmp_ge, r_if_gt, r_icmp_gt, r_if_le, r_icmp_le, r_goto, r_switch, r_ireturn0, r_ireturn1, r_lreturn, r_areturn, r_return, r_inv0, r_inv1, r_inv2, r_inv3, r_inv4, r_inv5, r_min, r_max, r_acopy, onI_s, onL_s, onR_s, onO_s, fv0, fv1, fv2, fv3, fp1, fp20, fp21, fp3, tl_s, tl_n, lg0, lg1, lg2, lg3, lg4, lg5, lg6, lg7, lg8, lg9, lg10, lg11, lg12, lg13, lg14, lg15, lg16, lg17, ls0, ls1, ls2, ls3, ls4, ls5, ls6, ls7, ls8, ls9, ls10, ls11, ls12, ls13, ls14, ls15, ls16, ls17, lk0, lk1, lk2, lk3, lk4, lk5, lk6, lk7, lk8, lk9, lk10, lk11, lk12, lk13, lk14, lk15, lk16, lk17, kl_n, kl_i, kl_r, kl_l, Nat.reduceAdd, Nat.reduceLeDiff, not_false_eq_true, r_ins0, r_ins1, r_ins2, r_ins3, r_ins4, r_ins5]
      rw [brc_pos (Int32.le_refl _)]
      refine K N hF (fun d hd => ?_) h79
      have := hR d hd
      unfold mix at this
      rw [if_pos hd] at this
      exact this
    | succ n ih =>
      intro c N0 u v v' hc hF0 hR0 h790
      have hc6 : c < 6 := by omega
      have hl := (hC c).1
      have hmc : mix C E c c = C c := by unfold mix; rw [if_neg (by omega)]
      generalize hf : los C sw dr th c = f
      have hEc' : (mel f (C c) (C c).length).1 = E c := by rw [← hEc c]; unfold mlc; rw [hf]
      have hwc' : (mel f (C c) (C c).length).2 = wt c := by rw [← hwc c]; unfold mlc; rw [hf]
      have hsm : smN wt c ≤ 6 * 54 := by have := smN_le (f := wt) (k := 54) c (fun i _ => hwt i); have : c * 54 ≤ 6 * 54 := Nat.mul_le_mul_right _ (by omega); omega
      have hwl : ∀ n, n ≤ 6 → (mel f (C c) n).2 ≤ 9 * n := by
        intro n
        induction n with
        | zero => intro _; exact Nat.le_refl 0
        | succ n ihn =>
          intro hn
          have := ihn (by omega)
          have h9 := getD_le (hC c).2 n
          unfold mel
          simp only
          omega
      have inner : ∀ (m h : Nat) (N : Mem) (v' : Option Value), h + m = (C c).length → Fr [73, 74, 79] M N → N 73 = N0 73 → (∀ q, q < 6 * c ∨ 6 * c + 6 ≤ q → N 74 q = N0 74 q) → (∀ j, j < (mel f (C c) h).1.length → N 74 (6 * c + j) = nI ((mel f (C c) h).1.getD j 0)) → (∀ j, h ≤ j → j < (C c).length → N 74 (6 * c + j) = nI ((C c).getD j 0)) → N 79 = upd (M 79) w (nI (smN wt c + (mel f (C c) h).2)) → WP 140 [] 10 [some (.ref 62), some (.int (nI w)), v2, v3, some (.int k4), some (.int (nI c)), some (.int (nI (mel f (C c) h).1.length)), some (.int (nI h)), v'] [] N Q := by
        intro m
        induction m with
        | zero =>
          intro h N v' hh hF h73 ho hlo hhi h79
          obtain rfl : h = (C c).length := by omega
          rw [B_140_10]
          have h73c : N 73 c = nI (C c).length := by rw [h73, (hR0 c hc6).1, hmc]
          have hP := mel_len f (C c) (C c).length
          simp only [B_140_0, B_140_3, B_140_4, B_140_5, B_140_6, B_140_7, B_140_8, B_140_13, B_140_14, cm, nI_clamp (show c < 2 ^ 31 by omega), h73c, q_add, r_iconst_p, r_iconst_m, r_bipush_p, r_bipush_m, r_sipush_p, r_sipush_m, r_ldc_p, r_ldc_m, r_ldc_w_p, r_ldc_w_m, r_lconst_p, r_lconst_m, r_ldc2_w_p, r_ldc2_w_m, r_iload, r_iload_n, r_lload, r_lload_n, r_aload, r_aload_n, r_istore, r_istore_n, r_astore, r_astore_n, r_lstore, r_lstore_n, r_iinc_p, r_iinc_m, r_iadd, r_isub, r_imul, r_iand, r_ior, r_ixor, r_ishl, r_ishr, r_iushr, r_idiv, r_irem, r_ladd, r_lsub, r_lmul, r_ldiv, r_lrem, r_lshl, r_lcmp, r_i2l, r_i2b, r_i2s, r_dup_i, r_dup_r, r_dup2_ii, r_dup2_ir, r_dup2_l, r_pop, r_getfield, r_putfield, r_iaload, r_iastore, r_aaload, r_arraylength, r_if_eq, r_icmp_eq, r_if_ne, r_icmp_ne, r_if_lt, r_icmp_lt, r_if_ge, r_icmp_ge, r_if_gt, r_icmp_gt, r_if_le, r_icmp_le, r_goto, r_switch, r_ireturn0, r_ireturn1, r_lreturn, r_areturn, r_return, r_inv0, r_inv1, r_inv2, r_inv3, r_inv4, r_inv5, r_min, r_max, r_acopy, onI_s, onL_s, onR_s, onO_s, fv0, fv1, fv2, fv3, fp1, fp20, fp21, fp3, tl_s, tl_n, lg0, lg1, lg2, lg3, lg4, lg5, lg6, lg7, lg8, lg9, lg10, lg11, lg12, lg13, lg14, lg15, lg16, lg17, ls0, ls1, ls2, ls3, ls4, ls5, ls6, ls7, ls8, ls9, ls10, ls11, ls12, ls13, ls14, ls15, ls16, ls17, lk0, lk1, lk2, lk3, lk4, lk5, lk6, lk7, lk8, lk9, lk10, lk11, lk12, lk13, lk14, lk15, lk16, lk17, kl_n, kl_i, kl_r, kl_l, Nat.reduceAdd, Nat.reduceLeDiff, not_false_eq_true, r_ins0, r_ins1, r_ins2, r_ins3, r_ins4, r_ins5]
          rw [inb_n (n := 6) rfl (by omega) (by omega), brc_pos (Int32.le_refl _)]
          refine ⟨hc6, hc6, ?_⟩
          refine ih (c + 1) _ _ _ _ (by omega) (hF.st (by decide)) (fun d hd => ?_) (by rw [sm_ne (by decide), h79, smN_s, hwc'])
          rw [sm_eq, sm_ne (show ¬ 74 = 73 by decide), mix_s]
          unfold setc
          by_cases e : d = c
          · subst e
            rw [if_pos rfl, u_eq, hEc']
            rw [hEc'] at hlo
            exact ⟨rfl, hlo⟩
          · rw [if_neg e, u_ne e, h73]
            have hld : (mix C E c d).length ≤ 6 := by
              unfold mix
              split
              · rw [← hE]; exact (mlC_ok hC sw dr th d).1
              · exact (hC d).1
            refine ⟨(hR0 d hd).1, fun j hj => ?_⟩
            rw [ho _ (by omega)]
            exact (hR0 d hd).2 j hj
        | succ m ihm =>
          intro h N v' hh hF h73 ho hlo hhi h79
          have hhl : h < (C c).length := by omega
          have h73c : N 73 c = nI (C c).length := by rw [h73, (hR0 c hc6).1, hmc]
          have hP := mel_len f (C c) h
          have hv9 := getD_le (hC c).2 h
          have hwh := hwl h (by omega)
          have h75 : N 75 (6 * c + h) = nI (min (f h) ((C c).getD h 0)) := by
            rw [hF 75 (by decide), hm c h hc6 hhl]
            unfold mlV
            rw [hf]
          generalize hvv : (C c).getD h 0 = vv at *
          have hme : mel f (C c) (h + 1) = (if f h < vv then (mel f (C c) h).1 ++ [vv - f h] else (mel f (C c) h).1, (mel f (C c) h).2 + min (f h) vv) := by rw [← hvv]; rfl
          have j12 : ∀ (N' : Mem) (a : Nat) (v' : Option Value), (mel f (C c) h).1.length + a = (mel f (C c) (h + 1)).1.length → Fr [73, 74, 79] M N' → N' 73 = N0 73 → (∀ q, q < 6 * c ∨ 6 * c + 6 ≤ q → N' 74 q = N0 74 q) → (∀ j, j < (mel f (C c) (h + 1)).1.length → N' 74 (6 * c + j) = nI ((mel f (C c) (h + 1)).1.getD j 0)) → (∀ j, h + 1 ≤ j → j < (C c).length → N' 74 (6 * c + j) = nI ((C c).getD j 0)) → N' 79 = upd (M 79) w (nI (smN wt c + (mel f (C c) (h + 1)).2)) → WP 140 [] 12 [some (.ref 62), some (.int (nI w)), v2, v3, some (.int k4), some (.int (nI c)), some (.int (nI (mel f (C c) h).1.length)), some (.int (nI h)), v'] [.int (nI a), .int (nI (mel f (C c) h).1.length)] N' Q := by
            intro N' a v' ha b1 b2 b3 b4 b5 b6
            simp only [B_140_0, B_140_3, B_140_4, B_140_5, B_140_6, B_140_7, B_140_8, B_140_11, B_140_12, B_140_13, B_140_14, cm, q_add, r_iconst_p, r_iconst_m, r_bipush_p, r_bipush_m, r_sipush_p, r_sipush_m, r_ldc_p, r_ldc_m, r_ldc_w_p, r_ldc_w_m, r_lconst_p, r_lconst_m, r_ldc2_w_p, r_ldc2_w_m, r_iload, r_iload_n, r_lload, r_lload_n, r_aload, r_aload_n, r_istore, r_istore_n, r_astore, r_astore_n, r_lstore, r_lstore_n, r_iinc_p, r_iinc_m, r_iadd, r_isub, r_imul, r_iand, r_ior, r_ixor, r_ishl, r_ishr, r_iushr, r_idiv, r_irem, r_ladd, r_lsub, r_lmul, r_ldiv, r_lrem, r_lshl, r_lcmp, r_i2l, r_i2b, r_i2s, r_dup_i, r_dup_r, r_dup2_ii, r_dup2_ir, r_dup2_l, r_pop, r_getfield, r_putfield, r_iaload, r_iastore, r_aaload, r_arraylength, r_if_eq, r_icmp_eq, r_if_ne, r_icmp_ne, r_if_lt, r_icmp_lt, r_if_ge, r_icmp_ge, r_if_gt, r_icmp_gt, r_if_le, r_icmp_le, r_goto, r_switch, r_ireturn0, r_ireturn1, r_lreturn, r_areturn, r_return, r_inv0, r_inv1, r_inv2, r_inv3, r_inv4, r_inv5, r_min, r_max, r_acopy, onI_s, onL_s, onR_s, onO_s, fv0, fv1, fv2, fv3, fp1, fp20, fp21, fp3, tl_s, tl_n, lg0, lg1, lg2, lg3, lg4, lg5, lg6, lg7, lg8, lg9, lg10, lg11, lg12, lg13, lg14, lg15, lg16, lg17, ls0, ls1, ls2, ls3, ls4, ls5, ls6, ls7, ls8, ls9, ls10, ls11, ls12, ls13, ls14, ls15, ls16, ls17, lk0, lk1, lk2, lk3, lk4, lk5, lk6, lk7, lk8, lk9, lk10, lk11, lk12, lk13, lk14, lk15, lk16, lk17, kl_n, kl_i, kl_r, kl_l, Nat.reduceAdd, Nat.reduceLeDiff, not_false_eq_true, r_ins0, r_ins1, r_ins2, r_ins3, r_ins4, r_ins5]
            rw [ha]
            exact ihm (h + 1) N' v' (by omega) b1 b2 b3 b4 b5 b6
          rw [B_140_10]
          simp only [B_140_0, B_140_3, B_140_4, B_140_5, B_140_6, B_140_7, B_140_8, B_140_11, B_140_14, cm, nI_clamp (show c < 2 ^ 31 by omega), h73c, q_add, q_mul, nI_clamp (show 6 * c + h < 2 ^ 31 by omega), nI_clamp (show 6 * c + (mel f (C c) h).1.length < 2 ^ 31 by omega), nI_clamp (show w < 2 ^ 31 by omega), hhi h (Nat.le_refl _) hhl, h75, hvv, q_sub (Nat.min_le_right (f h) vv), h79, u_eq, r_iconst_p, r_iconst_m, r_bipush_p, r_bipush_m, r_sipush_p, r_sipush_m, r_ldc_p, r_ldc_m, r_ldc_w_p, r_ldc_w_m, r_lconst_p, r_lconst_m, r_ldc2_w_p, r_ldc2_w_m, r_iload, r_iload_n, r_lload, r_lload_n, r_aload, r_aload_n, r_istore, r_istore_n, r_astore, r_astore_n, r_lstore, r_lstore_n, r_iinc_p, r_iinc_m, r_iadd, r_isub, r_imul, r_iand, r_ior, r_ixor, r_ishl, r_ishr, r_iushr, r_idiv, r_irem, r_ladd, r_lsub, r_lmul, r_ldiv, r_lrem, r_lshl, r_lcmp, r_i2l, r_i2b, r_i2s, r_dup_i, r_dup_r, r_dup2_ii, r_dup2_ir, r_dup2_l, r_pop, r_getfield, r_putfield, r_iaload, r_iastore, r_aaload, r_arraylength, r_if_eq, r_icmp_eq, r_if_ne, r_icmp_ne, r_if_lt, r_icmp_lt, r_if_ge, r_icmp_ge, r_if_gt, r_icmp_gt, r_if_le, r_icmp_le, r_goto, r_switch, r_ireturn0, r_ireturn1, r_lreturn, r_areturn, r_return, r_inv0, r_inv1, r_inv2, r_inv3, r_inv4, r_inv5, r_min, r_max, r_acopy, onI_s, onL_s, onR_s, onO_s, fv0, fv1, fv2, fv3, fp1, fp20, fp21, fp3, tl_s, tl_n, lg0, lg1, lg2, lg3, lg4, lg5, lg6, lg7, lg8, lg9, lg10, lg11, lg12, lg13, lg14, lg15, lg16, lg17, ls0, ls1, ls2, ls3, ls4, ls5, ls6, ls7, ls8, ls9, ls10, ls11, ls12, ls13, ls14, ls15, ls16, ls17, lk0, lk1, lk2, lk3, lk4, lk5, lk6, lk7, lk8, lk9, lk10, lk11, lk12, lk13, lk14, lk15, lk16, lk17, kl_n, kl_i, kl_r, kl_l, Nat.reduceAdd, Nat.reduceLeDiff, not_false_eq_true, r_ins0, r_ins1, r_ins2, r_ins3, r_ins4, r_ins5]
          rw [inb_n (c := 73) (n := 6) rfl (by omega) (by omega), brc_neg (nI_ge (by omega) (by omega)), inb_n (c := 74) (n := 36) rfl (by omega) (by omega), inb_n (c := 75) (n := 36) rfl (by omega) (by omega), inb_n (c := 79) (n := 24) rfl (by omega) (by omega), inb_n (c := 74) (n := 36) rfl (by omega) (by omega), q_le (by omega) (by omega)]
          refine ⟨hc6, by omega, by omega, hw, by omega, hw, by omega, ?_⟩
          have Fq : Fr [73, 74, 79] M (stM (stM N 79 w (nI (smN wt c + (mel f (C c) h).2 + min (f h) vv))) 74 (6 * c + (mel f (C c) h).1.length) (nI (vv - min (f h) vv))) := (hF.st (by decide)).st (by decide)
          have o3 : ∀ q, q < 6 * c ∨ 6 * c + 6 ≤ q → stM (stM N 79 w (nI (smN wt c + (mel f (C c) h).2 + min (f h) vv))) 74 (6 * c + (mel f (C c) h).1.length) (nI (vv - min (f h) vv)) 74 q = N0 74 q := fun q hq => by
            rw [sm_eq, u_ne (by omega), sm_ne (by decide)]
            exact ho q hq
          have o5 : ∀ j, h + 1 ≤ j → j < (C c).length → stM (stM N 79 w (nI (smN wt c + (mel f (C c) h).2 + min (f h) vv))) 74 (6 * c + (mel f (C c) h).1.length) (nI (vv - min (f h) vv)) 74 (6 * c + j) = nI ((C c).getD j 0) := fun j h1 h2 => by
            rw [sm_eq, u_ne (by omega), sm_ne (by decide)]
            exact hhi j (by omega) h2
          have o6 : stM (stM N 79 w (nI (smN wt c + (mel f (C c) h).2 + min (f h) vv))) 74 (6 * c + (mel f (C c) h).1.length) (nI (vv - min (f h) vv)) 79 = upd (M 79) w (nI (smN wt c + (mel f (C c) (h + 1)).2)) := by
            rw [sm_ne (by decide), sm_eq, h79, hme]
            funext j
            simp only [u_if, Nat.add_assoc]
            split <;> rfl
          have o2 : stM (stM N 79 w (nI (smN wt c + (mel f (C c) h).2 + min (f h) vv))) 74 (6 * c + (mel f (C c) h).1.length) (nI (vv - min (f h) vv)) 73 = N0 73 := by rw [sm_ne (by decide), sm_ne (by decide), h73]
          refine brc_i (fun hz => ?_) (fun hz => ?_)
          · have hn : ¬ f h < vv := by omega
            have e1 : (mel f (C c) (h + 1)).1 = (mel f (C c) h).1 := by rw [hme, if_neg hn]
            refine j12 _ 0 _ (by rw [e1]; rfl) Fq o2 o3 (fun j hj => ?_) o5 o6
            rw [e1] at hj ⊢
            rw [sm_eq, u_ne (by omega), sm_ne (by decide)]
            exact hlo j hj
          · have hn : f h < vv := by omega
            have e1 : (mel f (C c) (h + 1)).1 = (mel f (C c) h).1 ++ [vv - f h] := by rw [hme, if_pos hn]
            refine j12 _ 1 _ (by rw [e1, List.length_append]; rfl) Fq o2 o3 (fun j hj => ?_) o5 o6
            rw [e1] at hj ⊢
            rw [List.length_append, List.length_singleton] at hj
            rw [sm_eq, u_if, List.getD_eq_getElem?_getD]
            by_cases e : j = (mel f (C c) h).1.length
            · rw [if_pos (by omega), e, List.getElem?_append_right (Nat.le_refl _), Nat.sub_self, show vv - min (f h) vv = vv - f h by omega]
              rfl
            · rw [if_neg (by omega), List.getElem?_append_left (by omega), ← List.getD_eq_getElem?_getD, sm_ne (by decide)]
              exact hlo j (by omega)
      rw [B_140_9]
      simp only [B_140_0, B_140_3, B_140_4, B_140_5, B_140_6, B_140_7, B_140_8, B_140_11, B_140_12, B_140_13, B_140_14, cm, r_iconst_p, r_iconst_m, r_bipush_p, r_bipush_m, r_sipush_p, r_sipush_m, r_ldc_p, r_ldc_m, r_ldc_w_p, r_ldc_w_m, r_lconst_p, r_lconst_m, r_ldc2_w_p, r_ldc2_w_m, r_iload, r_iload_n, r_lload, r_lload_n, r_aload, r_aload_n, r_istore, r_istore_n, r_astore, r_astore_n, r_lstore, r_lstore_n, r_iinc_p, r_iinc_m, r_iadd, r_isub, r_imul, r_iand, r_ior, r_ixor, r_ishl, r_ishr, r_iushr, r_idiv, r_irem, r_ladd, r_lsub, r_lmul, r_ldiv, r_lrem, r_lshl, r_lcmp, r_i2l, r_i2b, r_i2s, r_dup_i, r_dup_r, r_dup2_ii, r_dup2_ir, r_dup2_l, r_pop, r_getfield, r_putfield, r_iaload, r_iastore, r_aaload, r_arraylength, r_if_eq, r_icmp_eq, r_if_ne, r_icmp_ne, r_if_lt, r_icmp_lt, r_if_ge, r_icmp_ge, r_if_gt, r_icmp_gt, r_if_le, r_icmp_le, r_goto, r_switch, r_ireturn0, r_ireturn1, r_lreturn, r_areturn, r_return, r_inv0, r_inv1, r_inv2, r_inv3, r_inv4, r_inv5, r_min, r_max, r_acopy, onI_s, onL_s, onR_s, onO_s, fv0, fv1, fv2, fv3, fp1, fp20, fp21, fp3, tl_s, tl_n, lg0, lg1, lg2, lg3, lg4, lg5, lg6, lg7, lg8, lg9, lg10, lg11, lg12, lg13, lg14, lg15, lg16, lg17, ls0, ls1, ls2, ls3, ls4, ls5, ls6, ls7, ls8, ls9, ls10, ls11, ls12, ls13, ls14, ls15, ls16, ls17, lk0, lk1, lk2, lk3, lk4, lk5, lk6, lk7, lk8, lk9, lk10, lk11, lk12, lk13, lk14, lk15, lk16, lk17, kl_n, kl_i, kl_r, kl_l, Nat.reduceAdd, Nat.reduceLeDiff, not_false_eq_true, r_ins0, r_ins1, r_ins2, r_ins3, r_ins4, r_ins5]
      rw [brc_neg (nI_ge (by omega) (by omega))]
      exact inner _ 0 N0 v' (Nat.zero_add _) hF0 rfl (fun _ _ => rfl) (fun j hj => absurd hj (Nat.not_lt_zero j)) (fun j _ hj => by have := (hR0 c hc6).2 j; rw [hmc] at this; exact this hj) h790
  simp only [B_140_0, B_140_3, B_140_4, B_140_5, B_140_6, B_140_7, B_140_8, B_140_11, B_140_12, B_140_13, B_140_14, cm, nI_clamp (show w < 2 ^ 31 by omega), r_iconst_p, r_iconst_m, r_bipush_p, r_bipush_m, r_sipush_p, r_sipush_m, r_ldc_p, r_ldc_m, r_ldc_w_p, r_ldc_w_m, r_lconst_p, r_lconst_m, r_ldc2_w_p, r_ldc2_w_m, r_iload, r_iload_n, r_lload, r_lload_n, r_aload, r_aload_n, r_istore, r_istore_n, r_astore, r_astore_n, r_lstore, r_lstore_n, r_iinc_p, r_iinc_m, r_iadd, r_isub, r_imul, r_iand, r_ior, r_ixor, r_ishl, r_ishr, r_iushr, r_idiv, r_irem, r_ladd, r_lsub, r_lmul, r_ldiv, r_lrem, r_lshl, r_lcmp, r_i2l, r_i2b, r_i2s, r_dup_i, r_dup_r, r_dup2_ii, r_dup2_ir, r_dup2_l, r_pop, r_getfield, r_putfield, r_iaload, r_iastore, r_aaload, r_arraylength, r_if_eq, r_icmp_eq, r_if_ne, r_icmp_ne, r_if_lt, r_icmp_lt, r_if_ge, r_icmp_ge, r_if_gt, r_icmp_gt, r_if_le, r_icmp_le, r_goto, r_switch, r_ireturn0, r_ireturn1, r_lreturn, r_areturn, r_return, r_inv0, r_inv1, r_inv2, r_inv3, r_inv4, r_inv5, r_min, r_max, r_acopy, onI_s, onL_s, onR_s, onO_s, fv0, fv1, fv2, fv3, fp1, fp20, fp21, fp3, tl_s, tl_n, lg0, lg1, lg2, lg3, lg4, lg5, lg6, lg7, lg8, lg9, lg10, lg11, lg12, lg13, lg14, lg15, lg16, lg17, ls0, ls1, ls2, ls3, ls4, ls5, ls6, ls7, ls8, ls9, ls10, ls11, ls12, ls13, ls14, ls15, ls16, ls17, lk0, lk1, lk2, lk3, lk4, lk5, lk6, lk7, lk8, lk9, lk10, lk11, lk12, lk13, lk14, lk15, lk16, lk17, kl_n, kl_i, kl_r, kl_l, Nat.reduceAdd, Nat.reduceLeDiff, not_false_eq_true, r_ins0, r_ins1, r_ins2, r_ins3, r_ins4, r_ins5]
  rw [inb_n (n := 24) rfl (by omega) (by omega)]
  refine ⟨hw, outer 6 0 _ u v v' (by omega) (Fr.rf.st (by decide)) ?_ ?_⟩
  · rw [mix_0]
    exact H.ne (by decide) (by decide)
  · rw [sm_eq]; rfl
/-- a week's melting -/
theorem s_melting {ne gn cv w : Nat} {ek ew ec : Nat → Nat} (H : RG M 73 74 C) (hC : okC6 C) (hw : w < 24) (HE : EvM M ne ek ew ec) (hg : M 62 13 = nI gn) (hg2 : gn < 256) (hv : M 62 14 = ix cv) (hv2 : cv ≤ 6) :
    Ct 140 [.ref 62, .int (nI w)] M (fun r N => r = none ∧ Fr [73, 74, 75, 79] M N ∧ RG N 73 74 (mlC C (swF (wea ek ew ec ne gn cv) w) ((wea ek ew ec ne gn cv).1.testBit w) ((wea ek ew ec ne gn cv).2.1.testBit w)) ∧ N 79 = upd (M 79) w (nI (mlW C (swF (wea ek ew ec ne gn cv) w) ((wea ek ew ec ne gn cv).1.testBit w) ((wea ek ew ec ne gn cv).2.1.testBit w)))) := by
  simp only [E_140, B_140_0, B_140_3, B_140_4, B_140_5, B_140_6, B_140_7, B_140_11, B_140_12, B_140_13, B_140_14, cm, r_iconst_p, r_iconst_m, r_bipush_p, r_bipush_m, r_sipush_p, r_sipush_m, r_ldc_p, r_ldc_m, r_ldc_w_p, r_ldc_w_m, r_lconst_p, r_lconst_m, r_ldc2_w_p, r_ldc2_w_m, r_iload, r_iload_n, r_lload, r_lload_n, r_aload, r_aload_n, r_istore, r_istore_n, r_astore, r_astore_n, r_lstore, r_lstore_n, r_iinc_p, r_iinc_m, r_iadd, r_isub, r_imul, r_iand, r_ior, r_ixor, r_ishl, r_ishr, r_iushr, r_idiv, r_irem, r_ladd, r_lsub, r_lmul, r_ldiv, r_lrem, r_lshl, r_lcmp, r_i2l, r_i2b, r_i2s, r_dup_i, r_dup_r, r_dup2_ii, r_dup2_ir, r_dup2_l, r_pop, r_getfield, r_putfield, r_iaload, r_iastore, r_aaload, r_arraylength, r_if_eq, r_icmp_eq, r_if_ne, r_icmp_ne, r_if_lt, r_icmp_lt, r_if_ge, r_icmp_ge, r_if_gt, r_icmp_gt, r_if_le, r_icmp_le, r_goto, r_switch, r_ireturn0, r_ireturn1, r_lreturn, r_areturn, r_return, r_inv0, r_inv1, r_inv2, r_inv3, r_inv4, r_inv5, r_min, r_max, r_acopy, onI_s, onL_s, onR_s, onO_s, fv0, fv1, fv2, fv3, fp1, fp20, fp21, fp3, tl_s, tl_n, lg0, lg1, lg2, lg3, lg4, lg5, lg6, lg7, lg8, lg9, lg10, lg11, lg12, lg13, lg14, lg15, lg16, lg17, ls0, ls1, ls2, ls3, ls4, ls5, ls6, ls7, ls8, ls9, ls10, ls11, ls12, ls13, ls14, ls15, ls16, ls17, lk0, lk1, lk2, lk3, lk4, lk5, lk6, lk7, lk8, lk9, lk10, lk11, lk12, lk13, lk14, lk15, lk16, lk17, kl_n, kl_i, kl_r, kl_l, Nat.reduceAdd, Nat.reduceLeDiff, not_false_eq_true, r_ins0, r_ins1, r_ins2, r_ins3, r_ins4, r_ins5]
  refine ⟨trivial, by simp, (s_strawBy HE hg hg2 hv hv2 hw).mono ?_⟩
  rintro r N ⟨rfl, sb, rfl, hs, hb⟩
  simp only [B_140_0, B_140_3, B_140_4, B_140_5, B_140_6, B_140_7, B_140_11, B_140_12, B_140_13, B_140_14, cm, (s_isTold HE hg hg2 (show 0 < 2 by omega) hw).ct, (s_isTold HE hg hg2 (show 1 < 2 by omega) hw).ct, ← (wea_T (ek := ek) (ew := ew) (ec := ec) (ne := ne) (gn := gn) (cv := cv) w).1, ← (wea_T (ek := ek) (ew := ew) (ec := ec) (ne := ne) (gn := gn) (cv := cv) w).2, r_iconst_p, r_iconst_m, r_bipush_p, r_bipush_m, r_sipush_p, r_sipush_m, r_ldc_p, r_ldc_m, r_ldc_w_p, r_ldc_w_m, r_lconst_p, r_lconst_m, r_ldc2_w_p, r_ldc2_w_m, r_iload, r_iload_n, r_lload, r_lload_n, r_aload, r_aload_n, r_istore, r_istore_n, r_astore, r_astore_n, r_lstore, r_lstore_n, r_iinc_p, r_iinc_m, r_iadd, r_isub, r_imul, r_iand, r_ior, r_ixor, r_ishl, r_ishr, r_iushr, r_idiv, r_irem, r_ladd, r_lsub, r_lmul, r_ldiv, r_lrem, r_lshl, r_lcmp, r_i2l, r_i2b, r_i2s, r_dup_i, r_dup_r, r_dup2_ii, r_dup2_ir, r_dup2_l, r_pop, r_getfield, r_putfield, r_iaload, r_iastore, r_aaload, r_arraylength, r_if_eq, r_icmp_eq, r_if_ne, r_icmp_ne, r_if_lt, r_icmp_lt, r_if_ge, r_icmp_ge, r_if_gt, r_icmp_gt, r_if_le, r_icmp_le, r_goto, r_switch, r_ireturn0, r_ireturn1, r_lreturn, r_areturn, r_return, r_inv0, r_inv1, r_inv2, r_inv3, r_inv4, r_inv5, r_min, r_max, r_acopy, onI_s, onL_s, onR_s, onO_s, fv0, fv1, fv2, fv3, fp1, fp20, fp21, fp3, tl_s, tl_n, lg0, lg1, lg2, lg3, lg4, lg5, lg6, lg7, lg8, lg9, lg10, lg11, lg12, lg13, lg14, lg15, lg16, lg17, ls0, ls1, ls2, ls3, ls4, ls5, ls6, ls7, ls8, ls9, ls10, ls11, ls12, ls13, ls14, ls15, ls16, ls17, lk0, lk1, lk2, lk3, lk4, lk5, lk6, lk7, lk8, lk9, lk10, lk11, lk12, lk13, lk14, lk15, lk16, lk17, kl_n, kl_i, kl_r, kl_l, Nat.reduceAdd, Nat.reduceLeDiff, not_false_eq_true, r_ins0, r_ins1, r_ins2, r_ins3, r_ins4, r_ins5]
  refine ⟨trivial, by simp, trivial, by simp, ?_⟩
  refine s_melt1 (sw := swF (wea ek ew ec ne gn cv) w) H hC hs (fun c hc => by rw [hb c hc, wea_S hw (fun i => (HE.2.2.2 i).1) c]) ?_
  intro N1 u v v' F1 h1
  refine s_melt2 (H.fr F1 (by decide) (by decide)) hC hw h1 ?_ u v v' _
  intro N2 F2 R2 h79
  exact ⟨rfl, F1.tr F2 (by decide) (by decide), R2, by rw [h79, F1 79 (by decide)]⟩
end RS
