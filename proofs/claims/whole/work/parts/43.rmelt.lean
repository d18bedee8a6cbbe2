/-! the reference: melting -/
section RS
variable {M : Mem} {Q : Option Value → Mem → Prop} {C : Col}
set_option maxHeartbeats 1000000 in
theorem s_freeOf {c h sb : Nat} {sw : Nat → Bool} (H : RG M 73 74 C) (hC : okC6 C) (hc : c < 6) (hh : h < (C c).length) (hs : sb < 2 ^ 6) (hb : sb.testBit c = sw c) : Ct 139 [.ref 62, .int (nI c), .int (nI h), .int (nI sb)] M Q = Q (some (.int (nI (fre C sw c h)))) M := by
  refine Ev.ct (Ev.of ?_) Q
  have hl := (hC c).1
  have hl1 := (hC (c - 1)).1
  have hl2 := (hC (c + 1)).1
  unfold fre
  generalize ho : (if h + 1 = (C c).length ∧ sw c = false then 1 else 0) = o
  have ho1 : o ≤ 1 := by rw [← ho]; split <;> omega
  generalize hf : (if 0 < c ∧ (C (c - 1)).length ≤ h then 1 else 0) = fl
  have hf1 : fl ≤ 1 := by rw [← hf]; split <;> omega
  generalize hr : (if c < 5 ∧ (C (c + 1)).length ≤ h then 1 else 0) = fr
  have j4 : ∀ v, WP 139 [] 4 [some (.ref 62), some (.int (nI c)), some (.int (nI h)), some (.int (nI sb)), v] [.int (nI fl), .int (nI o)] M (fun v N => v = some (.int (nI (o + fl + fr))) ∧ N = M) := by
    intro v
    simp only [B_139_0, B_139_1, B_139_2, B_139_3, B_139_4, B_139_5, cm, q_add, nI_clamp (show c + 1 < 2 ^ 31 by omega), r_iconst_p, r_iconst_m, r_bipush_p, r_bipush_m, r_sipush_p, r_sipush_m, r_ldc_p, r_ldc_m, r_ldc_w_p, r_ldc_w_m, r_lconst_p, r_lconst_m, r_ldc2_w_p, r_ldc2_w_m, r_iload, r_iload_n, r_lload, r_lload_n, r_aload, r_aload_n, r_istore, r_istore_n, r_astore, r_astore_n, r_lstore, r_lstore_n, r_iinc_p, r_iinc_m, r_iadd, r_isub, r_imul, r_iand, r_ior, r_ixor, r_ishl, r_ishr, r_iushr, r_idiv, r_irem, r_ladd, r_lsub, r_lmul, r_ldiv, r_lrem, r_lshl, r_lcmp, r_i2l, r_i2b, r_i2s, r_dup_i, r_dup_r, r_dup2_ii, r_dup2_ir, r_dup2_l, r_pop, r_getfield, r_putfield, r_iaload, r_iastore, r_aaload, r_arraylength, r_if_eq, r_icmp_eq, r_if_ne, r_icmp_ne, r_if_lt, r_icmp_lt, r_if_ge, r_icmp_ge, r_if_gt, r_icmp_gt, r_if_le, r_icmp_le, r_goto, r_switch, r_ireturn0, r_ireturn1, r_lreturn, r_areturn, r_return, r_inv0, r_inv1, r_inv2, r_inv3, r_inv4, r_inv5, r_min, r_max, r_acopy, onI_s, onL_s, onR_s, onO_s, fv0, fv1, fv2, fv3, fp1, fp20, fp21, fp3, tl_s, tl_n, lg0, lg1, lg2, lg3, lg4, lg5, lg6, lg7, lg8, lg9, lg10, lg11, lg12, lg13, lg14, lg15, lg16, lg17, ls0, ls1, ls2, ls3, ls4, ls5, ls6, ls7, ls8, ls9, ls10, ls11, ls12, ls13, ls14, ls15, ls16, ls17, lk0, lk1, lk2, lk3, lk4, lk5, lk6, lk7, lk8, lk9, lk10, lk11, lk12, lk13, lk14, lk15, lk16, lk17, kl_n, kl_i, kl_r, kl_l, Nat.reduceAdd, Nat.reduceLeDiff, not_false_eq_true, r_ins0, r_ins1, r_ins2, r_ins3, r_ins4, r_ins5]
    rw [q_le (by omega) (by omega)]
    have fin : ∀ x, x = fr → WP 139 [] 6 [some (.ref 62), some (.int (nI c)), some (.int (nI h)), some (.int (nI sb)), some (.int (nI (o + fl)))] [.int (nI x), .int (nI (o + fl))] M (fun v N => v = some (.int (nI (o + fl + fr))) ∧ N = M) := by
      intro x hx
      subst hx
      simp only [B_139_0, B_139_1, B_139_2, B_139_3, B_139_4, B_139_5, B_139_6, cm, q_add, r_iconst_p, r_iconst_m, r_bipush_p, r_bipush_m, r_sipush_p, r_sipush_m, r_ldc_p, r_ldc_m, r_ldc_w_p, r_ldc_w_m, r_lconst_p, r_lconst_m, r_ldc2_w_p, r_ldc2_w_m, r_iload, r_iload_n, r_lload, r_lload_n, r_aload, r_aload_n, r_istore, r_istore_n, r_astore, r_astore_n, r_lstore, r_lstore_n, r_iinc_p, r_iinc_m, r_iadd, r_isub, r_imul, r_iand, r_ior, r_ixor, r_ishl, r_ishr, r_iushr, r_idiv, r_irem, r_ladd, r_lsub, r_lmul, r_ldiv, r_lrem, r_lshl, r_lcmp, r_i2l, r_i2b, r_i2s, r_dup_i, r_dup_r, r_dup2_ii, r_dup2_ir, r_dup2_l, r_pop, r_getfield, r_putfield, r_iaload, r_iastore, r_aaload, r_arraylength, r_if_eq, r_icmp_eq, r_if_ne, r_icmp_ne, r_if_lt, r_icmp_lt, r_if_ge, r_icmp_ge, r_if_gt, r_icmp_gt, r_if_le, r_icmp_le, r_goto, r_switch, r_ireturn0, r_ireturn1, r_lreturn, r_areturn, r_return, r_inv0, r_inv1, r_inv2, r_inv3, r_inv4, r_inv5, r_min, r_max, r_acopy, onI_s, onL_s, onR_s, onO_s, fv0, fv1, fv2, fv3, fp1, fp20, fp21, fp3, tl_s, tl_n, lg0, lg1, lg2, lg3, lg4, lg5, lg6, lg7, lg8, lg9, lg10, lg11, lg12, lg13, lg14, lg15, lg16, lg17, ls0, ls1, ls2, ls3, ls4, ls5, ls6, ls7, ls8, ls9, ls10, ls11, ls12, ls13, ls14, ls15, ls16, ls17, lk0, lk1, lk2, lk3, lk4, lk5, lk6, lk7, lk8, lk9, lk10, lk11, lk12, lk13, lk14, lk15, lk16, lk17, kl_n, kl_i, kl_r, kl_l, Nat.reduceAdd, Nat.reduceLeDiff, not_false_eq_true, r_ins0, r_ins1, r_ins2, r_ins3, r_ins4, r_ins5]
      exact ⟨trivial, trivial⟩
    refine brc_i (fun h5 => fin 0 (by rw [← hr, if_neg (by omega)])) (fun h5 => ?_)
    rw [inb_n (n := 6) rfl (by omega) (by omega), (H (c + 1) (by omega)).1, q_lt (by omega) (by omega)]
    exact ⟨by omega, brc_i (fun h6 => fin 0 (by rw [← hr, if_neg (by omega)])) (fun h6 => fin 1 (by rw [← hr, if_pos (by omega)]))⟩
  have j2 : ∀ v, WP 139 [] 2 [some (.ref 62), some (.int (nI c)), some (.int (nI h)), some (.int (nI sb)), v] [.int (nI o)] M (fun v N => v = some (.int (nI (o + fl + fr))) ∧ N = M) := by
    intro v
    have j4' : ∀ x, fl = x → WP 139 [] 4 [some (.ref 62), some (.int (nI c)), some (.int (nI h)), some (.int (nI sb)), some (.int (nI o))] [.int (nI x), .int (nI o)] M (fun v N => v = some (.int (nI (o + fl + fr))) ∧ N = M) := by
      intro x hx
      rw [← hx]
      exact j4 _
    simp only [B_139_0, B_139_1, B_139_2, B_139_3, B_139_5, B_139_6, cm, r_iconst_p, r_iconst_m, r_bipush_p, r_bipush_m, r_sipush_p, r_sipush_m, r_ldc_p, r_ldc_m, r_ldc_w_p, r_ldc_w_m, r_lconst_p, r_lconst_m, r_ldc2_w_p, r_ldc2_w_m, r_iload, r_iload_n, r_lload, r_lload_n, r_aload, r_aload_n, r_istore, r_istore_n, r_astore, r_astore_n, r_lstore, r_lstore_n, r_iinc_p, r_iinc_m, r_iadd, r_isub, r_imul, r_iand, r_ior, r_ixor, r_ishl, r_ishr, r_iushr, r_idiv, r_irem, r_ladd, r_lsub, r_lmul, r_ldiv, r_lrem, r_lshl, r_lcmp, r_i2l, r_i2b, r_i2s, r_dup_i, r_dup_r, r_dup2_ii, r_dup2_ir, r_dup2_l, r_pop, r_getfield, r_putfield, r_iaload, r_iastore, r_aaload, r_arraylength, r_if_eq, r_icmp_eq, r_if_ne, r_icmp_ne, r_if_lt, r_icmp_lt, r_if_ge, r_icmp_ge, r_if_gt, r_icmp_gt, r_if_le, r_icmp_le, r_goto, r_switch, r_ireturn0, r_ireturn1, r_lreturn, r_areturn, r_return, r_inv0, r_inv1, r_inv2, r_inv3, r_inv4, r_inv5, r_min, r_max, r_acopy, onI_s, onL_s, onR_s, onO_s, fv0, fv1, fv2, fv3, fp1, fp20, fp21, fp3, tl_s, tl_n, lg0, lg1, lg2, lg3, lg4, lg5, lg6, lg7, lg8, lg9, lg10, lg11, lg12, lg13, lg14, lg15, lg16, lg17, ls0, ls1, ls2, ls3, ls4, ls5, ls6, ls7, ls8, ls9, ls10, ls11, ls12, ls13, ls14, ls15, ls16, ls17, lk0, lk1, lk2, lk3, lk4, lk5, lk6, lk7, lk8, lk9, lk10, lk11, lk12, lk13, lk14, lk15, lk16, lk17, kl_n, kl_i, kl_r, kl_l, Nat.reduceAdd, Nat.reduceLeDiff, not_false_eq_true, r_ins0, r_ins1, r_ins2, r_ins3, r_ins4, r_ins5]
    rw [q_le (by omega) (by omega)]
    refine brc_i (fun h5 => j4' 0 (by rw [← hf, if_neg (by omega)])) (fun h5 => ?_)
    rw [q_sub (by omega), inb_n (n := 6) rfl (by omega) (by omega), nI_clamp (by omega), (H (c - 1) (by omega)).1, q_lt (by omega) (by omega)]
    exact ⟨by omega, brc_i (fun h6 => j4' 0 (by rw [← hf, if_neg (by omega)])) (fun h6 => j4' 1 (by rw [← hf, if_pos (by omega)]))⟩
  have j2' : ∀ x, o = x → WP 139 [] 2 [some (.ref 62), some (.int (nI c)), some (.int (nI h)), some (.int (nI sb)), none] [.int (nI x)] M (fun v N => v = some (.int (nI (o + fl + fr))) ∧ N = M) := by
    intro x hx
    rw [← hx]
    exact j2 _
  simp only [E_139, B_139_0, B_139_1, B_139_3, B_139_4, B_139_5, B_139_6, cm, nI_clamp (show c < 2 ^ 31 by omega), (H c hc).1, s_isIn (show sb < 2 ^ 31 by omega) (show c < 31 by omega), q_sub (show 1 ≤ (C c).length by omega), r_iconst_p, r_iconst_m, r_bipush_p, r_bipush_m, r_sipush_p, r_sipush_m, r_ldc_p, r_ldc_m, r_ldc_w_p, r_ldc_w_m, r_lconst_p, r_lconst_m, r_ldc2_w_p, r_ldc2_w_m, r_iload, r_iload_n, r_lload, r_lload_n, r_aload, r_aload_n, r_istore, r_istore_n, r_astore, r_astore_n, r_lstore, r_lstore_n, r_iinc_p, r_iinc_m, r_iadd, r_isub, r_imul, r_iand, r_ior, r_ixor, r_ishl, r_ishr, r_iushr, r_idiv, r_irem, r_ladd, r_lsub, r_lmul, r_ldiv, r_lrem, r_lshl, r_lcmp, r_i2l, r_i2b, r_i2s, r_dup_i, r_dup_r, r_dup2_ii, r_dup2_ir, r_dup2_l, r_pop, r_getfield, r_putfield, r_iaload, r_iastore, r_aaload, r_arraylength, r_if_eq, r_icmp_eq, r_if_ne, r_icmp_ne, r_if_lt, r_icmp_lt, r_if_ge, r_icmp_ge, r_if_gt, r_icmp_gt, r_if_le, r_icmp_le, r_goto, r_switch, r_ireturn0, r_ireturn1, r_lreturn, r_areturn, r_return, r_inv0, r_inv1, r_inv2, r_inv3, r_inv4, r_inv5, r_min, r_max, r_acopy, onI_s, onL_s, onR_s, onO_s, fv0, fv1, fv2, fv3, fp1, fp20, fp21, fp3, tl_s, tl_n, lg0, lg1, lg2, lg3, lg4, lg5, lg6, lg7, lg8, lg9, lg10, lg11, lg12, lg13, lg14, lg15, lg16, lg17, ls0, ls1, ls2, ls3, ls4, ls5, ls6, ls7, ls8, ls9, ls10, ls11, ls12, ls13, ls14, ls15, ls16, ls17, lk0, lk1, lk2, lk3, lk4, lk5, lk6, lk7, lk8, lk9, lk10, lk11, lk12, lk13, lk14, lk15, lk16, lk17, kl_n, kl_i, kl_r, kl_l, Nat.reduceAdd, Nat.reduceLeDiff, not_false_eq_true, r_ins0, r_ins1, r_ins2, r_ins3, r_ins4, r_ins5]
  rw [inb_n (n := 6) rfl (by omega) (by omega), q_eq (show h < 2 ^ 31 by omega) (by omega), hb]
  refine ⟨hc, brc_i (fun h5 => j2' 0 (by rw [← ho, if_neg (by omega)])) (fun h5 => ⟨by simp, ?_⟩)⟩
  cases hq : sw c with
  | true => rw [rT', n10, brc_nF]; exact j2' 0 (by rw [← ho, if_neg (fun q => by rw [hq] at q; cases q.2)])
  | false => rw [rF', brc_neg (fun q => q rfl)]; exact j2' 1 (by rw [← ho, if_pos ⟨by omega, hq⟩])
/-- phase 1: what melts of each block -/
def mlV (C : Col) (sw : Nat → Bool) (dr th : Bool) (c h : Nat) : Nat := min (los C sw dr th c h) ((C c).getD h 0)
theorem fre_le (C : Col) (sw : Nat → Bool) (c j : Nat) : fre C sw c j ≤ 3 := by
  unfold fre
  have a1 : (if j + 1 = (C c).length ∧ sw c = false then 1 else 0) ≤ 1 := by split <;> omega
  have a2 : (if 0 < c ∧ (C (c - 1)).length ≤ j then 1 else 0) ≤ 1 := by split <;> omega
  have a3 : (if c < 5 ∧ (C (c + 1)).length ≤ j then 1 else 0) ≤ 1 := by split <;> omega
  omega
set_option maxHeartbeats 2000000 in
theorem s_melt1 {sb w : Nat} {sw : Nat → Bool} {dr th : Bool} (H : RG M 73 74 C) (hC : okC6 C) (hs : sb < 2 ^ 6) (hb : ∀ c, c < 6 → sb.testBit c = sw c)
    (K : ∀ (N : Mem) (u v v' : Option Value), Fr [75] M N → (∀ c h, c < 6 → h < (C c).length → N 75 (6 * c + h) = nI (mlV C sw dr th c h)) → WP 140 [] 8 [some (.ref 62), some (.int (nI w)), some (.int (nI sb)), some (.int (nI dr.toNat)), some (.int (nI th.toNat)), some (.int (nI 6)), u, v, v'] [] N Q) :
    WP 140 [] 1 [some (.ref 62), some (.int (nI w)), some (.int (nI sb)), some (.int (nI dr.toNat)), some (.int (nI th.toNat)), some (.int (nI 0)), none, none, none] [] M Q := by
  have outer : ∀ (n c : Nat) (N : Mem) (u v v' : Option Value), c + n = 6 → Fr [75] M N → (∀ d h, d < c → h < (C d).length → N 75 (6 * d + h) = nI (mlV C sw dr th d h)) → WP 140 [] 1 [some (.ref 62), some (.int (nI w)), some (.int (nI sb)), some (.int (nI dr.toNat)), some (.int (nI th.toNat)), some (.int (nI c)), u, v, v'] [] N Q := by
    intro n
    induction n with
    | zero =>
      intro c N u v v' hc hF hM
      obtain rfl : c = 6 := by omega
      rw [B_140_1]
      simp only [B_140_0, B_140_3, B_140_4, B_140_5, B_140_6, B_140_7, B_140_11, B_140_12, B_140_13, B_140_14, cm, r_iconst_p, r_iconst_m, r_bipush_p, r_bipush_m, r_sipush_p, r_sipush_m, r_ldc_p, r_ldc_m, r_ldc_w_p, r_ldc_w_m, r_lconst_p, r_lconst_m, r_ldc2_w_p, r_ldc2_w_m, r_iload, r_iload_n, r_lload, r_lload_n, r_aload, r_aload_n, r_istore, r_istore_n, r_astore, r_astore_n, r_lstore, r_lstore_n, r_iinc_p, r_iinc_m, r_iadd, r_isub, r_imul, r_iand, r_ior, r_ixor, r_ishl, r_ishr, r_iushr, r_idiv, r_irem, r_ladd, r_lsub, r_lmul, r_ldiv, r_lrem, r_lshl, r_lcmp, r_i2l, r_i2b, r_i2s, r_dup_i, r_dup_r, r_dup2_ii, r_dup2_ir, r_dup2_l, r_pop, r_getfield, r_putfield, r_iaload, r_iastore, r_aaload, r_arraylength, r_if_eq, r_icmp_eq, r_if_ne, r_icmp_ne, r_if_lt, r_icmp_lt, r_if_ge, r_icmp_ge, r_if_gt, r_icmp_gt, r_if_le, r_icmp_le, r_goto, r_switch, r_ireturn0, r_ireturn1, r_lreturn, r_areturn, r_return, r_inv0, r_inv1, r_inv2, r_inv3, r_inv4, r_inv5, r_min, r_max, r_acopy, onI_s, onL_s, onR_s, onO_s, fv0, fv1, fv2, fv3, fp1, fp20, fp21, fp3, tl_s, tl_n, lg0, lg1, lg2, lg3, lg4, lg5, lg6, lg7, lg8, lg9, lg10, lg11, lg12, lg13, lg14, lg15, lg16, lg17, ls0, ls1, ls2, ls3, ls4, ls5, ls6, ls7, ls8, ls9, ls10, ls11, ls12, ls13, ls14, ls15, ls16, ls17, lk0, lk1, lk2, lk3, lk4, lk5, lk6, lk7, lk8, lk9, lk10, lk11, lk12, lk13, lk14, lk15, lk16, lk17, kl_n, kl_i, kl_r, kl_l, Nat.reduceAdd, Nat.reduceLeDiff, not_false_eq_true, r_ins0, r_ins1, r_ins2, r_ins3, r_ins4, r_ins5]
      rw [brc_pos (Int32.le_refl _)]
      exact K N u v v' hF hM
    | succ n ih =>
      intro c N u v v' hc hF hM
      have hc6 : c < 6 := by omega
      have hl := (hC c).1
      have inner : ∀ (m h : Nat) (N : Mem) (v v' : Option Value), h + m = (C c).length → Fr [75] M N → (∀ d j, (d < c ∨ d = c ∧ j < h) → j < (C d).length → N 75 (6 * d + j) = nI (mlV C sw dr th d j)) → WP 140 [] 2 [some (.ref 62), some (.int (nI w)), some (.int (nI sb)), some (.int (nI dr.toNat)), some (.int (nI th.toNat)), some (.int (nI c)), some (.int (nI h)), v, v'] [] N Q := by
        intro m
        induction m with
        | zero =>
          intro h N v v' hh hF hM
          obtain rfl : h = (C c).length := by omega
          rw [B_140_2]
          simp only [B_140_0, B_140_7, B_140_8, B_140_11, B_140_12, B_140_13, B_140_14, cm, nI_clamp (show c < 2 ^ 31 by omega), hF 73 (by decide), (H c hc6).1, r_iconst_p, r_iconst_m, r_bipush_p, r_bipush_m, r_sipush_p, r_sipush_m, r_ldc_p, r_ldc_m, r_ldc_w_p, r_ldc_w_m, r_lconst_p, r_lconst_m, r_ldc2_w_p, r_ldc2_w_m, r_iload, r_iload_n, r_lload, r_lload_n, r_aload, r_aload_n, r_istore, r_istore_n, r_astore, r_astore_n, r_lstore, r_lstore_n, r_iinc_p, r_iinc_m, r_iadd, r_isub, r_imul, r_iand, r_ior, r_ixor, r_ishl, r_ishr, r_iushr, r_idiv, r_irem, r_ladd, r_lsub, r_lmul, r_ldiv, r_lrem, r_lshl, r_lcmp, r_i2l, r_i2b, r_i2s, r_dup_i, r_dup_r, r_dup2_ii, r_dup2_ir, r_dup2_l, r_pop, r_getfield, r_putfield, r_iaload, r_iastore, r_aaload, r_arraylength, r_if_eq, r_icmp_eq, r_if_ne, r_icmp_ne, r_if_lt, r_icmp_lt, r_if_ge, r_icmp_ge, r_if_gt, r_icmp_gt, r_if_le, r_icmp_le, r_goto, r_switch, r_ireturn0, r_ireturn1, r_lreturn, r_areturn, r_return, r_inv0, r_inv1, r_inv2, r_inv3, r_inv4, r_inv5, r_min, r_max, r_acopy, onI_s, onL_s, onR_s, onO_s, fv0, fv1, fv2, fv3, fp1, fp20, fp21, fp3, tl_s, tl_n, lg0, lg1, lg2, lg3, lg4, lg5, lg6, lg7, lg8, lg9, lg10, lg11, lg12, lg13, lg14, lg15, lg16, lg17, ls0, ls1, ls2, ls3, ls4, ls5, ls6, ls7, ls8, ls9, ls10, ls11, ls12, ls13, ls14, ls15, ls16, ls17, lk0, lk1, lk2, lk3, lk4, lk5, lk6, lk7, lk8, lk9, lk10, lk11, lk12, lk13, lk14, lk15, lk16, lk17, kl_n, kl_i, kl_r, kl_l, Nat.reduceAdd, Nat.reduceLeDiff, not_false_eq_true, r_ins0, r_ins1, r_ins2, r_ins3, r_ins4, r_ins5]
          rw [inb_n (n := 6) rfl (by omega) (by omega), brc_pos (Int32.le_refl _), q_add]
          refine ⟨hc6, ih (c + 1) N _ _ _ (by omega) hF (fun d j hd hj => hM d j ?_ hj)⟩
          by_cases e : d = c
          · subst e; exact Or.inr ⟨rfl, hj⟩
          · exact Or.inl (by omega)
        | succ m ihm =>
          intro h N v v' hh hF hM
          have hhl : h < (C c).length := by omega
          have hf3 := fre_le C sw c h
          have hR : RG N 73 74 C := H.fr hF (by decide) (by decide)
          have hv9 := getD_le (hC c).2 h
          generalize hfr : fre C sw c h = fr at *
          have j6 : ∀ (m1 m2 : Nat), m1 ≤ 1 → m2 ≤ 1 → fr / 2 + m1 + m2 = los C sw dr th c h → ∀ v', WP 140 [] 6 [some (.ref 62), some (.int (nI w)), some (.int (nI sb)), some (.int (nI dr.toNat)), some (.int (nI th.toNat)), some (.int (nI c)), some (.int (nI h)), some (.int (nI fr)), v'] [.int (nI m2), .int (nI m1)] N Q := by
            intro m1 m2 h1 h2 he v'
            simp only [B_140_0, B_140_3, B_140_4, B_140_5, B_140_6, B_140_7, B_140_8, B_140_11, B_140_12, B_140_13, B_140_14, cm, q_add, q_mul, pk_div (show fr < 2 ^ 31 by omega) (show 0 < 2 by omega) (show 2 < 2 ^ 31 by omega), nI_clamp (show 6 * c + h < 2 ^ 31 by omega), (hR c hc6).2 h hhl, s_lesser (show fr / 2 + (m1 + m2) < 2 ^ 31 by omega) (show (C c).getD h 0 < 2 ^ 31 by omega), r_iconst_p, r_iconst_m, r_bipush_p, r_bipush_m, r_sipush_p, r_sipush_m, r_ldc_p, r_ldc_m, r_ldc_w_p, r_ldc_w_m, r_lconst_p, r_lconst_m, r_ldc2_w_p, r_ldc2_w_m, r_iload, r_iload_n, r_lload, r_lload_n, r_aload, r_aload_n, r_istore, r_istore_n, r_astore, r_astore_n, r_lstore, r_lstore_n, r_iinc_p, r_iinc_m, r_iadd, r_isub, r_imul, r_iand, r_ior, r_ixor, r_ishl, r_ishr, r_iushr, r_idiv, r_irem, r_ladd, r_lsub, r_lmul, r_ldiv, r_lrem, r_lshl, r_lcmp, r_i2l, r_i2b, r_i2s, r_dup_i, r_dup_r, r_dup2_ii, r_dup2_ir, r_dup2_l, r_pop, r_getfield, r_putfield, r_iaload, r_iastore, r_aaload, r_arraylength, r_if_eq, r_icmp_eq, r_if_ne, r_icmp_ne, r_if_lt, r_icmp_lt, r_if_ge, r_icmp_ge, r_if_gt, r_icmp_gt, r_if_le, r_icmp_le, r_goto, r_switch, r_ireturn0, r_ireturn1, r_lreturn, r_areturn, r_return, r_inv0, r_inv1, r_inv2, r_inv3, r_inv4, r_inv5, r_min, r_max, r_acopy, onI_s, onL_s, onR_s, onO_s, fv0, fv1, fv2, fv3, fp1, fp20, fp21, fp3, tl_s, tl_n, lg0, lg1, lg2, lg3, lg4, lg5, lg6, lg7, lg8, lg9, lg10, lg11, lg12, lg13, lg14, lg15, lg16, lg17, ls0, ls1, ls2, ls3, ls4, ls5, ls6, ls7, ls8, ls9, ls10, ls11, ls12, ls13, ls14, ls15, ls16, ls17, lk0, lk1, lk2, lk3, lk4, lk5, lk6, lk7, lk8, lk9, lk10, lk11, lk12, lk13, lk14, lk15, lk16, lk17, kl_n, kl_i, kl_r, kl_l, Nat.reduceAdd, Nat.reduceLeDiff, not_false_eq_true, r_ins0, r_ins1, r_ins2, r_ins3, r_ins4, r_ins5]
            rw [inb_n (n := 36) rfl (by omega) (by omega), inb_n (n := 36) rfl (by omega) (by omega)]
            refine ⟨by decide, by omega, by simp, by omega, ?_⟩
            refine ihm (h + 1) _ _ _ (by omega) (hF.st (by decide)) (fun d j hd hj => ?_)
            rw [sm_eq, u_if]
            have hld := (hC d).1
            by_cases e : d = c ∧ j = h
            · rw [if_pos (by omega), e.1, e.2]
              unfold mlV
              rw [← he]
              congr 2
              omega
            · rw [if_neg (by omega)]
              exact hM d j (by omega) hj
          have j4 : ∀ (m1 : Nat), m1 = (if dr = true ∧ h + 1 = (C c).length ∧ sw c = false then 1 else 0) → ∀ v', WP 140 [] 4 [some (.ref 62), some (.int (nI w)), some (.int (nI sb)), some (.int (nI dr.toNat)), some (.int (nI th.toNat)), some (.int (nI c)), some (.int (nI h)), some (.int (nI fr)), v'] [.int (nI m1)] N Q := by
            intro m1 h1 v'
            have hm1 : m1 ≤ 1 := by rw [h1]; split <;> omega
            have el : los C sw dr th c h = fr / 2 + m1 + (if th = true ∧ 0 < fr then 1 else 0) := by unfold los; rw [hfr, h1]
            simp only [B_140_0, B_140_3, B_140_4, B_140_5, B_140_7, B_140_8, B_140_11, B_140_12, B_140_13, B_140_14, cm, r_iconst_p, r_iconst_m, r_bipush_p, r_bipush_m, r_sipush_p, r_sipush_m, r_ldc_p, r_ldc_m, r_ldc_w_p, r_ldc_w_m, r_lconst_p, r_lconst_m, r_ldc2_w_p, r_ldc2_w_m, r_iload, r_iload_n, r_lload, r_lload_n, r_aload, r_aload_n, r_istore, r_istore_n, r_astore, r_astore_n, r_lstore, r_lstore_n, r_iinc_p, r_iinc_m, r_iadd, r_isub, r_imul, r_iand, r_ior, r_ixor, r_ishl, r_ishr, r_iushr, r_idiv, r_irem, r_ladd, r_lsub, r_lmul, r_ldiv, r_lrem, r_lshl, r_lcmp, r_i2l, r_i2b, r_i2s, r_dup_i, r_dup_r, r_dup2_ii, r_dup2_ir, r_dup2_l, r_pop, r_getfield, r_putfield, r_iaload, r_iastore, r_aaload, r_arraylength, r_if_eq, r_icmp_eq, r_if_ne, r_icmp_ne, r_if_lt, r_icmp_lt, r_if_ge, r_icmp_ge, r_if_gt, r_icmp_gt, r_if_le, r_icmp_le, r_goto, r_switch, r_ireturn0, r_ireturn1, r_lreturn, r_areturn, r_return, r_inv0, r_inv1, r_inv2, r_inv3, r_inv4, r_inv5, r_min, r_max, r_acopy, onI_s, onL_s, onR_s, onO_s, fv0, fv1, fv2, fv3, fp1, fp20, fp21, fp3, tl_s, tl_n, lg0, lg1, lg2, lg3, lg4, lg5, lg6, lg7, lg8, lg9, lg10, lg11, lg12, lg13, lg14, lg15, lg16, lg17, ls0, ls1, ls2, ls3, ls4, ls5, ls6, ls7, ls8, ls9, ls10, ls11, ls12, ls13, ls14, ls15, ls16, ls17, lk0, lk1, lk2, lk3, lk4, lk5, lk6, lk7, lk8, lk9, lk10, lk11, lk12, lk13, lk14, lk15, lk16, lk17, kl_n, kl_i, kl_r, kl_l, Nat.reduceAdd, Nat.reduceLeDiff, not_false_eq_true, r_ins0, r_ins1, r_ins2, r_ins3, r_ins4, r_ins5]
            cases hth : th with
            | false =>
              rw [rF', brc_pos rfl]
              rw [hth] at el j6
              exact j6 m1 0 hm1 (by omega) (by rw [el, if_neg (fun q => by cases q.1)]) _
            | true =>
              rw [rT', n10, brc_F, q_le (by omega) (by omega)]
              rw [hth] at el j6
              refine brc_i (fun h2 => j6 m1 0 hm1 (by omega) (by rw [el, if_neg (by omega)]) _) (fun h2 => j6 m1 1 hm1 (by omega) (by rw [el, if_pos ⟨rfl, by omega⟩]) _)
          rw [B_140_2]
          simp only [B_140_0, B_140_3, B_140_5, B_140_6, B_140_7, B_140_8, B_140_11, B_140_12, B_140_13, B_140_14, cm, nI_clamp (show c < 2 ^ 31 by omega), (hR c hc6).1, s_freeOf hR hC hc6 hhl hs (hb c hc6), hfr, s_isIn (show sb < 2 ^ 31 by omega) (show c < 31 by omega), hb c hc6, q_sub (show 1 ≤ (C c).length by omega), r_iconst_p, r_iconst_m, r_bipush_p, r_bipush_m, r_sipush_p, r_sipush_m, r_ldc_p, r_ldc_m, r_ldc_w_p, r_ldc_w_m, r_lconst_p, r_lconst_m, r_ldc2_w_p, r_ldc2_w_m, r_iload, r_iload_n, r_lload, r_lload_n, r_aload, r_aload_n, r_istore, r_istore_n, r_astore, r_astore_n, r_lstore, r_lstore_n, r_iinc_p, r_iinc_m, r_iadd, r_isub, r_imul, r_iand, r_ior, r_ixor, r_ishl, r_ishr, r_iushr, r_idiv, r_irem, r_ladd, r_lsub, r_lmul, r_ldiv, r_lrem, r_lshl, r_lcmp, r_i2l, r_i2b, r_i2s, r_dup_i, r_dup_r, r_dup2_ii, r_dup2_ir, r_dup2_l, r_pop, r_getfield, r_putfield, r_iaload, r_iastore, r_aaload, r_arraylength, r_if_eq, r_icmp_eq, r_if_ne, r_icmp_ne, r_if_lt, r_icmp_lt, r_if_ge, r_icmp_ge, r_if_gt, r_icmp_gt, r_if_le, r_icmp_le, r_goto, r_switch, r_ireturn0, r_ireturn1, r_lreturn, r_areturn, r_return, r_inv0, r_inv1, r_inv2, r_inv3, r_inv4, r_inv5, r_min, r_max, r_acopy, onI_s, onL_s, onR_s, onO_s, fv0, fv1, fv2, fv3, fp1, fp20, fp21, fp3, tl_s, tl_n, lg0, lg1, lg2, lg3, lg4, lg5, lg6, lg7, lg8, lg9, lg10, lg11, lg12, lg13, lg14, lg15, lg16, lg17, ls0, ls1, ls2, ls3, ls4, ls5, ls6, ls7, ls8, ls9, ls10, ls11, ls12, ls13, ls14, ls15, ls16, ls17, lk0, lk1, lk2, lk3, lk4, lk5, lk6, lk7, lk8, lk9, lk10, lk11, lk12, lk13, lk14, lk15, lk16, lk17, kl_n, kl_i, kl_r, kl_l, Nat.reduceAdd, Nat.reduceLeDiff, not_false_eq_true, r_ins0, r_ins1, r_ins2, r_ins3, r_ins4, r_ins5]
          rw [inb_n (n := 6) rfl (by omega) (by omega), brc_neg (nI_ge (by omega) (by omega)), q_eq (show h < 2 ^ 31 by omega) (by omega)]
          refine ⟨hc6, trivial, by simp, ?_⟩
          cases hdr : dr with
          | false =>
            rw [rF', brc_pos rfl]
            rw [hdr] at j4
            exact j4 0 (by rw [if_neg (fun q => by cases q.1)]) _
          | true =>
            rw [rT', n10, brc_F]
            rw [hdr] at j4
            refine ⟨hc6, brc_i (fun h2 => j4 0 (by rw [if_neg (by omega)]) _) (fun h2 => ⟨by simp, ?_⟩)⟩
            cases hsw : sw c with
            | true => rw [rT', n10, brc_nF]; exact j4 0 (by rw [if_neg (fun q => by rw [hsw] at q; cases q.2.2)]) _
            | false => rw [rF', brc_neg (fun q => q rfl)]; exact j4 1 (by rw [if_pos ⟨rfl, by omega, hsw⟩]) _
      rw [B_140_1]
      simp only [B_140_0, B_140_3, B_140_4, B_140_5, B_140_6, B_140_7, B_140_11, B_140_12, B_140_13, B_140_14, cm, r_iconst_p, r_iconst_m, r_bipush_p, r_bipush_m, r_sipush_p, r_sipush_m, r_ldc_p, r_ldc_m, r_ldc_w_p, r_ldc_w_m, r_lconst_p, r_lconst_m, r_ldc2_w_p, r_ldc2_w_m, r_iload, r_iload_n, r_lload, r_lload_n, r_aload, r_aload_n, r_istore, r_istore_n, r_astore, r_astore_n, r_lstore, r_lstore_n, r_iinc_p, r_iinc_m, r_iadd, r_isub, r_imul, r_iand, r_ior, r_ixor, r_ishl, r_ishr, r_iushr, r_idiv, r_irem, r_ladd, r_lsub, r_lmul, r_ldiv, r_lrem, r_lshl, r_lcmp, r_i2l, r_i2b, r_i2s, r_dup_i, r_dup_r, r_dup2_ii, r_dup2_ir, r_dup2_l, r_pop, r_getfield, r_putfield, r_iaload, r_iastore, r_aaload, r_arraylength, r_if_eq, r_icmp_eq, r_if_ne, r_icmp_ne, r_if_lt, r_icmp_lt, r_if_ge, r_icmp_ge, r_if_gt, r_icmp_gt, r_if_le, r_icmp_le, r_goto, r_switch, r_ireturn0, r_ireturn1, r_lreturn, r_areturn, r_return, r_inv0, r_inv1, r_inv2, r_inv3, r_inv4, r_inv5, r_min, r_max, r_acopy, onI_s, onL_s, onR_s, onO_s, fv0, fv1, fv2, fv3, fp1, fp20, fp21, fp3, tl_s, tl_n, lg0, lg1, lg2, lg3, lg4, lg5, lg6, lg7, lg8, lg9, lg10, lg11, lg12, lg13, lg14, lg15, lg16, lg17, ls0, ls1, ls2, ls3, ls4, ls5, ls6, ls7, ls8, ls9, ls10, ls11, ls12, ls13, ls14, ls15, ls16, ls17, lk0, lk1, lk2, lk3, lk4, lk5, lk6, lk7, lk8, lk9, lk10, lk11, lk12, lk13, lk14, lk15, lk16, lk17, kl_n, kl_i, kl_r, kl_l, Nat.reduceAdd, Nat.reduceLeDiff, not_false_eq_true, r_ins0, r_ins1, r_ins2, r_ins3, r_ins4, r_ins5]
      rw [brc_neg (nI_ge (by omega) (by omega))]
      exact inner _ 0 N v v' (Nat.zero_add _) hF (fun d j hd hj => hM d j (by omega) hj)
  exact outer 6 0 M none none none (by omega) Fr.rf (fun d h hd => by omega)
end RS
