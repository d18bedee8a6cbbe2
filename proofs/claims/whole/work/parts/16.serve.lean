/-! Summer: serve -/
def Fr (l : List Nat) (M M' : Mem) : Prop := ∀ c, c ∉ l → M' c = M c
theorem Fr.rf {l : List Nat} {M : Mem} : Fr l M M := fun _ _ => rfl
theorem Fr.tr {l l1 l2 : List Nat} {M M1 M2 : Mem} (h1 : Fr l1 M M1) (h2 : Fr l2 M1 M2) (s1 : ∀ c, c ∈ l1 → c ∈ l) (s2 : ∀ c, c ∈ l2 → c ∈ l) : Fr l M M2 := fun c hc => (h2 c (fun q => hc (s2 c q))).trans (h1 c (fun q => hc (s1 c q)))
theorem Fr.st {l : List Nat} {M M' : Mem} (h : Fr l M M') {c i : Nat} {x : Int32} (hc : c ∈ l) : Fr l M (stM M' c i x) := fun d hd => by
  rw [sm_ne (show ¬ d = c from fun q => hd (q ▸ hc))]
  exact h d hd
theorem Fr.sub {l l' : List Nat} {M M' : Mem} (h : Fr l M M') (s : ∀ c, c ∈ l → c ∈ l') : Fr l' M M' := fun c hc => h c (fun q => hc (s c q))
theorem RS.fr {l : List Nat} {M M' : Mem} (h : Fr l M M') {g k : Nat} (hg : g ∉ l) (hk : k ∉ l) {C : Col} (H : RS M g k C) : RS M' g k C := fun c hc => by
  rw [h g hg, h k hk]
  exact H c hc
theorem bit_lt {i n : Nat} (h : i < n) : 1 <<< i < 2 ^ n := by
  rw [Nat.one_shiftLeft]
  exact Nat.pow_lt_pow_right (by decide) h
theorem shl1 {i : Nat} (h : i < 31) : nI 1 <<< (nI i &&& 31) = nI (1 <<< i) := shl_nI h (by rw [Nat.one_mul]; exact Nat.pow_lt_pow_right (by decide) h)
set_option maxHeartbeats 4000000 in
theorem s_serve_21 {M : Mem} {C : Col} (h : RS M 23 24 C) (hC : okC6 C) {i w sb : Nat} (hi : i < 12) (hw : w ≤ 9) (hq : M 27 i = nI w) (hsb : M 21 10 = nI sb) :
    Ct 43 [.ref 21, .int (nI i)] M (fun r N => r = none ∧ Fr [21, 23, 24, 30] M N ∧ RS N 23 24 (srv 36 C 0 w).1 ∧ N 30 = upd (M 30) i (nI (srv 36 C 0 w).2) ∧ N 21 = upd (M 21) 10 (nI (if (srv 36 C 0 w).2 < w then sb ||| 1 <<< i else sb))) := by
  simp only [E_43, B_43_0, B_43_2, B_43_4, r_iconst_p, r_iconst_m, r_bipush_p, r_bipush_m, r_sipush_p, r_sipush_m, r_ldc_p, r_ldc_m, r_ldc_w_p, r_ldc_w_m, r_lconst_p, r_lconst_m, r_ldc2_w_p, r_ldc2_w_m, r_iload, r_iload_n, r_lload, r_lload_n, r_aload, r_aload_n, r_istore, r_istore_n, r_astore, r_astore_n, r_lstore, r_lstore_n, r_iinc_p, r_iinc_m, r_iadd, r_isub, r_imul, r_iand, r_ior, r_ixor, r_ishl, r_ishr, r_iushr, r_idiv, r_irem, r_ladd, r_lsub, r_lmul, r_ldiv, r_lrem, r_lshl, r_lcmp, r_i2l, r_i2b, r_i2s, r_dup_i, r_dup_r, r_dup2_ii, r_dup2_ir, r_dup2_l, r_pop, r_getfield, r_putfield, r_iaload, r_iastore, r_aaload, r_arraylength, r_if_eq, r_icmp_eq, r_if_ne, r_icmp_ne, r_if_lt, r_icmp_lt, r_if_ge, r_icmp_ge, r_if_gt, r_icmp_gt, r_if_le, r_icmp_le, r_goto, r_switch, r_ireturn0, r_ireturn1, r_lreturn, r_areturn, r_return, r_inv0, r_inv1, r_inv2, r_inv3, r_inv4, r_inv5, r_min, r_max, r_acopy, onI_s, onL_s, onR_s, onO_s, fv0, fv1, fv2, fv3, fp1, fp20, fp21, fp3, tl_s, tl_n, lg0, lg1, lg2, lg3, lg4, lg5, lg6, lg7, lg8, lg9, lg10, lg11, lg12, lg13, lg14, lg15, lg16, lg17, ls0, ls1, ls2, ls3, ls4, ls5, ls6, ls7, ls8, ls9, ls10, ls11, ls12, ls13, ls14, ls15, ls16, ls17, lk0, lk1, lk2, lk3, lk4, lk5, lk6, lk7, lk8, lk9, lk10, lk11, lk12, lk13, lk14, lk15, lk16, lk17, kl_n, kl_i, kl_r, kl_l, Nat.reduceAdd, Nat.reduceLeDiff, not_false_eq_true, r_ins0, r_ins1, r_ins2, r_ins3, r_ins4, r_ins5]
  have fin : ∀ (N : Mem) (k : Nat) (v : Option Value), Fr [23, 24] M N → RS N 23 24 (srv 36 C 0 w).1 → WP 43 [] 3 [some (.ref 21), some (.int (nI i)), some (.int (nI (srv 36 C 0 w).2)), some (.int (nI k)), v] [] N (fun r N => r = none ∧ Fr [21, 23, 24, 30] M N ∧ RS N 23 24 (srv 36 C 0 w).1 ∧ N 30 = upd (M 30) i (nI (srv 36 C 0 w).2) ∧ N 21 = upd (M 21) 10 (nI (if (srv 36 C 0 w).2 < w then sb ||| 1 <<< i else sb))) := by
    intro N k v hF hR
    have h18 := (srv_ok 36 (h := 0) hC (by omega) hw).2
    simp only [B_43_0, B_43_2, B_43_3, B_43_4, cP, cS, r_iconst_p, r_iconst_m, r_bipush_p, r_bipush_m, r_sipush_p, r_sipush_m, r_ldc_p, r_ldc_m, r_ldc_w_p, r_ldc_w_m, r_lconst_p, r_lconst_m, r_ldc2_w_p, r_ldc2_w_m, r_iload, r_iload_n, r_lload, r_lload_n, r_aload, r_aload_n, r_istore, r_istore_n, r_astore, r_astore_n, r_lstore, r_lstore_n, r_iinc_p, r_iinc_m, r_iadd, r_isub, r_imul, r_iand, r_ior, r_ixor, r_ishl, r_ishr, r_iushr, r_idiv, r_irem, r_ladd, r_lsub, r_lmul, r_ldiv, r_lrem, r_lshl, r_lcmp, r_i2l, r_i2b, r_i2s, r_dup_i, r_dup_r, r_dup2_ii, r_dup2_ir, r_dup2_l, r_pop, r_getfield, r_putfield, r_iaload, r_iastore, r_aaload, r_arraylength, r_if_eq, r_icmp_eq, r_if_ne, r_icmp_ne, r_if_lt, r_icmp_lt, r_if_ge, r_icmp_ge, r_if_gt, r_icmp_gt, r_if_le, r_icmp_le, r_goto, r_switch, r_ireturn0, r_ireturn1, r_lreturn, r_areturn, r_return, r_inv0, r_inv1, r_inv2, r_inv3, r_inv4, r_inv5, r_min, r_max, r_acopy, onI_s, onL_s, onR_s, onO_s, fv0, fv1, fv2, fv3, fp1, fp20, fp21, fp3, tl_s, tl_n, lg0, lg1, lg2, lg3, lg4, lg5, lg6, lg7, lg8, lg9, lg10, lg11, lg12, lg13, lg14, lg15, lg16, lg17, ls0, ls1, ls2, ls3, ls4, ls5, ls6, ls7, ls8, ls9, ls10, ls11, ls12, ls13, ls14, ls15, ls16, ls17, lk0, lk1, lk2, lk3, lk4, lk5, lk6, lk7, lk8, lk9, lk10, lk11, lk12, lk13, lk14, lk15, lk16, lk17, kl_n, kl_i, kl_r, kl_l, Nat.reduceAdd, Nat.reduceLeDiff, not_false_eq_true, r_ins0, r_ins1, r_ins2, r_ins3, r_ins4, r_ins5]
    rw [inb_n (n := 12) rfl (by omega) (by omega), nI_clamp (by omega), inb_n (n := 12) rfl (by omega) (by omega), sm_ne (show ¬ 27 = 30 by decide), hF 27 (by decide), hq]
    refine ⟨hi, hi, ?_⟩
    rw [q_le (by omega) (by omega)]
    refine brc_i (fun hc => ?_) (fun hc => ?_)
    · refine ⟨trivial, (hF.sub (by decide)).st (by decide), fun c hc => by rw [sm_ne (by decide), sm_ne (by decide)]; exact hR c hc, ?_, ?_⟩
      · rw [sm_eq, hF 30 (by decide)]
      · rw [sm_ne (by decide), hF 21 (by decide), if_neg (by omega), ← hsb]
        funext j
        rw [u_if]
        split
        · rename_i e; rw [e]
        · rfl
    · rw [sm_ne (show ¬ 21 = 30 by decide), hF 21 (by decide), hsb, shl1 (by omega), q_or]
      refine ⟨trivial, ((hF.sub (by decide)).st (by decide)).st (by decide), fun c hc => by rw [sm_ne (by decide), sm_ne (by decide), sm_ne (by decide), sm_ne (by decide)]; exact hR c hc, ?_, ?_⟩
      · rw [sm_ne (by decide), sm_eq, hF 30 (by decide)]
      · rw [sm_eq, sm_ne (by decide), hF 21 (by decide), if_pos (by omega)]
  have key : ∀ (n k : Nat) (D : Col) (x : Nat) (N : Mem) (v : Option Value), k + n = 36 → Fr [23, 24] M N → RS N 23 24 D → okC6 D → x ≤ 18 → srv n D x w = srv 36 C 0 w → WP 43 [] 1 [some (.ref 21), some (.int (nI i)), some (.int (nI x)), some (.int (nI k)), v] [] N (fun r N => r = none ∧ Fr [21, 23, 24, 30] M N ∧ RS N 23 24 (srv 36 C 0 w).1 ∧ N 30 = upd (M 30) i (nI (srv 36 C 0 w).2) ∧ N 21 = upd (M 21) 10 (nI (if (srv 36 C 0 w).2 < w then sb ||| 1 <<< i else sb))) := by
    intro n
    induction n with
    | zero =>
      intro k D x N v hk hF hR hD hx he
      obtain rfl : k = 36 := by omega
      rw [B_43_1]
      simp only [B_43_0, B_43_2, B_43_4, cP, cS, r_iconst_p, r_iconst_m, r_bipush_p, r_bipush_m, r_sipush_p, r_sipush_m, r_ldc_p, r_ldc_m, r_ldc_w_p, r_ldc_w_m, r_lconst_p, r_lconst_m, r_ldc2_w_p, r_ldc2_w_m, r_iload, r_iload_n, r_lload, r_lload_n, r_aload, r_aload_n, r_istore, r_istore_n, r_astore, r_astore_n, r_lstore, r_lstore_n, r_iinc_p, r_iinc_m, r_iadd, r_isub, r_imul, r_iand, r_ior, r_ixor, r_ishl, r_ishr, r_iushr, r_idiv, r_irem, r_ladd, r_lsub, r_lmul, r_ldiv, r_lrem, r_lshl, r_lcmp, r_i2l, r_i2b, r_i2s, r_dup_i, r_dup_r, r_dup2_ii, r_dup2_ir, r_dup2_l, r_pop, r_getfield, r_putfield, r_iaload, r_iastore, r_aaload, r_arraylength, r_if_eq, r_icmp_eq, r_if_ne, r_icmp_ne, r_if_lt, r_icmp_lt, r_if_ge, r_icmp_ge, r_if_gt, r_icmp_gt, r_if_le, r_icmp_le, r_goto, r_switch, r_ireturn0, r_ireturn1, r_lreturn, r_areturn, r_return, r_inv0, r_inv1, r_inv2, r_inv3, r_inv4, r_inv5, r_min, r_max, r_acopy, onI_s, onL_s, onR_s, onO_s, fv0, fv1, fv2, fv3, fp1, fp20, fp21, fp3, tl_s, tl_n, lg0, lg1, lg2, lg3, lg4, lg5, lg6, lg7, lg8, lg9, lg10, lg11, lg12, lg13, lg14, lg15, lg16, lg17, ls0, ls1, ls2, ls3, ls4, ls5, ls6, ls7, ls8, ls9, ls10, ls11, ls12, ls13, ls14, ls15, ls16, ls17, lk0, lk1, lk2, lk3, lk4, lk5, lk6, lk7, lk8, lk9, lk10, lk11, lk12, lk13, lk14, lk15, lk16, lk17, kl_n, kl_i, kl_r, kl_l, Nat.reduceAdd, Nat.reduceLeDiff, not_false_eq_true, r_ins0, r_ins1, r_ins2, r_ins3, r_ins4, r_ins5]
      rw [brc_pos (Int32.le_refl _)]
      have e1 : (D, x) = srv 36 C 0 w := he
      have := fin N 36 v hF
      rw [← e1] at this ⊢
      exact this hR
    | succ n ih =>
      intro k D x N v hk hF hR hD hx he
      rw [B_43_1]
      simp only [B_43_0, B_43_2, B_43_4, cP, cS, (s_grt_22 hR hD).ct, r_iconst_p, r_iconst_m, r_bipush_p, r_bipush_m, r_sipush_p, r_sipush_m, r_ldc_p, r_ldc_m, r_ldc_w_p, r_ldc_w_m, r_lconst_p, r_lconst_m, r_ldc2_w_p, r_ldc2_w_m, r_iload, r_iload_n, r_lload, r_lload_n, r_aload, r_aload_n, r_istore, r_istore_n, r_astore, r_astore_n, r_lstore, r_lstore_n, r_iinc_p, r_iinc_m, r_iadd, r_isub, r_imul, r_iand, r_ior, r_ixor, r_ishl, r_ishr, r_iushr, r_idiv, r_irem, r_ladd, r_lsub, r_lmul, r_ldiv, r_lrem, r_lshl, r_lcmp, r_i2l, r_i2b, r_i2s, r_dup_i, r_dup_r, r_dup2_ii, r_dup2_ir, r_dup2_l, r_pop, r_getfield, r_putfield, r_iaload, r_iastore, r_aaload, r_arraylength, r_if_eq, r_icmp_eq, r_if_ne, r_icmp_ne, r_if_lt, r_icmp_lt, r_if_ge, r_icmp_ge, r_if_gt, r_icmp_gt, r_if_le, r_icmp_le, r_goto, r_switch, r_ireturn0, r_ireturn1, r_lreturn, r_areturn, r_return, r_inv0, r_inv1, r_inv2, r_inv3, r_inv4, r_inv5, r_min, r_max, r_acopy, onI_s, onL_s, onR_s, onO_s, fv0, fv1, fv2, fv3, fp1, fp20, fp21, fp3, tl_s, tl_n, lg0, lg1, lg2, lg3, lg4, lg5, lg6, lg7, lg8, lg9, lg10, lg11, lg12, lg13, lg14, lg15, lg16, lg17, ls0, ls1, ls2, ls3, ls4, ls5, ls6, ls7, ls8, ls9, ls10, ls11, ls12, ls13, ls14, ls15, ls16, ls17, lk0, lk1, lk2, lk3, lk4, lk5, lk6, lk7, lk8, lk9, lk10, lk11, lk12, lk13, lk14, lk15, lk16, lk17, kl_n, kl_i, kl_r, kl_l, Nat.reduceAdd, Nat.reduceLeDiff, not_false_eq_true, r_ins0, r_ins1, r_ins2, r_ins3, r_ins4, r_ins5]
      rw [brc_neg (nI_ge (by omega) (by omega)), inb_n (n := 12) rfl (by omega) (by omega), nI_clamp (by omega), hF 27 (by decide), hq, q_le (by omega) (by omega)]
      refine ⟨hi, ?_⟩
      have stop : (D, x) = srv 36 C 0 w → ∀ v, WP 43 [] 3 [some (.ref 21), some (.int (nI i)), some (.int (nI x)), some (.int (nI k)), v] [] N (fun r N => r = none ∧ Fr [21, 23, 24, 30] M N ∧ RS N 23 24 (srv 36 C 0 w).1 ∧ N 30 = upd (M 30) i (nI (srv 36 C 0 w).2) ∧ N 21 = upd (M 21) 10 (nI (if (srv 36 C 0 w).2 < w then sb ||| 1 <<< i else sb))) := by
        intro e1 v
        have := fin N k v hF
        rw [← e1] at this ⊢
        exact this hR
      unfold srv at he
      by_cases hc : w ≤ x
      · rw [brc_pos hc]
        rw [if_neg (by omega)] at he
        exact stop he v
      · rw [brc_neg hc]
        refine ⟨trivial, by simp, ?_⟩
        by_cases h0 : (grt D 6).2 = 0
        · rw [if_neg (fun q => q.2 h0)] at he
          rw [h0, show ix 0 = mI 1 from rfl, brc_neg (fun q => q rfl)]
          exact stop he _
        · rw [if_pos ⟨by omega, h0⟩] at he
          have hg := grt_le hD 6
          have ha := (grt_at (C := D) 6).2 h0
          have e1 : ix (grt D 6).2 = nI ((grt D 6).2 - 1) := if_neg h0
          rw [e1, brc_pos (by rw [q_nm (by omega) (by omega) (by omega)]; exact not_false), (s_take_22 hR hD (c := (grt D 6).2 - 1) (by omega) (grt_ne h0)).ct]
          simp only [B_43_0, B_43_2, B_43_4, cP, cS, r_iconst_p, r_iconst_m, r_bipush_p, r_bipush_m, r_sipush_p, r_sipush_m, r_ldc_p, r_ldc_m, r_ldc_w_p, r_ldc_w_m, r_lconst_p, r_lconst_m, r_ldc2_w_p, r_ldc2_w_m, r_iload, r_iload_n, r_lload, r_lload_n, r_aload, r_aload_n, r_istore, r_istore_n, r_astore, r_astore_n, r_lstore, r_lstore_n, r_iinc_p, r_iinc_m, r_iadd, r_isub, r_imul, r_iand, r_ior, r_ixor, r_ishl, r_ishr, r_iushr, r_idiv, r_irem, r_ladd, r_lsub, r_lmul, r_ldiv, r_lrem, r_lshl, r_lcmp, r_i2l, r_i2b, r_i2s, r_dup_i, r_dup_r, r_dup2_ii, r_dup2_ir, r_dup2_l, r_pop, r_getfield, r_putfield, r_iaload, r_iastore, r_aaload, r_arraylength, r_if_eq, r_icmp_eq, r_if_ne, r_icmp_ne, r_if_lt, r_icmp_lt, r_if_ge, r_icmp_ge, r_if_gt, r_icmp_gt, r_if_le, r_icmp_le, r_goto, r_switch, r_ireturn0, r_ireturn1, r_lreturn, r_areturn, r_return, r_inv0, r_inv1, r_inv2, r_inv3, r_inv4, r_inv5, r_min, r_max, r_acopy, onI_s, onL_s, onR_s, onO_s, fv0, fv1, fv2, fv3, fp1, fp20, fp21, fp3, tl_s, tl_n, lg0, lg1, lg2, lg3, lg4, lg5, lg6, lg7, lg8, lg9, lg10, lg11, lg12, lg13, lg14, lg15, lg16, lg17, ls0, ls1, ls2, ls3, ls4, ls5, ls6, ls7, ls8, ls9, ls10, ls11, ls12, ls13, ls14, ls15, ls16, ls17, lk0, lk1, lk2, lk3, lk4, lk5, lk6, lk7, lk8, lk9, lk10, lk11, lk12, lk13, lk14, lk15, lk16, lk17, kl_n, kl_i, kl_r, kl_l, Nat.reduceAdd, Nat.reduceLeDiff, not_false_eq_true, r_ins0, r_ins1, r_ins2, r_ins3, r_ins4, r_ins5]
          rw [q_add, q_add]
          refine ⟨trivial, by simp, ?_⟩
          refine ih (k + 1) _ _ _ _ (by omega) ((hF.st (by decide)).st (by decide)) (RS_take hR hD (by decide) (by omega) (grt_ne h0)) (okC6_drop hD _) (by omega) ?_
          rw [← ha.1]
          exact he
  exact key 36 0 C 0 M none (by omega) Fr.rf h hC (by omega) rfl
set_option maxHeartbeats 4000000 in
theorem s_serve_38 {M : Mem} {C : Col} (h : RS M 40 41 C) (hC : okC6 C) {i w sb : Nat} (hi : i < 12) (hw : w ≤ 9) (hq : M 44 i = nI w) (hsb : M 38 10 = nI sb) :
    Ct 43 [.ref 38, .int (nI i)] M (fun r N => r = none ∧ Fr [38, 40, 41, 47] M N ∧ RS N 40 41 (srv 36 C 0 w).1 ∧ N 47 = upd (M 47) i (nI (srv 36 C 0 w).2) ∧ N 38 = upd (M 38) 10 (nI (if (srv 36 C 0 w).2 < w then sb ||| 1 <<< i else sb))) := by
  simp only [E_43, B_43_0, B_43_2, B_43_4, r_iconst_p, r_iconst_m, r_bipush_p, r_bipush_m, r_sipush_p, r_sipush_m, r_ldc_p, r_ldc_m, r_ldc_w_p, r_ldc_w_m, r_lconst_p, r_lconst_m, r_ldc2_w_p, r_ldc2_w_m, r_iload, r_iload_n, r_lload, r_lload_n, r_aload, r_aload_n, r_istore, r_istore_n, r_astore, r_astore_n, r_lstore, r_lstore_n, r_iinc_p, r_iinc_m, r_iadd, r_isub, r_imul, r_iand, r_ior, r_ixor, r_ishl, r_ishr, r_iushr, r_idiv, r_irem, r_ladd, r_lsub, r_lmul, r_ldiv, r_lrem, r_lshl, r_lcmp, r_i2l, r_i2b, r_i2s, r_dup_i, r_dup_r, r_dup2_ii, r_dup2_ir, r_dup2_l, r_pop, r_getfield, r_putfield, r_iaload, r_iastore, r_aaload, r_arraylength, r_if_eq, r_icmp_eq, r_if_ne, r_icmp_ne, r_if_lt, r_icmp_lt, r_if_ge, r_icmp_ge, r_if_gt, r_icmp_gt, r_if_le, r_icmp_le, r_goto, r_switch, r_ireturn0, r_ireturn1, r_lreturn, r_areturn, r_return, r_inv0, r_inv1, r_inv2, r_inv3, r_inv4, r_inv5, r_min, r_max, r_acopy, onI_s, onL_s, onR_s, onO_s, fv0, fv1, fv2, fv3, fp1, fp20, fp21, fp3, tl_s, tl_n, lg0, lg1, lg2, lg3, lg4, lg5, lg6, lg7, lg8, lg9, lg10, lg11, lg12, lg13, lg14, lg15, lg16, lg17, ls0, ls1, ls2, ls3, ls4, ls5, ls6, ls7, ls8, ls9, ls10, ls11, ls12, ls13, ls14, ls15, ls16, ls17, lk0, lk1, lk2, lk3, lk4, lk5, lk6, lk7, lk8, lk9, lk10, lk11, lk12, lk13, lk14, lk15, lk16, lk17, kl_n, kl_i, kl_r, kl_l, Nat.reduceAdd, Nat.reduceLeDiff, not_false_eq_true, r_ins0, r_ins1, r_ins2, r_ins3, r_ins4, r_ins5]
  have fin : ∀ (N : Mem) (k : Nat) (v : Option Value), Fr [40, 41] M N → RS N 40 41 (srv 36 C 0 w).1 → WP 43 [] 3 [some (.ref 38), some (.int (nI i)), some (.int (nI (srv 36 C 0 w).2)), some (.int (nI k)), v] [] N (fun r N => r = none ∧ Fr [38, 40, 41, 47] M N ∧ RS N 40 41 (srv 36 C 0 w).1 ∧ N 47 = upd (M 47) i (nI (srv 36 C 0 w).2) ∧ N 38 = upd (M 38) 10 (nI (if (srv 36 C 0 w).2 < w then sb ||| 1 <<< i else sb))) := by
    intro N k v hF hR
    have h18 := (srv_ok 36 (h := 0) hC (by omega) hw).2
    simp only [B_43_0, B_43_2, B_43_3, B_43_4, cP, cS, r_iconst_p, r_iconst_m, r_bipush_p, r_bipush_m, r_sipush_p, r_sipush_m, r_ldc_p, r_ldc_m, r_ldc_w_p, r_ldc_w_m, r_lconst_p, r_lconst_m, r_ldc2_w_p, r_ldc2_w_m, r_iload, r_iload_n, r_lload, r_lload_n, r_aload, r_aload_n, r_istore, r_istore_n, r_astore, r_astore_n, r_lstore, r_lstore_n, r_iinc_p, r_iinc_m, r_iadd, r_isub, r_imul, r_iand, r_ior, r_ixor, r_ishl, r_ishr, r_iushr, r_idiv, r_irem, r_ladd, r_lsub, r_lmul, r_ldiv, r_lrem, r_lshl, r_lcmp, r_i2l, r_i2b, r_i2s, r_dup_i, r_dup_r, r_dup2_ii, r_dup2_ir, r_dup2_l, r_pop, r_getfield, r_putfield, r_iaload, r_iastore, r_aaload, r_arraylength, r_if_eq, r_icmp_eq, r_if_ne, r_icmp_ne, r_if_lt, r_icmp_lt, r_if_ge, r_icmp_ge, r_if_gt, r_icmp_gt, r_if_le, r_icmp_le, r_goto, r_switch, r_ireturn0, r_ireturn1, r_lreturn, r_areturn, r_return, r_inv0, r_inv1, r_inv2, r_inv3, r_inv4, r_inv5, r_min, r_max, r_acopy, onI_s, onL_s, onR_s, onO_s, fv0, fv1, fv2, fv3, fp1, fp20, fp21, fp3, tl_s, tl_n, lg0, lg1, lg2, lg3, lg4, lg5, lg6, lg7, lg8, lg9, lg10, lg11, lg12, lg13, lg14, lg15, lg16, lg17, ls0, ls1, ls2, ls3, ls4, ls5, ls6, ls7, ls8, ls9, ls10, ls11, ls12, ls13, ls14, ls15, ls16, ls17, lk0, lk1, lk2, lk3, lk4, lk5, lk6, lk7, lk8, lk9, lk10, lk11, lk12, lk13, lk14, lk15, lk16, lk17, kl_n, kl_i, kl_r, kl_l, Nat.reduceAdd, Nat.reduceLeDiff, not_false_eq_true, r_ins0, r_ins1, r_ins2, r_ins3, r_ins4, r_ins5]
    rw [inb_n (n := 12) rfl (by omega) (by omega), nI_clamp (by omega), inb_n (n := 12) rfl (by omega) (by omega), sm_ne (show ¬ 44 = 47 by decide), hF 44 (by decide), hq]
    refine ⟨hi, hi, ?_⟩
    rw [q_le (by omega) (by omega)]
    refine brc_i (fun hc => ?_) (fun hc => ?_)
    · refine ⟨trivial, (hF.sub (by decide)).st (by decide), fun c hc => by rw [sm_ne (by decide), sm_ne (by decide)]; exact hR c hc, ?_, ?_⟩
      · rw [sm_eq, hF 47 (by decide)]
      · rw [sm_ne (by decide), hF 38 (by decide), if_neg (by omega), ← hsb]
        funext j
        rw [u_if]
        split
        · rename_i e; rw [e]
        · rfl
    · rw [sm_ne (show ¬ 38 = 47 by decide), hF 38 (by decide), hsb, shl1 (by omega), q_or]
      refine ⟨trivial, ((hF.sub (by decide)).st (by decide)).st (by decide), fun c hc => by rw [sm_ne (by decide), sm_ne (by decide), sm_ne (by decide), sm_ne (by decide)]; exact hR c hc, ?_, ?_⟩
      · rw [sm_ne (by decide), sm_eq, hF 47 (by decide)]
      · rw [sm_eq, sm_ne (by decide), hF 38 (by decide), if_pos (by omega)]
  have key : ∀ (n k : Nat) (D : Col) (x : Nat) (N : Mem) (v : Option Value), k + n = 36 → Fr [40, 41] M N → RS N 40 41 D → okC6 D → x ≤ 18 → srv n D x w = srv 36 C 0 w → WP 43 [] 1 [some (.ref 38), some (.int (nI i)), some (.int (nI x)), some (.int (nI k)), v] [] N (fun r N => r = none ∧ Fr [38, 40, 41, 47] M N ∧ RS N 40 41 (srv 36 C 0 w).1 ∧ N 47 = upd (M 47) i (nI (srv 36 C 0 w).2) ∧ N 38 = upd (M 38) 10 (nI (if (srv 36 C 0 w).2 < w then sb ||| 1 <<< i else sb))) := by
    intro n
    induction n with
    | zero =>
      intro k D x N v hk hF hR hD hx he
      obtain rfl : k = 36 := by omega
      rw [B_43_1]
      simp only [B_43_0, B_43_2, B_43_4, cP, cS, r_iconst_p, r_iconst_m, r_bipush_p, r_bipush_m, r_sipush_p, r_sipush_m, r_ldc_p, r_ldc_m, r_ldc_w_p, r_ldc_w_m, r_lconst_p, r_lconst_m, r_ldc2_w_p, r_ldc2_w_m, r_iload, r_iload_n, r_lload, r_lload_n, r_aload, r_aload_n, r_istore, r_istore_n, r_astore, r_astore_n, r_lstore, r_lstore_n, r_iinc_p, r_iinc_m, r_iadd, r_isub, r_imul, r_iand, r_ior, r_ixor, r_ishl, r_ishr, r_iushr, r_idiv, r_irem, r_ladd, r_lsub, r_lmul, r_ldiv, r_lrem, r_lshl, r_lcmp, r_i2l, r_i2b, r_i2s, r_dup_i, r_dup_r, r_dup2_ii, r_dup2_ir, r_dup2_l, r_pop, r_getfield, r_putfield, r_iaload, r_iastore, r_aaload, r_arraylength, r_if_eq, r_icmp_eq, r_if_ne, r_icmp_ne, r_if_lt, r_icmp_lt, r_if_ge, r_icmp_ge, r_if_gt, r_icmp_gt, r_if_le, r_icmp_le, r_goto, r_switch, r_ireturn0, r_ireturn1, r_lreturn, r_areturn, r_return, r_inv0, r_inv1, r_inv2, r_inv3, r_inv4, r_inv5, r_min, r_max, r_acopy, onI_s, onL_s, onR_s, onO_s, fv0, fv1, fv2, fv3, fp1, fp20, fp21, fp3, tl_s, tl_n, lg0, lg1, lg2, lg3, lg4, lg5, lg6, lg7, lg8, lg9, lg10, lg11, lg12, lg13, lg14, lg15, lg16, lg17, ls0, ls1, ls2, ls3, ls4, ls5, ls6, ls7, ls8, ls9, ls10, ls11, ls12, ls13, ls14, ls15, ls16, ls17, lk0, lk1, lk2, lk3, lk4, lk5, lk6, lk7, lk8, lk9, lk10, lk11, lk12, lk13, lk14, lk15, lk16, lk17, kl_n, kl_i, kl_r, kl_l, Nat.reduceAdd, Nat.reduceLeDiff, not_false_eq_true, r_ins0, r_ins1, r_ins2, r_ins3, r_ins4, r_ins5]
      rw [brc_pos (Int32.le_refl _)]
      have e1 : (D, x) = srv 36 C 0 w := he
      have := fin N 36 v hF
      rw [← e1] at this ⊢
      exact this hR
    | succ n ih =>
      intro k D x N v hk hF hR hD hx he
      rw [B_43_1]
      simp only [B_43_0, B_43_2, B_43_4, cP, cS, (s_grt_39 hR hD).ct, r_iconst_p, r_iconst_m, r_bipush_p, r_bipush_m, r_sipush_p, r_sipush_m, r_ldc_p, r_ldc_m, r_ldc_w_p, r_ldc_w_m, r_lconst_p, r_lconst_m, r_ldc2_w_p, r_ldc2_w_m, r_iload, r_iload_n, r_lload, r_lload_n, r_aload, r_aload_n, r_istore, r_istore_n, r_astore, r_astore_n, r_lstore, r_lstore_n, r_iinc_p, r_iinc_m, r_iadd, r_isub, r_imul, r_iand, r_ior, r_ixor, r_ishl, r_ishr, r_iushr, r_idiv, r_irem, r_ladd, r_lsub, r_lmul, r_ldiv, r_lrem, r_lshl, r_lcmp, r_i2l, r_i2b, r_i2s, r_dup_i, r_dup_r, r_dup2_ii, r_dup2_ir, r_dup2_l, r_pop, r_getfield, r_putfield, r_iaload, r_iastore, r_aaload, r_arraylength, r_if_eq, r_icmp_eq, r_if_ne, r_icmp_ne, r_if_lt, r_icmp_lt, r_if_ge, r_icmp_ge, r_if_gt, r_icmp_gt, r_if_le, r_icmp_le, r_goto, r_switch, r_ireturn0, r_ireturn1, r_lreturn, r_areturn, r_return, r_inv0, r_inv1, r_inv2, r_inv3, r_inv4, r_inv5, r_min, r_max, r_acopy, onI_s, onL_s, onR_s, onO_s, fv0, fv1, fv2, fv3, fp1, fp20, fp21, fp3, tl_s, tl_n, lg0, lg1, lg2, lg3, lg4, lg5, lg6, lg7, lg8, lg9, lg10, lg11, lg12, lg13, lg14, lg15, lg16, lg17, ls0, ls1, ls2, ls3, ls4, ls5, ls6, ls7, ls8, ls9, ls10, ls11, ls12, ls13, ls14, ls15, ls16, ls17, lk0, lk1, lk2, lk3, lk4, lk5, lk6, lk7, lk8, lk9, lk10, lk11, lk12, lk13, lk14, lk15, lk16, lk17, kl_n, kl_i, kl_r, kl_l, Nat.reduceAdd, Nat.reduceLeDiff, not_false_eq_true, r_ins0, r_ins1, r_ins2, r_ins3, r_ins4, r_ins5]
      rw [brc_neg (nI_ge (by omega) (by omega)), inb_n (n := 12) rfl (by omega) (by omega), nI_clamp (by omega), hF 44 (by decide), hq, q_le (by omega) (by omega)]
      refine ⟨hi, ?_⟩
      have stop : (D, x) = srv 36 C 0 w → ∀ v, WP 43 [] 3 [some (.ref 38), some (.int (nI i)), some (.int (nI x)), some (.int (nI k)), v] [] N (fun r N => r = none ∧ Fr [38, 40, 41, 47] M N ∧ RS N 40 41 (srv 36 C 0 w).1 ∧ N 47 = upd (M 47) i (nI (srv 36 C 0 w).2) ∧ N 38 = upd (M 38) 10 (nI (if (srv 36 C 0 w).2 < w then sb ||| 1 <<< i else sb))) := by
        intro e1 v
        have := fin N k v hF
        rw [← e1] at this ⊢
        exact this hR
      unfold srv at he
      by_cases hc : w ≤ x
      · rw [brc_pos hc]
        rw [if_neg (by omega)] at he
        exact stop he v
      · rw [brc_neg hc]
        refine ⟨trivial, by simp, ?_⟩
        by_cases h0 : (grt D 6).2 = 0
        · rw [if_neg (fun q => q.2 h0)] at he
          rw [h0, show ix 0 = mI 1 from rfl, brc_neg (fun q => q rfl)]
          exact stop he _
        · rw [if_pos ⟨by omega, h0⟩] at he
          have hg := grt_le hD 6
          have ha := (grt_at (C := D) 6).2 h0
          have e1 : ix (grt D 6).2 = nI ((grt D 6).2 - 1) := if_neg h0
          rw [e1, brc_pos (by rw [q_nm (by omega) (by omega) (by omega)]; exact not_false), (s_take_39 hR hD (c := (grt D 6).2 - 1) (by omega) (grt_ne h0)).ct]
          simp only [B_43_0, B_43_2, B_43_4, cP, cS, r_iconst_p, r_iconst_m, r_bipush_p, r_bipush_m, r_sipush_p, r_sipush_m, r_ldc_p, r_ldc_m, r_ldc_w_p, r_ldc_w_m, r_lconst_p, r_lconst_m, r_ldc2_w_p, r_ldc2_w_m, r_iload, r_iload_n, r_lload, r_lload_n, r_aload, r_aload_n, r_istore, r_istore_n, r_astore, r_astore_n, r_lstore, r_lstore_n, r_iinc_p, r_iinc_m, r_iadd, r_isub, r_imul, r_iand, r_ior, r_ixor, r_ishl, r_ishr, r_iushr, r_idiv, r_irem, r_ladd, r_lsub, r_lmul, r_ldiv, r_lrem, r_lshl, r_lcmp, r_i2l, r_i2b, r_i2s, r_dup_i, r_dup_r, r_dup2_ii, r_dup2_ir, r_dup2_l, r_pop, r_getfield, r_putfield, r_iaload, r_iastore, r_aaload, r_arraylength, r_if_eq, r_icmp_eq, r_if_ne, r_icmp_ne, r_if_lt, r_icmp_lt, r_if_ge, r_icmp_ge, r_if_gt, r_icmp_gt, r_if_le, r_icmp_le, r_goto, r_switch, r_ireturn0, r_ireturn1, r_lreturn, r_areturn, r_return, r_inv0, r_inv1, r_inv2, r_inv3, r_inv4, r_inv5, r_min, r_max, r_acopy, onI_s, onL_s, onR_s, onO_s, fv0, fv1, fv2, fv3, fp1, fp20, fp21, fp3, tl_s, tl_n, lg0, lg1, lg2, lg3, lg4, lg5, lg6, lg7, lg8, lg9, lg10, lg11, lg12, lg13, lg14, lg15, lg16, lg17, ls0, ls1, ls2, ls3, ls4, ls5, ls6, ls7, ls8, ls9, ls10, ls11, ls12, ls13, ls14, ls15, ls16, ls17, lk0, lk1, lk2, lk3, lk4, lk5, lk6, lk7, lk8, lk9, lk10, lk11, lk12, lk13, lk14, lk15, lk16, lk17, kl_n, kl_i, kl_r, kl_l, Nat.reduceAdd, Nat.reduceLeDiff, not_false_eq_true, r_ins0, r_ins1, r_ins2, r_ins3, r_ins4, r_ins5]
          rw [q_add, q_add]
          refine ⟨trivial, by simp, ?_⟩
          refine ih (k + 1) _ _ _ _ (by omega) ((hF.st (by decide)).st (by decide)) (RS_take hR hD (by decide) (by omega) (grt_ne h0)) (okC6_drop hD _) (by omega) ?_
          rw [← ha.1]
          exact he
  exact key 36 0 C 0 M none (by omega) Fr.rf h hC (by omega) rfl
