/-! texts and what they mean -/
/-- behind n bytes of the blocks' text: the fault and 1 (0: none), the column, the columns -/
def pB (t : Nat → Nat) : Nat → Nat × Nat × Col
  | 0 => (0, 0, fun _ => [])
  | n + 1 => if ¬ (pB t n).1 = 0 then pB t n
    else if t n = 59 ∧ (pB t n).2.1 < 5 then (0, (pB t n).2.1 + 1, (pB t n).2.2)
    else if (49 ≤ t n ∧ t n ≤ 57) ∧ ((pB t n).2.2 (pB t n).2.1).length < 6 then (0, (pB t n).2.1, setc (pB t n).2.2 (pB t n).2.1 ((pB t n).2.2 (pB t n).2.1 ++ [t n - 48]))
    else (n + 1, (pB t n).2.1, (pB t n).2.2)
theorem pB_s (t : Nat → Nat) (n : Nat) : pB t (n + 1) = if ¬ (pB t n).1 = 0 then pB t n
    else if t n = 59 ∧ (pB t n).2.1 < 5 then (0, (pB t n).2.1 + 1, (pB t n).2.2)
    else if (49 ≤ t n ∧ t n ≤ 57) ∧ ((pB t n).2.2 (pB t n).2.1).length < 6 then (0, (pB t n).2.1, setc (pB t n).2.2 (pB t n).2.1 ((pB t n).2.2 (pB t n).2.1 ++ [t n - 48]))
    else (n + 1, (pB t n).2.1, (pB t n).2.2) := rfl
theorem pB_ok (t : Nat → Nat) : ∀ n, (pB t n).1 ≤ n ∧ (pB t n).2.1 ≤ 5 ∧ okC6 (pB t n).2.2
  | 0 => ⟨Nat.le_refl _, Nat.zero_le _, fun c => ⟨Nat.zero_le _, fun v hv => by cases hv⟩⟩
  | n + 1 => by
    obtain ⟨h1, h2, h3⟩ := pB_ok t n
    rw [pB_s]
    split
    · exact ⟨by omega, h2, h3⟩
    · split
      · exact ⟨Nat.zero_le _, by simp only; omega, h3⟩
      · split
        · rename_i hc
          refine ⟨Nat.zero_le _, h2, okC6_set h3 ⟨by rw [List.length_append, List.length_singleton]; omega, fun v hv => ?_⟩⟩
          rcases List.mem_append.mp hv with q | q
          · exact (h3 _).2 v q
          · rw [List.mem_singleton] at q; omega
        · exact ⟨Nat.le_refl _, h2, h3⟩
theorem pB_stop {t : Nat → Nat} {n : Nat} (h : ¬ (pB t n).1 = 0) : ∀ k, pB t (n + k) = pB t n
  | 0 => rfl
  | k + 1 => by
    have ih := pB_stop h k
    show pB t (n + k + 1) = _
    rw [pB_s, if_pos (by rw [ih]; exact h), ih]
def bkC (t : Nat → Nat) (n : Nat) : Col := if (pB t n).1 = 0 then (pB t n).2.2 else fun _ => []
theorem bkC_ok (t : Nat → Nat) (n : Nat) : okC6 (bkC t n) := by
  unfold bkC
  split
  · exact (pB_ok t n).2.2
  · exact fun c => ⟨Nat.zero_le _, fun v hv => by cases hv⟩
/-- a byte of the orders' text is well -/
def okO (t : Nat → Nat) (i : Nat) : Bool := if i % 3 = 0 then decide (97 ≤ t i ∧ t i ≤ 120) else if i % 3 = 1 then decide (49 ≤ t i ∧ t i ≤ 57) else decide (t i = 59)
/-- the first byte of the first n that isn't, and 1; 0: none -/
def bdO (t : Nat → Nat) : Nat → Nat
  | 0 => 0
  | n + 1 => if ¬ bdO t n = 0 then bdO t n else if okO t n = true then 0 else n + 1
theorem bdO_s (t : Nat → Nat) (n : Nat) : bdO t (n + 1) = if ¬ bdO t n = 0 then bdO t n else if okO t n = true then 0 else n + 1 := rfl
theorem bdO_le (t : Nat → Nat) : ∀ n, bdO t n ≤ n
  | 0 => Nat.le_refl _
  | n + 1 => by
    have := bdO_le t n
    rw [bdO_s]
    split
    · omega
    · split <;> omega
theorem bdO_stop {t : Nat → Nat} {n : Nat} (h : ¬ bdO t n = 0) : ∀ k, bdO t (n + k) = bdO t n
  | 0 => rfl
  | k + 1 => by
    have ih := bdO_stop h k
    show bdO t (n + k + 1) = _
    rw [bdO_s, if_pos (by rw [ih]; exact h), ih]
theorem bdO_ok {t : Nat → Nat} : ∀ {n : Nat}, bdO t n = 0 → ∀ i, i < n → okO t i = true
  | 0, _, i, hi => absurd hi (Nat.not_lt_zero i)
  | n + 1, h, i, hi => by
    rw [bdO_s] at h
    split at h
    · rename_i q; exact absurd h q
    · rename_i q
      split at h
      · rename_i q2
        by_cases e : i = n
        · rw [e]; exact q2
        · exact bdO_ok (Classical.not_not.mp q) i (by omega)
      · omega
def fO (t : Nat → Nat) (n : Nat) : Nat := if ¬ bdO t n = 0 then bdO t n else if n = 0 ∨ n % 3 = 2 then 0 else n + 1
def noF (t : Nat → Nat) (n : Nat) : Nat := if fO t n = 0 then (n + 1) / 3 else 0
def owF (t : Nat → Nat) (n k : Nat) : Nat := if k < noF t n then t (3 * k) - 97 else 0
def oqF (t : Nat → Nat) (n k : Nat) : Nat := if k < noF t n then t (3 * k + 1) - 48 else 0
theorem fO_0 {t : Nat → Nat} {n : Nat} (h : fO t n = 0) : bdO t n = 0 := by
  unfold fO at h
  split at h
  · rename_i q; exact h
  · rename_i q; exact Classical.not_not.mp q
theorem no_le {t : Nat → Nat} {n : Nat} (h : n ≤ 35) : noF t n ≤ 12 := by
  unfold noF
  split <;> omega
theorem ow_le (t : Nat → Nat) (n k : Nat) : owF t n k ≤ 23 := by
  unfold owF
  split
  · rename_i h
    unfold noF at h
    split at h
    · rename_i q
      have := bdO_ok (fO_0 q) (3 * k) (by omega)
      unfold okO at this
      rw [if_pos (by omega), decide_eq_true_eq] at this
      omega
    · omega
  · omega
theorem oq_le (t : Nat → Nat) (n k : Nat) : oqF t n k ≤ 9 := by
  unfold oqF
  split
  · rename_i h
    unfold noF at h
    split at h
    · rename_i q
      have := bdO_ok (fO_0 q) (3 * k + 1) (by omega)
      unfold okO at this
      rw [if_neg (by omega), if_pos (by omega), decide_eq_true_eq] at this
      omega
    · omega
  · omega
/-- a text object at cell b: how many bytes it may have, how many it has, which -/
def RTx (M : Mem) (b most n : Nat) (t : Nat → Nat) : Prop := M b 0 = nI most ∧ M b 2 = nI n ∧ n ≤ most ∧ (∀ i, i < n → M (b + 1) i = nI (t i)) ∧ ∀ i, t i ≤ 255
theorem RTx.fr {l : List Nat} {M N : Mem} (h : Fr l M N) {b most n : Nat} {t : Nat → Nat} (h1 : b ∉ l) (h2 : b + 1 ∉ l) (H : RTx M b most n t) : RTx N b most n t := by
  unfold RTx
  rw [h b h1, h (b + 1) h2]
  exact H
theorem s_isFigure {b : Nat} (hb : b < 2 ^ 31) (M : Mem) : Ev 5 [.int (nI b)] M (some (.int (nI (decide (49 ≤ b ∧ b ≤ 57)).toNat))) M := by
  apply Ev.of
  simp only [E_5, B_5_0, B_5_1, B_5_2, r_iconst_p, r_iconst_m, r_bipush_p, r_bipush_m, r_sipush_p, r_sipush_m, r_ldc_p, r_ldc_m, r_ldc_w_p, r_ldc_w_m, r_lconst_p, r_lconst_m, r_ldc2_w_p, r_ldc2_w_m, r_iload, r_iload_n, r_lload, r_lload_n, r_aload, r_aload_n, r_istore, r_istore_n, r_astore, r_astore_n, r_lstore, r_lstore_n, r_iinc_p, r_iinc_m, r_iadd, r_isub, r_imul, r_iand, r_ior, r_ixor, r_ishl, r_ishr, r_iushr, r_idiv, r_irem, r_ladd, r_lsub, r_lmul, r_ldiv, r_lrem, r_lshl, r_lcmp, r_i2l, r_i2b, r_i2s, r_dup_i, r_dup_r, r_dup2_ii, r_dup2_ir, r_dup2_l, r_pop, r_getfield, r_putfield, r_iaload, r_iastore, r_aaload, r_arraylength, r_if_eq, r_icmp_eq, r_if_ne, r_icmp_ne, r_if_lt, r_icmp_lt, r_if_ge, r_icmp_ge, r_if_gt, r_icmp_gt, r_if_le, r_icmp_le, r_goto, r_switch, r_ireturn0, r_ireturn1, r_lreturn, r_areturn, r_return, r_inv0, r_inv1, r_inv2, r_inv3, r_inv4, r_inv5, r_min, r_max, r_acopy, onI_s, onL_s, onR_s, onO_s, fv0, fv1, fv2, fv3, fp1, fp20, fp21, fp3, tl_s, tl_n, lg0, lg1, lg2, lg3, lg4, lg5, lg6, lg7, lg8, lg9, lg10, lg11, lg12, lg13, lg14, lg15, lg16, lg17, ls0, ls1, ls2, ls3, ls4, ls5, ls6, ls7, ls8, ls9, ls10, ls11, ls12, ls13, ls14, ls15, ls16, ls17, lk0, lk1, lk2, lk3, lk4, lk5, lk6, lk7, lk8, lk9, lk10, lk11, lk12, lk13, lk14, lk15, lk16, lk17, kl_n, kl_i, kl_r, kl_l, Nat.reduceAdd, Nat.reduceLeDiff, not_false_eq_true, r_ins0, r_ins1, r_ins2, r_ins3, r_ins4, r_ins5]
  rw [q_lt (by omega) (by omega), q_lt (by omega) (by omega)]
  refine brc_i (fun h1 => ?_) (fun h1 => brc_i (fun h2 => ?_) (fun h2 => ?_))
  · rw [decide_eq_false (by omega)]; exact ⟨Or.inl trivial, rfl, trivial⟩
  · rw [decide_eq_false (by omega)]; exact ⟨Or.inl trivial, rfl, trivial⟩
  · rw [decide_eq_true (by omega)]; exact ⟨Or.inr trivial, rfl, trivial⟩
theorem s_clear (M : Mem) : Ct 31 [.ref 6] M (fun r N => r = none ∧ Fr [7, 8] M N ∧ RS N 7 8 (fun _ => [])) := by
  simp only [E_31, B_31_0, cB, r_iconst_p, r_iconst_m, r_bipush_p, r_bipush_m, r_sipush_p, r_sipush_m, r_ldc_p, r_ldc_m, r_ldc_w_p, r_ldc_w_m, r_lconst_p, r_lconst_m, r_ldc2_w_p, r_ldc2_w_m, r_iload, r_iload_n, r_lload, r_lload_n, r_aload, r_aload_n, r_istore, r_istore_n, r_astore, r_astore_n, r_lstore, r_lstore_n, r_iinc_p, r_iinc_m, r_iadd, r_isub, r_imul, r_iand, r_ior, r_ixor, r_ishl, r_ishr, r_iushr, r_idiv, r_irem, r_ladd, r_lsub, r_lmul, r_ldiv, r_lrem, r_lshl, r_lcmp, r_i2l, r_i2b, r_i2s, r_dup_i, r_dup_r, r_dup2_ii, r_dup2_ir, r_dup2_l, r_pop, r_getfield, r_putfield, r_iaload, r_iastore, r_aaload, r_arraylength, r_if_eq, r_icmp_eq, r_if_ne, r_icmp_ne, r_if_lt, r_icmp_lt, r_if_ge, r_icmp_ge, r_if_gt, r_icmp_gt, r_if_le, r_icmp_le, r_goto, r_switch, r_ireturn0, r_ireturn1, r_lreturn, r_areturn, r_return, r_inv0, r_inv1, r_inv2, r_inv3, r_inv4, r_inv5, r_min, r_max, r_acopy, onI_s, onL_s, onR_s, onO_s, fv0, fv1, fv2, fv3, fp1, fp20, fp21, fp3, tl_s, tl_n, lg0, lg1, lg2, lg3, lg4, lg5, lg6, lg7, lg8, lg9, lg10, lg11, lg12, lg13, lg14, lg15, lg16, lg17, ls0, ls1, ls2, ls3, ls4, ls5, ls6, ls7, ls8, ls9, ls10, ls11, ls12, ls13, ls14, ls15, ls16, ls17, lk0, lk1, lk2, lk3, lk4, lk5, lk6, lk7, lk8, lk9, lk10, lk11, lk12, lk13, lk14, lk15, lk16, lk17, kl_n, kl_i, kl_r, kl_l, Nat.reduceAdd, Nat.reduceLeDiff, not_false_eq_true, r_ins0, r_ins1, r_ins2, r_ins3, r_ins4, r_ins5]
  refine ⟨by simp, ?_⟩
  rw [(s_fill (c := 7) (n := 36) rfl (by omega) (nI 0) M).ct]
  simp only [B_31_0, cB, r_iconst_p, r_iconst_m, r_bipush_p, r_bipush_m, r_sipush_p, r_sipush_m, r_ldc_p, r_ldc_m, r_ldc_w_p, r_ldc_w_m, r_lconst_p, r_lconst_m, r_ldc2_w_p, r_ldc2_w_m, r_iload, r_iload_n, r_lload, r_lload_n, r_aload, r_aload_n, r_istore, r_istore_n, r_astore, r_astore_n, r_lstore, r_lstore_n, r_iinc_p, r_iinc_m, r_iadd, r_isub, r_imul, r_iand, r_ior, r_ixor, r_ishl, r_ishr, r_iushr, r_idiv, r_irem, r_ladd, r_lsub, r_lmul, r_ldiv, r_lrem, r_lshl, r_lcmp, r_i2l, r_i2b, r_i2s, r_dup_i, r_dup_r, r_dup2_ii, r_dup2_ir, r_dup2_l, r_pop, r_getfield, r_putfield, r_iaload, r_iastore, r_aaload, r_arraylength, r_if_eq, r_icmp_eq, r_if_ne, r_icmp_ne, r_if_lt, r_icmp_lt, r_if_ge, r_icmp_ge, r_if_gt, r_icmp_gt, r_if_le, r_icmp_le, r_goto, r_switch, r_ireturn0, r_ireturn1, r_lreturn, r_areturn, r_return, r_inv0, r_inv1, r_inv2, r_inv3, r_inv4, r_inv5, r_min, r_max, r_acopy, onI_s, onL_s, onR_s, onO_s, fv0, fv1, fv2, fv3, fp1, fp20, fp21, fp3, tl_s, tl_n, lg0, lg1, lg2, lg3, lg4, lg5, lg6, lg7, lg8, lg9, lg10, lg11, lg12, lg13, lg14, lg15, lg16, lg17, ls0, ls1, ls2, ls3, ls4, ls5, ls6, ls7, ls8, ls9, ls10, ls11, ls12, ls13, ls14, ls15, ls16, ls17, lk0, lk1, lk2, lk3, lk4, lk5, lk6, lk7, lk8, lk9, lk10, lk11, lk12, lk13, lk14, lk15, lk16, lk17, kl_n, kl_i, kl_r, kl_l, Nat.reduceAdd, Nat.reduceLeDiff, not_false_eq_true, r_ins0, r_ins1, r_ins2, r_ins3, r_ins4, r_ins5]
  refine ⟨by simp, ?_⟩
  rw [(s_fill (c := 8) (n := 6) rfl (by omega) (nI 0) _).ct]
  simp only [B_31_0, cB, r_iconst_p, r_iconst_m, r_bipush_p, r_bipush_m, r_sipush_p, r_sipush_m, r_ldc_p, r_ldc_m, r_ldc_w_p, r_ldc_w_m, r_lconst_p, r_lconst_m, r_ldc2_w_p, r_ldc2_w_m, r_iload, r_iload_n, r_lload, r_lload_n, r_aload, r_aload_n, r_istore, r_istore_n, r_astore, r_astore_n, r_lstore, r_lstore_n, r_iinc_p, r_iinc_m, r_iadd, r_isub, r_imul, r_iand, r_ior, r_ixor, r_ishl, r_ishr, r_iushr, r_idiv, r_irem, r_ladd, r_lsub, r_lmul, r_ldiv, r_lrem, r_lshl, r_lcmp, r_i2l, r_i2b, r_i2s, r_dup_i, r_dup_r, r_dup2_ii, r_dup2_ir, r_dup2_l, r_pop, r_getfield, r_putfield, r_iaload, r_iastore, r_aaload, r_arraylength, r_if_eq, r_icmp_eq, r_if_ne, r_icmp_ne, r_if_lt, r_icmp_lt, r_if_ge, r_icmp_ge, r_if_gt, r_icmp_gt, r_if_le, r_icmp_le, r_goto, r_switch, r_ireturn0, r_ireturn1, r_lreturn, r_areturn, r_return, r_inv0, r_inv1, r_inv2, r_inv3, r_inv4, r_inv5, r_min, r_max, r_acopy, onI_s, onL_s, onR_s, onO_s, fv0, fv1, fv2, fv3, fp1, fp20, fp21, fp3, tl_s, tl_n, lg0, lg1, lg2, lg3, lg4, lg5, lg6, lg7, lg8, lg9, lg10, lg11, lg12, lg13, lg14, lg15, lg16, lg17, ls0, ls1, ls2, ls3, ls4, ls5, ls6, ls7, ls8, ls9, ls10, ls11, ls12, ls13, ls14, ls15, ls16, ls17, lk0, lk1, lk2, lk3, lk4, lk5, lk6, lk7, lk8, lk9, lk10, lk11, lk12, lk13, lk14, lk15, lk16, lk17, kl_n, kl_i, kl_r, kl_l, Nat.reduceAdd, Nat.reduceLeDiff, not_false_eq_true, r_ins0, r_ins1, r_ins2, r_ins3, r_ins4, r_ins5]
  refine ⟨trivial, fun d hd => ?_, fun c hc => ⟨?_, fun j hj => ?_⟩⟩
  · rw [msc_ne (fun q => hd (by rw [q]; decide)), msc_ne (fun q => hd (by rw [q]; decide))]
  · rw [msc_eq, if_pos hc]; rfl
  · rw [msc_ne (by decide), msc_eq, if_pos (by omega)]; rfl
theorem s_putOnTop {M : Mem} {C : Col} {c v : Nat} (H : RS M 7 8 C) (hc : c < 6) (hl : (C c).length < 6) : Ct 33 [.ref 6, .int (nI c), .int (nI v)] M (fun r N => r = none ∧ Fr [7, 8] M N ∧ RS N 7 8 (setc C c (C c ++ [v]))) := by
  simp only [E_33, B_33_0, B_33_1, cB, nI_clamp (show c < 2 ^ 31 by omega), (H c hc).1, sm_ne (show ¬ 8 = 7 by decide), q_mul, q_add, r_iconst_p, r_iconst_m, r_bipush_p, r_bipush_m, r_sipush_p, r_sipush_m, r_ldc_p, r_ldc_m, r_ldc_w_p, r_ldc_w_m, r_lconst_p, r_lconst_m, r_ldc2_w_p, r_ldc2_w_m, r_iload, r_iload_n, r_lload, r_lload_n, r_aload, r_aload_n, r_istore, r_istore_n, r_astore, r_astore_n, r_lstore, r_lstore_n, r_iinc_p, r_iinc_m, r_iadd, r_isub, r_imul, r_iand, r_ior, r_ixor, r_ishl, r_ishr, r_iushr, r_idiv, r_irem, r_ladd, r_lsub, r_lmul, r_ldiv, r_lrem, r_lshl, r_lcmp, r_i2l, r_i2b, r_i2s, r_dup_i, r_dup_r, r_dup2_ii, r_dup2_ir, r_dup2_l, r_pop, r_getfield, r_putfield, r_iaload, r_iastore, r_aaload, r_arraylength, r_if_eq, r_icmp_eq, r_if_ne, r_icmp_ne, r_if_lt, r_icmp_lt, r_if_ge, r_icmp_ge, r_if_gt, r_icmp_gt, r_if_le, r_icmp_le, r_goto, r_switch, r_ireturn0, r_ireturn1, r_lreturn, r_areturn, r_return, r_inv0, r_inv1, r_inv2, r_inv3, r_inv4, r_inv5, r_min, r_max, r_acopy, onI_s, onL_s, onR_s, onO_s, fv0, fv1, fv2, fv3, fp1, fp20, fp21, fp3, tl_s, tl_n, lg0, lg1, lg2, lg3, lg4, lg5, lg6, lg7, lg8, lg9, lg10, lg11, lg12, lg13, lg14, lg15, lg16, lg17, ls0, ls1, ls2, ls3, ls4, ls5, ls6, ls7, ls8, ls9, ls10, ls11, ls12, ls13, ls14, ls15, ls16, ls17, lk0, lk1, lk2, lk3, lk4, lk5, lk6, lk7, lk8, lk9, lk10, lk11, lk12, lk13, lk14, lk15, lk16, lk17, kl_n, kl_i, kl_r, kl_l, Nat.reduceAdd, Nat.reduceLeDiff, not_false_eq_true, r_ins0, r_ins1, r_ins2, r_ins3, r_ins4, r_ins5]
  rw [inb_n (n := 6) rfl (by omega) (by omega), inb_n (n := 36) rfl (by omega) (by omega), nI_clamp (by omega), q_le (by omega) (by omega), brc_neg (by omega)]
  refine ⟨hc, hc, by omega, hc, hc, trivial, (Fr.rf.st (by decide)).st (by decide), ?_⟩
  intro d hd
  rw [sm_eq, sm_ne (show ¬ 8 = 7 by decide), sm_ne (show ¬ 7 = 8 by decide), sm_eq]
  unfold setc
  by_cases e : d = c
  · subst e
    rw [if_pos rfl, u_eq, List.length_append, List.length_singleton]
    refine ⟨rfl, fun j hj => ?_⟩
    rw [u_if, List.getD_eq_getElem?_getD]
    by_cases e2 : j = (C d).length
    · rw [if_pos (by omega), e2, List.getElem?_append_right (Nat.le_refl _), Nat.sub_self]
      rfl
    · rw [if_neg (by omega), (H d hd).2 j hj, List.getD_eq_getElem?_getD]
      by_cases e3 : j < (C d).length
      · rw [List.getElem?_append_left e3]
      · rw [List.getElem?_eq_none (by omega), List.getElem?_eq_none (by rw [List.length_append, List.length_singleton]; omega)]
  · rw [if_neg e, u_ne e]
    refine ⟨(H d hd).1, fun j hj => ?_⟩
    rw [u_ne (by omega)]
    exact (H d hd).2 j hj
set_option maxHeartbeats 4000000 in
theorem s_placeBlocks {M : Mem} {n : Nat} {t : Nat → Nat} (HT : RTx M 2 41 n t) (HS : RS M 7 8 (fun _ => [])) : Ct 2 [.ref 1] M (fun r N => r = some (.int (ix (pB t n).1)) ∧ Fr [7, 8] M N ∧ ((pB t n).1 = 0 → RS N 7 8 (pB t n).2.2)) := by
  obtain ⟨-, t2, t3, t4, t5⟩ := HT
  simp only [E_2, B_2_0, B_2_2, B_2_3, B_2_4, B_2_5, cB, r_iconst_p, r_iconst_m, r_bipush_p, r_bipush_m, r_sipush_p, r_sipush_m, r_ldc_p, r_ldc_m, r_ldc_w_p, r_ldc_w_m, r_lconst_p, r_lconst_m, r_ldc2_w_p, r_ldc2_w_m, r_iload, r_iload_n, r_lload, r_lload_n, r_aload, r_aload_n, r_istore, r_istore_n, r_astore, r_astore_n, r_lstore, r_lstore_n, r_iinc_p, r_iinc_m, r_iadd, r_isub, r_imul, r_iand, r_ior, r_ixor, r_ishl, r_ishr, r_iushr, r_idiv, r_irem, r_ladd, r_lsub, r_lmul, r_ldiv, r_lrem, r_lshl, r_lcmp, r_i2l, r_i2b, r_i2s, r_dup_i, r_dup_r, r_dup2_ii, r_dup2_ir, r_dup2_l, r_pop, r_getfield, r_putfield, r_iaload, r_iastore, r_aaload, r_arraylength, r_if_eq, r_icmp_eq, r_if_ne, r_icmp_ne, r_if_lt, r_icmp_lt, r_if_ge, r_icmp_ge, r_if_gt, r_icmp_gt, r_if_le, r_icmp_le, r_goto, r_switch, r_ireturn0, r_ireturn1, r_lreturn, r_areturn, r_return, r_inv0, r_inv1, r_inv2, r_inv3, r_inv4, r_inv5, r_min, r_max, r_acopy, onI_s, onL_s, onR_s, onO_s, fv0, fv1, fv2, fv3, fp1, fp20, fp21, fp3, tl_s, tl_n, lg0, lg1, lg2, lg3, lg4, lg5, lg6, lg7, lg8, lg9, lg10, lg11, lg12, lg13, lg14, lg15, lg16, lg17, ls0, ls1, ls2, ls3, ls4, ls5, ls6, ls7, ls8, ls9, ls10, ls11, ls12, ls13, ls14, ls15, ls16, ls17, lk0, lk1, lk2, lk3, lk4, lk5, lk6, lk7, lk8, lk9, lk10, lk11, lk12, lk13, lk14, lk15, lk16, lk17, kl_n, kl_i, kl_r, kl_l, Nat.reduceAdd, Nat.reduceLeDiff, not_false_eq_true, r_ins0, r_ins1, r_ins2, r_ins3, r_ins4, r_ins5]
  have key : ∀ (k i : Nat) (N : Mem) (v : Option Value), i + k = n → Fr [7, 8] M N → (pB t i).1 = 0 → RS N 7 8 (pB t i).2.2 → WP 2 [] 1 [some (.ref 1), some (.int (nI (pB t i).2.1)), some (.int (nI i)), v] [] N (fun r N => r = some (.int (ix (pB t n).1)) ∧ Fr [7, 8] M N ∧ ((pB t n).1 = 0 → RS N 7 8 (pB t n).2.2)) := by
    intro k
    induction k with
    | zero =>
      intro i N v hi hF h0 hR
      obtain rfl : i = n := by omega
      rw [B_2_1]
      simp only [B_2_0, B_2_2, B_2_3, B_2_4, B_2_5, cB, r_iconst_p, r_iconst_m, r_bipush_p, r_bipush_m, r_sipush_p, r_sipush_m, r_ldc_p, r_ldc_m, r_ldc_w_p, r_ldc_w_m, r_lconst_p, r_lconst_m, r_ldc2_w_p, r_ldc2_w_m, r_iload, r_iload_n, r_lload, r_lload_n, r_aload, r_aload_n, r_istore, r_istore_n, r_astore, r_astore_n, r_lstore, r_lstore_n, r_iinc_p, r_iinc_m, r_iadd, r_isub, r_imul, r_iand, r_ior, r_ixor, r_ishl, r_ishr, r_iushr, r_idiv, r_irem, r_ladd, r_lsub, r_lmul, r_ldiv, r_lrem, r_lshl, r_lcmp, r_i2l, r_i2b, r_i2s, r_dup_i, r_dup_r, r_dup2_ii, r_dup2_ir, r_dup2_l, r_pop, r_getfield, r_putfield, r_iaload, r_iastore, r_aaload, r_arraylength, r_if_eq, r_icmp_eq, r_if_ne, r_icmp_ne, r_if_lt, r_icmp_lt, r_if_ge, r_icmp_ge, r_if_gt, r_icmp_gt, r_if_le, r_icmp_le, r_goto, r_switch, r_ireturn0, r_ireturn1, r_lreturn, r_areturn, r_return, r_inv0, r_inv1, r_inv2, r_inv3, r_inv4, r_inv5, r_min, r_max, r_acopy, onI_s, onL_s, onR_s, onO_s, fv0, fv1, fv2, fv3, fp1, fp20, fp21, fp3, tl_s, tl_n, lg0, lg1, lg2, lg3, lg4, lg5, lg6, lg7, lg8, lg9, lg10, lg11, lg12, lg13, lg14, lg15, lg16, lg17, ls0, ls1, ls2, ls3, ls4, ls5, ls6, ls7, ls8, ls9, ls10, ls11, ls12, ls13, ls14, ls15, ls16, ls17, lk0, lk1, lk2, lk3, lk4, lk5, lk6, lk7, lk8, lk9, lk10, lk11, lk12, lk13, lk14, lk15, lk16, lk17, kl_n, kl_i, kl_r, kl_l, Nat.reduceAdd, Nat.reduceLeDiff, not_false_eq_true, r_ins0, r_ins1, r_ins2, r_ins3, r_ins4, r_ins5]
      rw [hF 2 (by decide), t2, brc_pos (Int32.le_refl _)]
      exact ⟨by rw [h0]; rfl, hF, fun _ => hR⟩
    | succ k ih =>
      intro i N v hi hF h0 hR
      have hti := t5 i
      have hok := pB_ok t i
      have hl := (hok.2.2 (pB t i).2.1).1
      have nx : ∀ (N' : Mem) (c : Nat), c = (pB t (i + 1)).2.1 → Fr [7, 8] M N' → (pB t (i + 1)).1 = 0 → RS N' 7 8 (pB t (i + 1)).2.2 → WP 2 [] 4 [some (.ref 1), some (.int (nI c)), some (.int (nI i)), some (.int (nI (t i)))] [] N' (fun r N => r = some (.int (ix (pB t n).1)) ∧ Fr [7, 8] M N ∧ ((pB t n).1 = 0 → RS N 7 8 (pB t n).2.2)) := by
        intro N' c hc a1 a2 a3
        subst hc
        simp only [B_2_0, B_2_2, B_2_3, B_2_4, B_2_5, cB, r_iconst_p, r_iconst_m, r_bipush_p, r_bipush_m, r_sipush_p, r_sipush_m, r_ldc_p, r_ldc_m, r_ldc_w_p, r_ldc_w_m, r_lconst_p, r_lconst_m, r_ldc2_w_p, r_ldc2_w_m, r_iload, r_iload_n, r_lload, r_lload_n, r_aload, r_aload_n, r_istore, r_istore_n, r_astore, r_astore_n, r_lstore, r_lstore_n, r_iinc_p, r_iinc_m, r_iadd, r_isub, r_imul, r_iand, r_ior, r_ixor, r_ishl, r_ishr, r_iushr, r_idiv, r_irem, r_ladd, r_lsub, r_lmul, r_ldiv, r_lrem, r_lshl, r_lcmp, r_i2l, r_i2b, r_i2s, r_dup_i, r_dup_r, r_dup2_ii, r_dup2_ir, r_dup2_l, r_pop, r_getfield, r_putfield, r_iaload, r_iastore, r_aaload, r_arraylength, r_if_eq, r_icmp_eq, r_if_ne, r_icmp_ne, r_if_lt, r_icmp_lt, r_if_ge, r_icmp_ge, r_if_gt, r_icmp_gt, r_if_le, r_icmp_le, r_goto, r_switch, r_ireturn0, r_ireturn1, r_lreturn, r_areturn, r_return, r_inv0, r_inv1, r_inv2, r_inv3, r_inv4, r_inv5, r_min, r_max, r_acopy, onI_s, onL_s, onR_s, onO_s, fv0, fv1, fv2, fv3, fp1, fp20, fp21, fp3, tl_s, tl_n, lg0, lg1, lg2, lg3, lg4, lg5, lg6, lg7, lg8, lg9, lg10, lg11, lg12, lg13, lg14, lg15, lg16, lg17, ls0, ls1, ls2, ls3, ls4, ls5, ls6, ls7, ls8, ls9, ls10, ls11, ls12, ls13, ls14, ls15, ls16, ls17, lk0, lk1, lk2, lk3, lk4, lk5, lk6, lk7, lk8, lk9, lk10, lk11, lk12, lk13, lk14, lk15, lk16, lk17, kl_n, kl_i, kl_r, kl_l, Nat.reduceAdd, Nat.reduceLeDiff, not_false_eq_true, r_ins0, r_ins1, r_ins2, r_ins3, r_ins4, r_ins5]
        rw [q_add]
        exact ih (i + 1) N' _ (by omega) a1 a2 a3
      have st := pB_s t i
      rw [if_neg (fun q => q h0)] at st
      have bad : ∀ N', Fr [7, 8] M N' → pB t (i + 1) = (i + 1, (pB t i).2.1, (pB t i).2.2) → ∀ v, WP 2 [] 3 [some (.ref 1), some (.int (nI (pB t i).2.1)), some (.int (nI i)), v] [] N' (fun r N => r = some (.int (ix (pB t n).1)) ∧ Fr [7, 8] M N ∧ ((pB t n).1 = 0 → RS N 7 8 (pB t n).2.2)) := by
        intro N' hF' hb v
        have e1 := pB_stop (t := t) (n := i + 1) (by rw [hb]; simp) k
        rw [show i + 1 + k = n by omega, hb] at e1
        simp only [B_2_0, B_2_2, B_2_3, B_2_4, B_2_5, cB, r_iconst_p, r_iconst_m, r_bipush_p, r_bipush_m, r_sipush_p, r_sipush_m, r_ldc_p, r_ldc_m, r_ldc_w_p, r_ldc_w_m, r_lconst_p, r_lconst_m, r_ldc2_w_p, r_ldc2_w_m, r_iload, r_iload_n, r_lload, r_lload_n, r_aload, r_aload_n, r_istore, r_istore_n, r_astore, r_astore_n, r_lstore, r_lstore_n, r_iinc_p, r_iinc_m, r_iadd, r_isub, r_imul, r_iand, r_ior, r_ixor, r_ishl, r_ishr, r_iushr, r_idiv, r_irem, r_ladd, r_lsub, r_lmul, r_ldiv, r_lrem, r_lshl, r_lcmp, r_i2l, r_i2b, r_i2s, r_dup_i, r_dup_r, r_dup2_ii, r_dup2_ir, r_dup2_l, r_pop, r_getfield, r_putfield, r_iaload, r_iastore, r_aaload, r_arraylength, r_if_eq, r_icmp_eq, r_if_ne, r_icmp_ne, r_if_lt, r_icmp_lt, r_if_ge, r_icmp_ge, r_if_gt, r_icmp_gt, r_if_le, r_icmp_le, r_goto, r_switch, r_ireturn0, r_ireturn1, r_lreturn, r_areturn, r_return, r_inv0, r_inv1, r_inv2, r_inv3, r_inv4, r_inv5, r_min, r_max, r_acopy, onI_s, onL_s, onR_s, onO_s, fv0, fv1, fv2, fv3, fp1, fp20, fp21, fp3, tl_s, tl_n, lg0, lg1, lg2, lg3, lg4, lg5, lg6, lg7, lg8, lg9, lg10, lg11, lg12, lg13, lg14, lg15, lg16, lg17, ls0, ls1, ls2, ls3, ls4, ls5, ls6, ls7, ls8, ls9, ls10, ls11, ls12, ls13, ls14, ls15, ls16, ls17, lk0, lk1, lk2, lk3, lk4, lk5, lk6, lk7, lk8, lk9, lk10, lk11, lk12, lk13, lk14, lk15, lk16, lk17, kl_n, kl_i, kl_r, kl_l, Nat.reduceAdd, Nat.reduceLeDiff, not_false_eq_true, r_ins0, r_ins1, r_ins2, r_ins3, r_ins4, r_ins5]
        rw [e1]
        exact ⟨by rw [ix_s], hF', fun q => by simp at q⟩
      rw [B_2_1]
      simp only [B_2_0, B_2_3, B_2_5, cB, r_iconst_p, r_iconst_m, r_bipush_p, r_bipush_m, r_sipush_p, r_sipush_m, r_ldc_p, r_ldc_m, r_ldc_w_p, r_ldc_w_m, r_lconst_p, r_lconst_m, r_ldc2_w_p, r_ldc2_w_m, r_iload, r_iload_n, r_lload, r_lload_n, r_aload, r_aload_n, r_istore, r_istore_n, r_astore, r_astore_n, r_lstore, r_lstore_n, r_iinc_p, r_iinc_m, r_iadd, r_isub, r_imul, r_iand, r_ior, r_ixor, r_ishl, r_ishr, r_iushr, r_idiv, r_irem, r_ladd, r_lsub, r_lmul, r_ldiv, r_lrem, r_lshl, r_lcmp, r_i2l, r_i2b, r_i2s, r_dup_i, r_dup_r, r_dup2_ii, r_dup2_ir, r_dup2_l, r_pop, r_getfield, r_putfield, r_iaload, r_iastore, r_aaload, r_arraylength, r_if_eq, r_icmp_eq, r_if_ne, r_icmp_ne, r_if_lt, r_icmp_lt, r_if_ge, r_icmp_ge, r_if_gt, r_icmp_gt, r_if_le, r_icmp_le, r_goto, r_switch, r_ireturn0, r_ireturn1, r_lreturn, r_areturn, r_return, r_inv0, r_inv1, r_inv2, r_inv3, r_inv4, r_inv5, r_min, r_max, r_acopy, onI_s, onL_s, onR_s, onO_s, fv0, fv1, fv2, fv3, fp1, fp20, fp21, fp3, tl_s, tl_n, lg0, lg1, lg2, lg3, lg4, lg5, lg6, lg7, lg8, lg9, lg10, lg11, lg12, lg13, lg14, lg15, lg16, lg17, ls0, ls1, ls2, ls3, ls4, ls5, ls6, ls7, ls8, ls9, ls10, ls11, ls12, ls13, ls14, ls15, ls16, ls17, lk0, lk1, lk2, lk3, lk4, lk5, lk6, lk7, lk8, lk9, lk10, lk11, lk12, lk13, lk14, lk15, lk16, lk17, kl_n, kl_i, kl_r, kl_l, Nat.reduceAdd, Nat.reduceLeDiff, not_false_eq_true, r_ins0, r_ins1, r_ins2, r_ins3, r_ins4, r_ins5]
      rw [hF 2 (by decide), t2, brc_neg (nI_ge (by omega) (by omega)), inb_n (n := 41) rfl (by omega) (by omega), nI_clamp (by omega), hF 3 (by decide), t4 i (by omega), q_eq (by omega) (by omega), q_le (by omega) (by omega), q_add]
      have b2 : ¬ (t i = 59 ∧ (pB t i).2.1 < 5) → WP 2 [] 2 [some (.ref 1), some (.int (nI (pB t i).2.1)), some (.int (nI i)), some (.int (nI (t i)))] [] N (fun r N => r = some (.int (ix (pB t n).1)) ∧ Fr [7, 8] M N ∧ ((pB t n).1 = 0 → RS N 7 8 (pB t n).2.2)) := by
        intro hn
        rw [if_neg hn] at st
        simp only [B_2_0, B_2_2, B_2_5, cB, (s_isFigure (show t i < 2 ^ 31 by omega) N).ct, r_iconst_p, r_iconst_m, r_bipush_p, r_bipush_m, r_sipush_p, r_sipush_m, r_ldc_p, r_ldc_m, r_ldc_w_p, r_ldc_w_m, r_lconst_p, r_lconst_m, r_ldc2_w_p, r_ldc2_w_m, r_iload, r_iload_n, r_lload, r_lload_n, r_aload, r_aload_n, r_istore, r_istore_n, r_astore, r_astore_n, r_lstore, r_lstore_n, r_iinc_p, r_iinc_m, r_iadd, r_isub, r_imul, r_iand, r_ior, r_ixor, r_ishl, r_ishr, r_iushr, r_idiv, r_irem, r_ladd, r_lsub, r_lmul, r_ldiv, r_lrem, r_lshl, r_lcmp, r_i2l, r_i2b, r_i2s, r_dup_i, r_dup_r, r_dup2_ii, r_dup2_ir, r_dup2_l, r_pop, r_getfield, r_putfield, r_iaload, r_iastore, r_aaload, r_arraylength, r_if_eq, r_icmp_eq, r_if_ne, r_icmp_ne, r_if_lt, r_icmp_lt, r_if_ge, r_icmp_ge, r_if_gt, r_icmp_gt, r_if_le, r_icmp_le, r_goto, r_switch, r_ireturn0, r_ireturn1, r_lreturn, r_areturn, r_return, r_inv0, r_inv1, r_inv2, r_inv3, r_inv4, r_inv5, r_min, r_max, r_acopy, onI_s, onL_s, onR_s, onO_s, fv0, fv1, fv2, fv3, fp1, fp20, fp21, fp3, tl_s, tl_n, lg0, lg1, lg2, lg3, lg4, lg5, lg6, lg7, lg8, lg9, lg10, lg11, lg12, lg13, lg14, lg15, lg16, lg17, ls0, ls1, ls2, ls3, ls4, ls5, ls6, ls7, ls8, ls9, ls10, ls11, ls12, ls13, ls14, ls15, ls16, ls17, lk0, lk1, lk2, lk3, lk4, lk5, lk6, lk7, lk8, lk9, lk10, lk11, lk12, lk13, lk14, lk15, lk16, lk17, kl_n, kl_i, kl_r, kl_l, Nat.reduceAdd, Nat.reduceLeDiff, not_false_eq_true, r_ins0, r_ins1, r_ins2, r_ins3, r_ins4, r_ins5]
        refine ⟨by simp, ?_⟩
        by_cases hfig : 49 ≤ t i ∧ t i ≤ 57
        · rw [decide_eq_true hfig, brc_neg (by rw [show (true).toNat = 1 from rfl, q_eq (by omega) (by omega)]; decide), inb_n (n := 6) rfl (by omega) (by omega), nI_clamp (by omega), (hR _ (by omega)).1, q_le (by omega) (by omega)]
          refine ⟨by omega, brc_i (fun h6 => ?_) (fun h6 => ?_)⟩
          · rw [if_neg (by omega)] at st
            exact bad N hF st _
          · refine ⟨trivial, by simp, ?_⟩
            rw [if_pos ⟨hfig, by omega⟩] at st
            rw [q_sub (by omega)]
            refine (s_putOnTop hR (by omega) (by omega)).mono ?_
            rintro r N' ⟨rfl, F', R'⟩
            simp only [B_2_0, B_2_2, B_2_3, B_2_5, cB, r_iconst_p, r_iconst_m, r_bipush_p, r_bipush_m, r_sipush_p, r_sipush_m, r_ldc_p, r_ldc_m, r_ldc_w_p, r_ldc_w_m, r_lconst_p, r_lconst_m, r_ldc2_w_p, r_ldc2_w_m, r_iload, r_iload_n, r_lload, r_lload_n, r_aload, r_aload_n, r_istore, r_istore_n, r_astore, r_astore_n, r_lstore, r_lstore_n, r_iinc_p, r_iinc_m, r_iadd, r_isub, r_imul, r_iand, r_ior, r_ixor, r_ishl, r_ishr, r_iushr, r_idiv, r_irem, r_ladd, r_lsub, r_lmul, r_ldiv, r_lrem, r_lshl, r_lcmp, r_i2l, r_i2b, r_i2s, r_dup_i, r_dup_r, r_dup2_ii, r_dup2_ir, r_dup2_l, r_pop, r_getfield, r_putfield, r_iaload, r_iastore, r_aaload, r_arraylength, r_if_eq, r_icmp_eq, r_if_ne, r_icmp_ne, r_if_lt, r_icmp_lt, r_if_ge, r_icmp_ge, r_if_gt, r_icmp_gt, r_if_le, r_icmp_le, r_goto, r_switch, r_ireturn0, r_ireturn1, r_lreturn, r_areturn, r_return, r_inv0, r_inv1, r_inv2, r_inv3, r_inv4, r_inv5, r_min, r_max, r_acopy, onI_s, onL_s, onR_s, onO_s, fv0, fv1, fv2, fv3, fp1, fp20, fp21, fp3, tl_s, tl_n, lg0, lg1, lg2, lg3, lg4, lg5, lg6, lg7, lg8, lg9, lg10, lg11, lg12, lg13, lg14, lg15, lg16, lg17, ls0, ls1, ls2, ls3, ls4, ls5, ls6, ls7, ls8, ls9, ls10, ls11, ls12, ls13, ls14, ls15, ls16, ls17, lk0, lk1, lk2, lk3, lk4, lk5, lk6, lk7, lk8, lk9, lk10, lk11, lk12, lk13, lk14, lk15, lk16, lk17, kl_n, kl_i, kl_r, kl_l, Nat.reduceAdd, Nat.reduceLeDiff, not_false_eq_true, r_ins0, r_ins1, r_ins2, r_ins3, r_ins4, r_ins5]
            exact nx N' _ (by rw [st]) (hF.tr F' (by decide) (by decide)) (by rw [st]) (by rw [st]; exact R')
        · rw [decide_eq_false hfig, brc_pos (show nI (false).toNat = nI 0 from rfl)]
          rw [if_neg (fun q => hfig q.1)] at st
          exact bad N hF st _
      refine ⟨by omega, brc_i (fun h1 => b2 (fun q => h1 q.1)) (fun h1 => brc_i (fun h2 => b2 (fun q => by omega)) (fun h2 => ?_))⟩
      rw [if_pos ⟨Classical.not_not.mp h1, by omega⟩] at st
      exact nx N _ (by rw [st]) hF (by rw [st]) (by rw [st]; exact hR)
  exact key n 0 M none (by omega) Fr.rf rfl HS
theorem s_parseBlocks {M : Mem} {n : Nat} {t : Nat → Nat} (HT : RTx M 2 41 n t) : Ct 1 [.ref 1] M (fun r N => r = none ∧ Fr [1, 7, 8] M N ∧ N 1 = upd (M 1) 6 (ix (pB t n).1) ∧ RS N 7 8 (bkC t n)) := by
  have hle := (pB_ok t n).1
  have hn := HT.2.2.1
  simp only [E_1, B_1_0, B_1_1, cB, r_iconst_p, r_iconst_m, r_bipush_p, r_bipush_m, r_sipush_p, r_sipush_m, r_ldc_p, r_ldc_m, r_ldc_w_p, r_ldc_w_m, r_lconst_p, r_lconst_m, r_ldc2_w_p, r_ldc2_w_m, r_iload, r_iload_n, r_lload, r_lload_n, r_aload, r_aload_n, r_istore, r_istore_n, r_astore, r_astore_n, r_lstore, r_lstore_n, r_iinc_p, r_iinc_m, r_iadd, r_isub, r_imul, r_iand, r_ior, r_ixor, r_ishl, r_ishr, r_iushr, r_idiv, r_irem, r_ladd, r_lsub, r_lmul, r_ldiv, r_lrem, r_lshl, r_lcmp, r_i2l, r_i2b, r_i2s, r_dup_i, r_dup_r, r_dup2_ii, r_dup2_ir, r_dup2_l, r_pop, r_getfield, r_putfield, r_iaload, r_iastore, r_aaload, r_arraylength, r_if_eq, r_icmp_eq, r_if_ne, r_icmp_ne, r_if_lt, r_icmp_lt, r_if_ge, r_icmp_ge, r_if_gt, r_icmp_gt, r_if_le, r_icmp_le, r_goto, r_switch, r_ireturn0, r_ireturn1, r_lreturn, r_areturn, r_return, r_inv0, r_inv1, r_inv2, r_inv3, r_inv4, r_inv5, r_min, r_max, r_acopy, onI_s, onL_s, onR_s, onO_s, fv0, fv1, fv2, fv3, fp1, fp20, fp21, fp3, tl_s, tl_n, lg0, lg1, lg2, lg3, lg4, lg5, lg6, lg7, lg8, lg9, lg10, lg11, lg12, lg13, lg14, lg15, lg16, lg17, ls0, ls1, ls2, ls3, ls4, ls5, ls6, ls7, ls8, ls9, ls10, ls11, ls12, ls13, ls14, ls15, ls16, ls17, lk0, lk1, lk2, lk3, lk4, lk5, lk6, lk7, lk8, lk9, lk10, lk11, lk12, lk13, lk14, lk15, lk16, lk17, kl_n, kl_i, kl_r, kl_l, Nat.reduceAdd, Nat.reduceLeDiff, not_false_eq_true, r_ins0, r_ins1, r_ins2, r_ins3, r_ins4, r_ins5]
  refine ⟨trivial, by simp, ?_⟩
  refine (s_clear M).mono ?_
  rintro r N1 ⟨rfl, F1, R1⟩
  simp only [B_1_0, B_1_1, cB, r_iconst_p, r_iconst_m, r_bipush_p, r_bipush_m, r_sipush_p, r_sipush_m, r_ldc_p, r_ldc_m, r_ldc_w_p, r_ldc_w_m, r_lconst_p, r_lconst_m, r_ldc2_w_p, r_ldc2_w_m, r_iload, r_iload_n, r_lload, r_lload_n, r_aload, r_aload_n, r_istore, r_istore_n, r_astore, r_astore_n, r_lstore, r_lstore_n, r_iinc_p, r_iinc_m, r_iadd, r_isub, r_imul, r_iand, r_ior, r_ixor, r_ishl, r_ishr, r_iushr, r_idiv, r_irem, r_ladd, r_lsub, r_lmul, r_ldiv, r_lrem, r_lshl, r_lcmp, r_i2l, r_i2b, r_i2s, r_dup_i, r_dup_r, r_dup2_ii, r_dup2_ir, r_dup2_l, r_pop, r_getfield, r_putfield, r_iaload, r_iastore, r_aaload, r_arraylength, r_if_eq, r_icmp_eq, r_if_ne, r_icmp_ne, r_if_lt, r_icmp_lt, r_if_ge, r_icmp_ge, r_if_gt, r_icmp_gt, r_if_le, r_icmp_le, r_goto, r_switch, r_ireturn0, r_ireturn1, r_lreturn, r_areturn, r_return, r_inv0, r_inv1, r_inv2, r_inv3, r_inv4, r_inv5, r_min, r_max, r_acopy, onI_s, onL_s, onR_s, onO_s, fv0, fv1, fv2, fv3, fp1, fp20, fp21, fp3, tl_s, tl_n, lg0, lg1, lg2, lg3, lg4, lg5, lg6, lg7, lg8, lg9, lg10, lg11, lg12, lg13, lg14, lg15, lg16, lg17, ls0, ls1, ls2, ls3, ls4, ls5, ls6, ls7, ls8, ls9, ls10, ls11, ls12, ls13, ls14, ls15, ls16, ls17, lk0, lk1, lk2, lk3, lk4, lk5, lk6, lk7, lk8, lk9, lk10, lk11, lk12, lk13, lk14, lk15, lk16, lk17, kl_n, kl_i, kl_r, kl_l, Nat.reduceAdd, Nat.reduceLeDiff, not_false_eq_true, r_ins0, r_ins1, r_ins2, r_ins3, r_ins4, r_ins5]
  refine ⟨trivial, by simp, ?_⟩
  refine (s_placeBlocks (HT.fr F1 (by decide) (by decide)) R1).mono ?_
  rintro r N2 ⟨rfl, F2, R2⟩
  simp only [B_1_0, cB, sm_eq, u_eq, r_iconst_p, r_iconst_m, r_bipush_p, r_bipush_m, r_sipush_p, r_sipush_m, r_ldc_p, r_ldc_m, r_ldc_w_p, r_ldc_w_m, r_lconst_p, r_lconst_m, r_ldc2_w_p, r_ldc2_w_m, r_iload, r_iload_n, r_lload, r_lload_n, r_aload, r_aload_n, r_istore, r_istore_n, r_astore, r_astore_n, r_lstore, r_lstore_n, r_iinc_p, r_iinc_m, r_iadd, r_isub, r_imul, r_iand, r_ior, r_ixor, r_ishl, r_ishr, r_iushr, r_idiv, r_irem, r_ladd, r_lsub, r_lmul, r_ldiv, r_lrem, r_lshl, r_lcmp, r_i2l, r_i2b, r_i2s, r_dup_i, r_dup_r, r_dup2_ii, r_dup2_ir, r_dup2_l, r_pop, r_getfield, r_putfield, r_iaload, r_iastore, r_aaload, r_arraylength, r_if_eq, r_icmp_eq, r_if_ne, r_icmp_ne, r_if_lt, r_icmp_lt, r_if_ge, r_icmp_ge, r_if_gt, r_icmp_gt, r_if_le, r_icmp_le, r_goto, r_switch, r_ireturn0, r_ireturn1, r_lreturn, r_areturn, r_return, r_inv0, r_inv1, r_inv2, r_inv3, r_inv4, r_inv5, r_min, r_max, r_acopy, onI_s, onL_s, onR_s, onO_s, fv0, fv1, fv2, fv3, fp1, fp20, fp21, fp3, tl_s, tl_n, lg0, lg1, lg2, lg3, lg4, lg5, lg6, lg7, lg8, lg9, lg10, lg11, lg12, lg13, lg14, lg15, lg16, lg17, ls0, ls1, ls2, ls3, ls4, ls5, ls6, ls7, ls8, ls9, ls10, ls11, ls12, ls13, ls14, ls15, ls16, ls17, lk0, lk1, lk2, lk3, lk4, lk5, lk6, lk7, lk8, lk9, lk10, lk11, lk12, lk13, lk14, lk15, lk16, lk17, kl_n, kl_i, kl_r, kl_l, Nat.reduceAdd, Nat.reduceLeDiff, not_false_eq_true, r_ins0, r_ins1, r_ins2, r_ins3, r_ins4, r_ins5]
  have e1 : N2 1 = M 1 := by rw [F2 1 (by decide), F1 1 (by decide)]
  have F3 : Fr [1, 7, 8] M (stM N2 1 6 (ix (pB t n).1)) := (F1.tr F2 (l := [1, 7, 8]) (by decide) (by decide)).st (by decide)
  by_cases h0 : (pB t n).1 = 0
  · rw [brc_pos (by rw [h0]; rfl)]
    simp only [B_1_0, B_1_1, cB, r_iconst_p, r_iconst_m, r_bipush_p, r_bipush_m, r_sipush_p, r_sipush_m, r_ldc_p, r_ldc_m, r_ldc_w_p, r_ldc_w_m, r_lconst_p, r_lconst_m, r_ldc2_w_p, r_ldc2_w_m, r_iload, r_iload_n, r_lload, r_lload_n, r_aload, r_aload_n, r_istore, r_istore_n, r_astore, r_astore_n, r_lstore, r_lstore_n, r_iinc_p, r_iinc_m, r_iadd, r_isub, r_imul, r_iand, r_ior, r_ixor, r_ishl, r_ishr, r_iushr, r_idiv, r_irem, r_ladd, r_lsub, r_lmul, r_ldiv, r_lrem, r_lshl, r_lcmp, r_i2l, r_i2b, r_i2s, r_dup_i, r_dup_r, r_dup2_ii, r_dup2_ir, r_dup2_l, r_pop, r_getfield, r_putfield, r_iaload, r_iastore, r_aaload, r_arraylength, r_if_eq, r_icmp_eq, r_if_ne, r_icmp_ne, r_if_lt, r_icmp_lt, r_if_ge, r_icmp_ge, r_if_gt, r_icmp_gt, r_if_le, r_icmp_le, r_goto, r_switch, r_ireturn0, r_ireturn1, r_lreturn, r_areturn, r_return, r_inv0, r_inv1, r_inv2, r_inv3, r_inv4, r_inv5, r_min, r_max, r_acopy, onI_s, onL_s, onR_s, onO_s, fv0, fv1, fv2, fv3, fp1, fp20, fp21, fp3, tl_s, tl_n, lg0, lg1, lg2, lg3, lg4, lg5, lg6, lg7, lg8, lg9, lg10, lg11, lg12, lg13, lg14, lg15, lg16, lg17, ls0, ls1, ls2, ls3, ls4, ls5, ls6, ls7, ls8, ls9, ls10, ls11, ls12, ls13, ls14, ls15, ls16, ls17, lk0, lk1, lk2, lk3, lk4, lk5, lk6, lk7, lk8, lk9, lk10, lk11, lk12, lk13, lk14, lk15, lk16, lk17, kl_n, kl_i, kl_r, kl_l, Nat.reduceAdd, Nat.reduceLeDiff, not_false_eq_true, r_ins0, r_ins1, r_ins2, r_ins3, r_ins4, r_ins5]
    refine ⟨trivial, F3, by rw [sm_eq, e1], ?_⟩
    unfold bkC
    rw [if_pos h0]
    intro c hc
    rw [sm_ne (by decide), sm_ne (by decide)]
    exact R2 h0 c hc
  · rw [brc_neg (by unfold ix; rw [if_neg h0, q_nm (by omega) (by omega) (by omega)]; exact not_false)]
    refine ⟨trivial, by simp, ?_⟩
    refine (s_clear _).mono ?_
    rintro r N4 ⟨rfl, F4, R4⟩
    simp only [B_1_0, B_1_1, cB, r_iconst_p, r_iconst_m, r_bipush_p, r_bipush_m, r_sipush_p, r_sipush_m, r_ldc_p, r_ldc_m, r_ldc_w_p, r_ldc_w_m, r_lconst_p, r_lconst_m, r_ldc2_w_p, r_ldc2_w_m, r_iload, r_iload_n, r_lload, r_lload_n, r_aload, r_aload_n, r_istore, r_istore_n, r_astore, r_astore_n, r_lstore, r_lstore_n, r_iinc_p, r_iinc_m, r_iadd, r_isub, r_imul, r_iand, r_ior, r_ixor, r_ishl, r_ishr, r_iushr, r_idiv, r_irem, r_ladd, r_lsub, r_lmul, r_ldiv, r_lrem, r_lshl, r_lcmp, r_i2l, r_i2b, r_i2s, r_dup_i, r_dup_r, r_dup2_ii, r_dup2_ir, r_dup2_l, r_pop, r_getfield, r_putfield, r_iaload, r_iastore, r_aaload, r_arraylength, r_if_eq, r_icmp_eq, r_if_ne, r_icmp_ne, r_if_lt, r_icmp_lt, r_if_ge, r_icmp_ge, r_if_gt, r_icmp_gt, r_if_le, r_icmp_le, r_goto, r_switch, r_ireturn0, r_ireturn1, r_lreturn, r_areturn, r_return, r_inv0, r_inv1, r_inv2, r_inv3, r_inv4, r_inv5, r_min, r_max, r_acopy, onI_s, onL_s, onR_s, onO_s, fv0, fv1, fv2, fv3, fp1, fp20, fp21, fp3, tl_s, tl_n, lg0, lg1, lg2, lg3, lg4, lg5, lg6, lg7, lg8, lg9, lg10, lg11, lg12, lg13, lg14, lg15, lg16, lg17, ls0, ls1, ls2, ls3, ls4, ls5, ls6, ls7, ls8, ls9, ls10, ls11, ls12, ls13, ls14, ls15, ls16, ls17, lk0, lk1, lk2, lk3, lk4, lk5, lk6, lk7, lk8, lk9, lk10, lk11, lk12, lk13, lk14, lk15, lk16, lk17, kl_n, kl_i, kl_r, kl_l, Nat.reduceAdd, Nat.reduceLeDiff, not_false_eq_true, r_ins0, r_ins1, r_ins2, r_ins3, r_ins4, r_ins5]
    refine ⟨trivial, F3.tr F4 (fun _ h => h) (by decide), by rw [F4 1 (by decide), sm_eq, e1], ?_⟩
    unfold bkC
    rw [if_neg h0]
    exact R4
