/-! the reference: doors, thaws, straw; serving -/
/-- an event of kind k in week w is told, and not gone -/
def tld (ek ew : Nat → Nat) (e k w : Nat) : Nat → Bool
  | 0 => false
  | n + 1 => tld ek ew e k w n || decide (ek n = k ∧ ew n = w ∧ e.testBit n = true)
def stw (ek ew ec : Nat → Nat) (e w c : Nat) : Nat → Bool
  | 0 => false
  | n + 1 => stw ek ew ec e w c n || decide (ek n = 2 ∧ ew n ≤ w ∧ ec n = c ∧ e.testBit n = true)
theorem tld_s (ek ew : Nat → Nat) (e k w n : Nat) : tld ek ew e k w (n + 1) = (tld ek ew e k w n || decide (ek n = k ∧ ew n = w ∧ e.testBit n = true)) := rfl
theorem stw_s (ek ew ec : Nat → Nat) (e w c n : Nat) : stw ek ew ec e w c (n + 1) = (stw ek ew ec e w c n || decide (ek n = 2 ∧ ew n ≤ w ∧ ec n = c ∧ e.testBit n = true)) := rfl
theorem evw_s (ek ew ec : Nat → Nat) (e n : Nat) : evw ek ew ec e (n + 1) = if e.testBit n = true then hap (ek n) (ew n) (ec n) (evw ek ew ec e n) else evw ek ew ec e n := rfl
theorem tb_or1 (a w v : Nat) : (a ||| 1 <<< w).testBit v = (a.testBit v || decide (w = v)) := by
  rw [Nat.testBit_or, Nat.one_shiftLeft, Nat.testBit_two_pow]
theorem evw_T {ek ew ec : Nat → Nat} {e : Nat} (w : Nat) : ∀ n, (evw ek ew ec e n).1.testBit w = tld ek ew e 0 w n ∧ (evw ek ew ec e n).2.1.testBit w = tld ek ew e 1 w n
  | 0 => by simp [evw, tld]
  | n + 1 => by
    obtain ⟨i1, i2⟩ := evw_T (ek := ek) (ew := ew) (ec := ec) (e := e) w n
    rw [evw_s, tld_s, tld_s, ← i1, ← i2]
    cases hb : e.testBit n with
    | false => simp
    | true =>
      rw [if_pos rfl]
      unfold hap
      by_cases h0 : ek n = 0
      · rw [if_pos h0]
        refine ⟨?_, ?_⟩
        · rw [tb_or1]
          congr 1
          apply decide_eq_decide.mpr
          exact ⟨fun q => ⟨h0, q, rfl⟩, fun q => q.2.1⟩
        · rw [decide_eq_false (by omega), Bool.or_false]
      · rw [if_neg h0]
        by_cases h1 : ek n = 1
        · rw [if_pos h1]
          refine ⟨?_, ?_⟩
          · rw [decide_eq_false (by omega), Bool.or_false]
          · rw [tb_or1]
            congr 1
            apply decide_eq_decide.mpr
            exact ⟨fun q => ⟨h1, q, rfl⟩, fun q => q.2.1⟩
        · rw [if_neg h1, decide_eq_false (by omega), decide_eq_false (by omega), Bool.or_false, Bool.or_false]
          exact ⟨rfl, rfl⟩
theorem evw_S {ek ew ec : Nat → Nat} {e : Nat} {w : Nat} (hw : w < 24) (hk : ∀ i, ek i ≤ 2) (c : Nat) : ∀ n, decide ((evw ek ew ec e n).2.2 c ≤ w) = stw ek ew ec e w c n
  | 0 => decide_eq_false (by show ¬ 24 ≤ w; omega)
  | n + 1 => by
    have ih := evw_S (ek := ek) (ew := ew) (ec := ec) (e := e) hw hk c n
    rw [evw_s, stw_s, ← ih]
    cases hb : e.testBit n with
    | false => simp
    | true =>
      rw [if_pos rfl]
      have hkn := hk n
      unfold hap
      by_cases h0 : ek n = 0
      · rw [if_pos h0, decide_eq_false (p := ek n = 2 ∧ _) (by omega), Bool.or_false]
      · rw [if_neg h0]
        by_cases h1 : ek n = 1
        · rw [if_pos h1, decide_eq_false (p := ek n = 2 ∧ _) (by omega), Bool.or_false]
        · rw [if_neg h1]
          dsimp only
          rw [← Bool.decide_or]
          apply decide_eq_decide.mpr
          by_cases hc : c = ec n
          · rw [if_pos hc, ← hc]
            constructor
            · intro q
              by_cases q2 : ew n ≤ w
              · exact Or.inr ⟨by omega, q2, rfl, rfl⟩
              · exact Or.inl (by omega)
            · rintro (q | q) <;> omega
          · rw [if_neg hc]
            constructor
            · exact Or.inl
            · rintro (q | q)
              · exact q
              · exact absurd q.2.2.1.symm hc
/-- the weather with some gone and a column covered from the first week -/
def wea (ek ew ec : Nat → Nat) (ne gn cv : Nat) : Wth := if cv = 0 then evw ek ew ec (255 - gn) ne else hap 2 0 (cv - 1) (evw ek ew ec (255 - gn) ne)
def stB (ek ew ec : Nat → Nat) (e cv w c : Nat) (n : Nat) : Bool := decide (cv = c + 1) || stw ek ew ec e w c n
theorem wea_ok {ek ew ec : Nat → Nat} {ne gn cv : Nat} (hw : ∀ i, ew i ≤ 23) : okWt (wea ek ew ec ne gn cv) := by
  unfold wea
  split
  · exact evw_ok hw ne
  · exact hap_ok (evw_ok hw ne) (by omega)
theorem wea_T {ek ew ec : Nat → Nat} {ne gn cv : Nat} (w : Nat) : (wea ek ew ec ne gn cv).1.testBit w = tld ek ew (255 - gn) 0 w ne ∧ (wea ek ew ec ne gn cv).2.1.testBit w = tld ek ew (255 - gn) 1 w ne := by
  unfold wea
  split
  · exact evw_T w ne
  · exact evw_T w ne
theorem wea_S {ek ew ec : Nat → Nat} {ne gn cv w : Nat} (hw : w < 24) (hk : ∀ i, ek i ≤ 2) (c : Nat) : swF (wea ek ew ec ne gn cv) w c = stB ek ew ec (255 - gn) cv w c ne := by
  unfold stB swF wea
  rw [← evw_S hw hk c ne]
  by_cases h : cv = 0
  · rw [if_pos h, decide_eq_false (p := cv = c + 1) (by omega), Bool.false_or]
  · rw [if_neg h, ← Bool.decide_or]
    apply decide_eq_decide.mpr
    unfold hap
    rw [if_neg (by omega), if_neg (by omega)]
    dsimp only
    by_cases hc : c = cv - 1
    · rw [if_pos hc]
      exact ⟨fun _ => Or.inl (by omega), fun _ => by omega⟩
    · rw [if_neg hc]
      exact ⟨Or.inr, fun q => q.elim (fun q => by omega) id⟩
theorem goneB : ∀ gn, gn < 256 → ∀ i, i < 8 → (255 - gn).testBit i = !gn.testBit i := by decide +kernel
section RS
variable {M : Mem} {ne gn cv : Nat} {ek ew ec : Nat → Nat}
set_option maxHeartbeats 1000000 in
theorem s_isTold (H : EvM M ne ek ew ec) (hg : M 62 13 = nI gn) (hg2 : gn < 256) {k w : Nat} (hk : k < 2) (hw : w < 24) : Ev 134 [.ref 62, .int (nI k), .int (nI w)] M (some (.int (nI (tld ek ew (255 - gn) k w ne).toNat))) M := by
  obtain ⟨h1, h2, h3, h4⟩ := H
  apply Ev.of
  simp only [E_134, B_134_0, B_134_2, B_134_3, B_134_4, B_134_5, cm, r_iconst_p, r_iconst_m, r_bipush_p, r_bipush_m, r_sipush_p, r_sipush_m, r_ldc_p, r_ldc_m, r_ldc_w_p, r_ldc_w_m, r_lconst_p, r_lconst_m, r_ldc2_w_p, r_ldc2_w_m, r_iload, r_iload_n, r_lload, r_lload_n, r_aload, r_aload_n, r_istore, r_istore_n, r_astore, r_astore_n, r_lstore, r_lstore_n, r_iinc_p, r_iinc_m, r_iadd, r_isub, r_imul, r_iand, r_ior, r_ixor, r_ishl, r_ishr, r_iushr, r_idiv, r_irem, r_ladd, r_lsub, r_lmul, r_ldiv, r_lrem, r_lshl, r_lcmp, r_i2l, r_i2b, r_i2s, r_dup_i, r_dup_r, r_dup2_ii, r_dup2_ir, r_dup2_l, r_pop, r_getfield, r_putfield, r_iaload, r_iastore, r_aaload, r_arraylength, r_if_eq, r_icmp_eq, r_if_ne, r_icmp_ne, r_if_lt, r_icmp_lt, r_if_ge, r_icmp_ge, r_if_gt, r_icmp_gt, r_if_le, r_icmp_le, r_goto, r_switch, r_ireturn0, r_ireturn1, r_lreturn, r_areturn, r_return, r_inv0, r_inv1, r_inv2, r_inv3, r_inv4, r_inv5, r_min, r_max, r_acopy, onI_s, onL_s, onR_s, onO_s, fv0, fv1, fv2, fv3, fp1, fp20, fp21, fp3, tl_s, tl_n, lg0, lg1, lg2, lg3, lg4, lg5, lg6, lg7, lg8, lg9, lg10, lg11, lg12, lg13, lg14, lg15, lg16, lg17, ls0, ls1, ls2, ls3, ls4, ls5, ls6, ls7, ls8, ls9, ls10, ls11, ls12, ls13, ls14, ls15, ls16, ls17, lk0, lk1, lk2, lk3, lk4, lk5, lk6, lk7, lk8, lk9, lk10, lk11, lk12, lk13, lk14, lk15, lk16, lk17, kl_n, kl_i, kl_r, kl_l, Nat.reduceAdd, Nat.reduceLeDiff, not_false_eq_true, r_ins0, r_ins1, r_ins2, r_ins3, r_ins4, r_ins5]
  have key : ∀ n i, i + n = ne → WP 134 [] 1 [some (.ref 62), some (.int (nI k)), some (.int (nI w)), some (.int (nI (tld ek ew (255 - gn) k w i).toNat)), some (.int (nI i))] [] M (fun v N => v = some (.int (nI (tld ek ew (255 - gn) k w ne).toNat)) ∧ N = M) := by
    intro n
    induction n with
    | zero =>
      intro i hi
      obtain rfl : i = ne := by omega
      rw [B_134_1]
      simp only [B_134_0, B_134_2, B_134_3, B_134_4, B_134_5, cm, r_iconst_p, r_iconst_m, r_bipush_p, r_bipush_m, r_sipush_p, r_sipush_m, r_ldc_p, r_ldc_m, r_ldc_w_p, r_ldc_w_m, r_lconst_p, r_lconst_m, r_ldc2_w_p, r_ldc2_w_m, r_iload, r_iload_n, r_lload, r_lload_n, r_aload, r_aload_n, r_istore, r_istore_n, r_astore, r_astore_n, r_lstore, r_lstore_n, r_iinc_p, r_iinc_m, r_iadd, r_isub, r_imul, r_iand, r_ior, r_ixor, r_ishl, r_ishr, r_iushr, r_idiv, r_irem, r_ladd, r_lsub, r_lmul, r_ldiv, r_lrem, r_lshl, r_lcmp, r_i2l, r_i2b, r_i2s, r_dup_i, r_dup_r, r_dup2_ii, r_dup2_ir, r_dup2_l, r_pop, r_getfield, r_putfield, r_iaload, r_iastore, r_aaload, r_arraylength, r_if_eq, r_icmp_eq, r_if_ne, r_icmp_ne, r_if_lt, r_icmp_lt, r_if_ge, r_icmp_ge, r_if_gt, r_icmp_gt, r_if_le, r_icmp_le, r_goto, r_switch, r_ireturn0, r_ireturn1, r_lreturn, r_areturn, r_return, r_inv0, r_inv1, r_inv2, r_inv3, r_inv4, r_inv5, r_min, r_max, r_acopy, onI_s, onL_s, onR_s, onO_s, fv0, fv1, fv2, fv3, fp1, fp20, fp21, fp3, tl_s, tl_n, lg0, lg1, lg2, lg3, lg4, lg5, lg6, lg7, lg8, lg9, lg10, lg11, lg12, lg13, lg14, lg15, lg16, lg17, ls0, ls1, ls2, ls3, ls4, ls5, ls6, ls7, ls8, ls9, ls10, ls11, ls12, ls13, ls14, ls15, ls16, ls17, lk0, lk1, lk2, lk3, lk4, lk5, lk6, lk7, lk8, lk9, lk10, lk11, lk12, lk13, lk14, lk15, lk16, lk17, kl_n, kl_i, kl_r, kl_l, Nat.reduceAdd, Nat.reduceLeDiff, not_false_eq_true, r_ins0, r_ins1, r_ins2, r_ins3, r_ins4, r_ins5]
      rw [h1, brc_pos (Int32.le_refl _)]
      exact ⟨by cases tld ek ew (255 - gn) k w i <;> simp, trivial, trivial⟩
    | succ n ih =>
      intro i hi
      have hi8 : i < ne := by omega
      have ⟨a1, a2, a3⟩ := h3 i hi8
      have ⟨b1, b2, b3⟩ := h4 i
      have nx : ∀ x : Bool, x = tld ek ew (255 - gn) k w (i + 1) → ∀ v, WP 134 [] 4 [some (.ref 62), some (.int (nI k)), some (.int (nI w)), v, some (.int (nI i))] [.int (nI x.toNat)] M (fun v N => v = some (.int (nI (tld ek ew (255 - gn) k w ne).toNat)) ∧ N = M) := by
        intro x hx v
        subst hx
        simp only [B_134_0, B_134_2, B_134_3, B_134_4, B_134_5, cm, r_iconst_p, r_iconst_m, r_bipush_p, r_bipush_m, r_sipush_p, r_sipush_m, r_ldc_p, r_ldc_m, r_ldc_w_p, r_ldc_w_m, r_lconst_p, r_lconst_m, r_ldc2_w_p, r_ldc2_w_m, r_iload, r_iload_n, r_lload, r_lload_n, r_aload, r_aload_n, r_istore, r_istore_n, r_astore, r_astore_n, r_lstore, r_lstore_n, r_iinc_p, r_iinc_m, r_iadd, r_isub, r_imul, r_iand, r_ior, r_ixor, r_ishl, r_ishr, r_iushr, r_idiv, r_irem, r_ladd, r_lsub, r_lmul, r_ldiv, r_lrem, r_lshl, r_lcmp, r_i2l, r_i2b, r_i2s, r_dup_i, r_dup_r, r_dup2_ii, r_dup2_ir, r_dup2_l, r_pop, r_getfield, r_putfield, r_iaload, r_iastore, r_aaload, r_arraylength, r_if_eq, r_icmp_eq, r_if_ne, r_icmp_ne, r_if_lt, r_icmp_lt, r_if_ge, r_icmp_ge, r_if_gt, r_icmp_gt, r_if_le, r_icmp_le, r_goto, r_switch, r_ireturn0, r_ireturn1, r_lreturn, r_areturn, r_return, r_inv0, r_inv1, r_inv2, r_inv3, r_inv4, r_inv5, r_min, r_max, r_acopy, onI_s, onL_s, onR_s, onO_s, fv0, fv1, fv2, fv3, fp1, fp20, fp21, fp3, tl_s, tl_n, lg0, lg1, lg2, lg3, lg4, lg5, lg6, lg7, lg8, lg9, lg10, lg11, lg12, lg13, lg14, lg15, lg16, lg17, ls0, ls1, ls2, ls3, ls4, ls5, ls6, ls7, ls8, ls9, ls10, ls11, ls12, ls13, ls14, ls15, ls16, ls17, lk0, lk1, lk2, lk3, lk4, lk5, lk6, lk7, lk8, lk9, lk10, lk11, lk12, lk13, lk14, lk15, lk16, lk17, kl_n, kl_i, kl_r, kl_l, Nat.reduceAdd, Nat.reduceLeDiff, not_false_eq_true, r_ins0, r_ins1, r_ins2, r_ins3, r_ins4, r_ins5]
        rw [q_add]
        exact ih (i + 1) (by omega)
      have hs := tld_s ek ew (255 - gn) k w i
      rw [goneB gn hg2 i (by omega)] at hs
      rw [B_134_1]
      simp only [B_134_0, B_134_2, B_134_3, B_134_5, cm, h1, hg, q_mul, q_add, nI_clamp (show 3 * i < 2 ^ 31 by omega), nI_clamp (show 3 * i + 1 < 2 ^ 31 by omega), a1, a2, s_isIn (show gn < 2 ^ 31 by omega) (show i < 31 by omega), r_iconst_p, r_iconst_m, r_bipush_p, r_bipush_m, r_sipush_p, r_sipush_m, r_ldc_p, r_ldc_m, r_ldc_w_p, r_ldc_w_m, r_lconst_p, r_lconst_m, r_ldc2_w_p, r_ldc2_w_m, r_iload, r_iload_n, r_lload, r_lload_n, r_aload, r_aload_n, r_istore, r_istore_n, r_astore, r_astore_n, r_lstore, r_lstore_n, r_iinc_p, r_iinc_m, r_iadd, r_isub, r_imul, r_iand, r_ior, r_ixor, r_ishl, r_ishr, r_iushr, r_idiv, r_irem, r_ladd, r_lsub, r_lmul, r_ldiv, r_lrem, r_lshl, r_lcmp, r_i2l, r_i2b, r_i2s, r_dup_i, r_dup_r, r_dup2_ii, r_dup2_ir, r_dup2_l, r_pop, r_getfield, r_putfield, r_iaload, r_iastore, r_aaload, r_arraylength, r_if_eq, r_icmp_eq, r_if_ne, r_icmp_ne, r_if_lt, r_icmp_lt, r_if_ge, r_icmp_ge, r_if_gt, r_icmp_gt, r_if_le, r_icmp_le, r_goto, r_switch, r_ireturn0, r_ireturn1, r_lreturn, r_areturn, r_return, r_inv0, r_inv1, r_inv2, r_inv3, r_inv4, r_inv5, r_min, r_max, r_acopy, onI_s, onL_s, onR_s, onO_s, fv0, fv1, fv2, fv3, fp1, fp20, fp21, fp3, tl_s, tl_n, lg0, lg1, lg2, lg3, lg4, lg5, lg6, lg7, lg8, lg9, lg10, lg11, lg12, lg13, lg14, lg15, lg16, lg17, ls0, ls1, ls2, ls3, ls4, ls5, ls6, ls7, ls8, ls9, ls10, ls11, ls12, ls13, ls14, ls15, ls16, ls17, lk0, lk1, lk2, lk3, lk4, lk5, lk6, lk7, lk8, lk9, lk10, lk11, lk12, lk13, lk14, lk15, lk16, lk17, kl_n, kl_i, kl_r, kl_l, Nat.reduceAdd, Nat.reduceLeDiff, not_false_eq_true, r_ins0, r_ins1, r_ins2, r_ins3, r_ins4, r_ins5]
      rw [brc_neg (nI_ge (by omega) (by omega)), inb_n (n := 24) rfl (by omega) (by omega), inb_n (n := 24) rfl (by omega) (by omega), q_eq (show ek i < 2 ^ 31 by omega) (show k < 2 ^ 31 by omega), q_eq (show ew i < 2 ^ 31 by omega) (show w < 2 ^ 31 by omega)]
      cases ht : tld ek ew (255 - gn) k w i with
      | true =>
        rw [rT', n10, brc_nF]
        exact nx true (by rw [hs, ht, Bool.true_or]) _
      | false =>
        rw [ht, Bool.false_or] at hs
        rw [rF', brc_neg (fun q => q rfl)]
        refine ⟨by omega, brc_i (fun c1 => nx false (by rw [hs, decide_eq_false (fun q => c1 q.1)]) _) (fun c1 => ⟨by omega, brc_i (fun c2 => nx false (by rw [hs, decide_eq_false (fun q => c2 q.2.1)]) _) (fun c2 => ⟨by simp, ?_⟩)⟩)⟩
        cases hb : gn.testBit i with
        | true => rw [rT', n10, brc_nF]; exact nx false (by rw [hs, hb, decide_eq_false (fun q => by cases q.2.2)]) _
        | false => rw [rF', brc_neg (fun q => q rfl)]; exact nx true (by rw [hs, hb, decide_eq_true (by exact ⟨Classical.not_not.mp c1, Classical.not_not.mp c2, rfl⟩)]) _
  exact key ne 0 (by omega)
set_option maxHeartbeats 1000000 in
theorem s_strawBy (H : EvM M ne ek ew ec) (hg : M 62 13 = nI gn) (hg2 : gn < 256) (hv : M 62 14 = ix cv) (hv2 : cv ≤ 6) {w : Nat} (hw : w < 24) : Ct 135 [.ref 62, .int (nI w)] M (fun r N => N = M ∧ ∃ sb, r = some (.int (nI sb)) ∧ sb < 2 ^ 6 ∧ ∀ c, c < 6 → sb.testBit c = stB ek ew ec (255 - gn) cv w c ne) := by
  obtain ⟨h1, h2, h3, h4⟩ := H
  have key : ∀ n i sb, i + n = ne → sb < 2 ^ 6 → (∀ c, c < 6 → sb.testBit c = stB ek ew ec (255 - gn) cv w c i) → WP 135 [] 3 [some (.ref 62), some (.int (nI w)), some (.int (nI sb)), some (.int (nI i))] [] M (fun r N => N = M ∧ ∃ sb, r = some (.int (nI sb)) ∧ sb < 2 ^ 6 ∧ ∀ c, c < 6 → sb.testBit c = stB ek ew ec (255 - gn) cv w c ne) := by
    intro n
    induction n with
    | zero =>
      intro i sb hi hs hb
      obtain rfl : i = ne := by omega
      rw [B_135_3]
      simp only [B_135_0, B_135_1, B_135_2, B_135_4, B_135_5, B_135_6, cm, r_iconst_p, r_iconst_m, r_bipush_p, r_bipush_m, r_sipush_p, r_sipush_m, r_ldc_p, r_ldc_m, r_ldc_w_p, r_ldc_w_m, r_lconst_p, r_lconst_m, r_ldc2_w_p, r_ldc2_w_m, r_iload, r_iload_n, r_lload, r_lload_n, r_aload, r_aload_n, r_istore, r_istore_n, r_astore, r_astore_n, r_lstore, r_lstore_n, r_iinc_p, r_iinc_m, r_iadd, r_isub, r_imul, r_iand, r_ior, r_ixor, r_ishl, r_ishr, r_iushr, r_idiv, r_irem, r_ladd, r_lsub, r_lmul, r_ldiv, r_lrem, r_lshl, r_lcmp, r_i2l, r_i2b, r_i2s, r_dup_i, r_dup_r, r_dup2_ii, r_dup2_ir, r_dup2_l, r_pop, r_getfield, r_putfield, r_iaload, r_iastore, r_aaload, r_arraylength, r_if_eq, r_icmp_eq, r_if_ne, r_icmp_ne, r_if_lt, r_icmp_lt, r_if_ge, r_icmp_ge, r_if_gt, r_icmp_gt, r_if_le, r_icmp_le, r_goto, r_switch, r_ireturn0, r_ireturn1, r_lreturn, r_areturn, r_return, r_inv0, r_inv1, r_inv2, r_inv3, r_inv4, r_inv5, r_min, r_max, r_acopy, onI_s, onL_s, onR_s, onO_s, fv0, fv1, fv2, fv3, fp1, fp20, fp21, fp3, tl_s, tl_n, lg0, lg1, lg2, lg3, lg4, lg5, lg6, lg7, lg8, lg9, lg10, lg11, lg12, lg13, lg14, lg15, lg16, lg17, ls0, ls1, ls2, ls3, ls4, ls5, ls6, ls7, ls8, ls9, ls10, ls11, ls12, ls13, ls14, ls15, ls16, ls17, lk0, lk1, lk2, lk3, lk4, lk5, lk6, lk7, lk8, lk9, lk10, lk11, lk12, lk13, lk14, lk15, lk16, lk17, kl_n, kl_i, kl_r, kl_l, Nat.reduceAdd, Nat.reduceLeDiff, not_false_eq_true, r_ins0, r_ins1, r_ins2, r_ins3, r_ins4, r_ins5]
      rw [h1, brc_pos (Int32.le_refl _)]
      exact ⟨trivial, sb, rfl, hs, hb⟩
    | succ n ih =>
      intro i sb hi hs hb
      have hi8 : i < ne := by omega
      have ⟨a1, a2, a3⟩ := h3 i hi8
      have ⟨b1, b2, b3⟩ := h4 i
      have hss : ∀ c, stB ek ew ec (255 - gn) cv w c (i + 1) = (stB ek ew ec (255 - gn) cv w c i || decide (ek i = 2 ∧ ew i ≤ w ∧ ec i = c ∧ (!gn.testBit i) = true)) := by
        intro c
        unfold stB
        rw [stw_s, goneB gn hg2 i (by omega), Bool.or_assoc]
      have nx : ∀ x : Nat, x < 2 ^ 6 → (∀ c, c < 6 → x.testBit c = decide (ek i = 2 ∧ ew i ≤ w ∧ ec i = c ∧ (!gn.testBit i) = true)) → WP 135 [] 5 [some (.ref 62), some (.int (nI w)), some (.int (nI sb)), some (.int (nI i))] [.int (nI x), .int (nI sb)] M (fun r N => N = M ∧ ∃ sb, r = some (.int (nI sb)) ∧ sb < 2 ^ 6 ∧ ∀ c, c < 6 → sb.testBit c = stB ek ew ec (255 - gn) cv w c ne) := by
        intro x hx hc
        simp only [B_135_0, B_135_1, B_135_2, B_135_4, B_135_5, B_135_6, cm, r_iconst_p, r_iconst_m, r_bipush_p, r_bipush_m, r_sipush_p, r_sipush_m, r_ldc_p, r_ldc_m, r_ldc_w_p, r_ldc_w_m, r_lconst_p, r_lconst_m, r_ldc2_w_p, r_ldc2_w_m, r_iload, r_iload_n, r_lload, r_lload_n, r_aload, r_aload_n, r_istore, r_istore_n, r_astore, r_astore_n, r_lstore, r_lstore_n, r_iinc_p, r_iinc_m, r_iadd, r_isub, r_imul, r_iand, r_ior, r_ixor, r_ishl, r_ishr, r_iushr, r_idiv, r_irem, r_ladd, r_lsub, r_lmul, r_ldiv, r_lrem, r_lshl, r_lcmp, r_i2l, r_i2b, r_i2s, r_dup_i, r_dup_r, r_dup2_ii, r_dup2_ir, r_dup2_l, r_pop, r_getfield, r_putfield, r_iaload, r_iastore, r_aaload, r_arraylength, r_if_eq, r_icmp_eq, r_if_ne, r_icmp_ne, r_if_lt, r_icmp_lt, r_if_ge, r_icmp_ge, r_if_gt, r_icmp_gt, r_if_le, r_icmp_le, r_goto, r_switch, r_ireturn0, r_ireturn1, r_lreturn, r_areturn, r_return, r_inv0, r_inv1, r_inv2, r_inv3, r_inv4, r_inv5, r_min, r_max, r_acopy, onI_s, onL_s, onR_s, onO_s, fv0, fv1, fv2, fv3, fp1, fp20, fp21, fp3, tl_s, tl_n, lg0, lg1, lg2, lg3, lg4, lg5, lg6, lg7, lg8, lg9, lg10, lg11, lg12, lg13, lg14, lg15, lg16, lg17, ls0, ls1, ls2, ls3, ls4, ls5, ls6, ls7, ls8, ls9, ls10, ls11, ls12, ls13, ls14, ls15, ls16, ls17, lk0, lk1, lk2, lk3, lk4, lk5, lk6, lk7, lk8, lk9, lk10, lk11, lk12, lk13, lk14, lk15, lk16, lk17, kl_n, kl_i, kl_r, kl_l, Nat.reduceAdd, Nat.reduceLeDiff, not_false_eq_true, r_ins0, r_ins1, r_ins2, r_ins3, r_ins4, r_ins5]
        rw [q_add, q_or]
        refine ih (i + 1) _ (by omega) (Nat.or_lt_two_pow hs hx) (fun c h6 => ?_)
        rw [Nat.testBit_or, hb c h6, hc c h6, hss]
      have n0 : ¬ (ek i = 2 ∧ ew i ≤ w ∧ (!gn.testBit i) = true) → ∀ c, c < 6 → (0 : Nat).testBit c = decide (ek i = 2 ∧ ew i ≤ w ∧ ec i = c ∧ (!gn.testBit i) = true) := by
        intro h c _
        rw [Nat.zero_testBit, decide_eq_false (fun q => h ⟨q.1, q.2.1, q.2.2.2⟩)]
      rw [B_135_3]
      simp only [B_135_0, B_135_1, B_135_2, B_135_4, B_135_6, cm, h1, hg, q_mul, q_add, nI_clamp (show 3 * i < 2 ^ 31 by omega), nI_clamp (show 3 * i + 1 < 2 ^ 31 by omega), nI_clamp (show 3 * i + 2 < 2 ^ 31 by omega), a1, a2, a3, s_isIn (show gn < 2 ^ 31 by omega) (show i < 31 by omega), shl1 (show ec i < 31 by omega), r_iconst_p, r_iconst_m, r_bipush_p, r_bipush_m, r_sipush_p, r_sipush_m, r_ldc_p, r_ldc_m, r_ldc_w_p, r_ldc_w_m, r_lconst_p, r_lconst_m, r_ldc2_w_p, r_ldc2_w_m, r_iload, r_iload_n, r_lload, r_lload_n, r_aload, r_aload_n, r_istore, r_istore_n, r_astore, r_astore_n, r_lstore, r_lstore_n, r_iinc_p, r_iinc_m, r_iadd, r_isub, r_imul, r_iand, r_ior, r_ixor, r_ishl, r_ishr, r_iushr, r_idiv, r_irem, r_ladd, r_lsub, r_lmul, r_ldiv, r_lrem, r_lshl, r_lcmp, r_i2l, r_i2b, r_i2s, r_dup_i, r_dup_r, r_dup2_ii, r_dup2_ir, r_dup2_l, r_pop, r_getfield, r_putfield, r_iaload, r_iastore, r_aaload, r_arraylength, r_if_eq, r_icmp_eq, r_if_ne, r_icmp_ne, r_if_lt, r_icmp_lt, r_if_ge, r_icmp_ge, r_if_gt, r_icmp_gt, r_if_le, r_icmp_le, r_goto, r_switch, r_ireturn0, r_ireturn1, r_lreturn, r_areturn, r_return, r_inv0, r_inv1, r_inv2, r_inv3, r_inv4, r_inv5, r_min, r_max, r_acopy, onI_s, onL_s, onR_s, onO_s, fv0, fv1, fv2, fv3, fp1, fp20, fp21, fp3, tl_s, tl_n, lg0, lg1, lg2, lg3, lg4, lg5, lg6, lg7, lg8, lg9, lg10, lg11, lg12, lg13, lg14, lg15, lg16, lg17, ls0, ls1, ls2, ls3, ls4, ls5, ls6, ls7, ls8, ls9, ls10, ls11, ls12, ls13, ls14, ls15, ls16, ls17, lk0, lk1, lk2, lk3, lk4, lk5, lk6, lk7, lk8, lk9, lk10, lk11, lk12, lk13, lk14, lk15, lk16, lk17, kl_n, kl_i, kl_r, kl_l, Nat.reduceAdd, Nat.reduceLeDiff, not_false_eq_true, r_ins0, r_ins1, r_ins2, r_ins3, r_ins4, r_ins5]
      rw [brc_neg (nI_ge (by omega) (by omega)), inb_n (n := 24) rfl (by omega) (by omega), inb_n (n := 24) rfl (by omega) (by omega), inb_n (n := 24) rfl (by omega) (by omega), q_eq (by omega) (by omega), q_lt (by omega) (by omega)]
      refine ⟨by omega, brc_i (fun c1 => nx 0 (by decide) (n0 (fun q => c1 q.1))) (fun c1 => ⟨by omega, brc_i (fun c2 => nx 0 (by decide) (n0 (fun q => by omega))) (fun c2 => ⟨by simp, ?_⟩)⟩)⟩
      cases hg3 : gn.testBit i with
      | true => rw [rT', n10, brc_nF]; exact nx 0 (by decide) (n0 (fun q => by rw [hg3] at q; cases q.2.2))
      | false =>
        rw [rF', brc_neg (fun q => q rfl)]
        refine ⟨by omega, nx _ (bit_lt (by omega)) (fun c _ => ?_)⟩
        rw [Nat.one_shiftLeft, Nat.testBit_two_pow, hg3]
        apply decide_eq_decide.mpr
        exact ⟨fun q => ⟨Classical.not_not.mp c1, by omega, q, rfl⟩, fun q => q.2.2.1⟩
  simp only [E_135, B_135_0, B_135_1, B_135_2, B_135_4, B_135_5, B_135_6, cm, hv, r_iconst_p, r_iconst_m, r_bipush_p, r_bipush_m, r_sipush_p, r_sipush_m, r_ldc_p, r_ldc_m, r_ldc_w_p, r_ldc_w_m, r_lconst_p, r_lconst_m, r_ldc2_w_p, r_ldc2_w_m, r_iload, r_iload_n, r_lload, r_lload_n, r_aload, r_aload_n, r_istore, r_istore_n, r_astore, r_astore_n, r_lstore, r_lstore_n, r_iinc_p, r_iinc_m, r_iadd, r_isub, r_imul, r_iand, r_ior, r_ixor, r_ishl, r_ishr, r_iushr, r_idiv, r_irem, r_ladd, r_lsub, r_lmul, r_ldiv, r_lrem, r_lshl, r_lcmp, r_i2l, r_i2b, r_i2s, r_dup_i, r_dup_r, r_dup2_ii, r_dup2_ir, r_dup2_l, r_pop, r_getfield, r_putfield, r_iaload, r_iastore, r_aaload, r_arraylength, r_if_eq, r_icmp_eq, r_if_ne, r_icmp_ne, r_if_lt, r_icmp_lt, r_if_ge, r_icmp_ge, r_if_gt, r_icmp_gt, r_if_le, r_icmp_le, r_goto, r_switch, r_ireturn0, r_ireturn1, r_lreturn, r_areturn, r_return, r_inv0, r_inv1, r_inv2, r_inv3, r_inv4, r_inv5, r_min, r_max, r_acopy, onI_s, onL_s, onR_s, onO_s, fv0, fv1, fv2, fv3, fp1, fp20, fp21, fp3, tl_s, tl_n, lg0, lg1, lg2, lg3, lg4, lg5, lg6, lg7, lg8, lg9, lg10, lg11, lg12, lg13, lg14, lg15, lg16, lg17, ls0, ls1, ls2, ls3, ls4, ls5, ls6, ls7, ls8, ls9, ls10, ls11, ls12, ls13, ls14, ls15, ls16, ls17, lk0, lk1, lk2, lk3, lk4, lk5, lk6, lk7, lk8, lk9, lk10, lk11, lk12, lk13, lk14, lk15, lk16, lk17, kl_n, kl_i, kl_r, kl_l, Nat.reduceAdd, Nat.reduceLeDiff, not_false_eq_true, r_ins0, r_ins1, r_ins2, r_ins3, r_ins4, r_ins5]
  rw [ix_m1 (by omega)]
  refine brc_i (fun hz => ?_) (fun hz => ?_)
  · have e : ix cv = nI (cv - 1) := by unfold ix; rw [if_neg hz]
    rw [e, shl1 (by omega)]
    refine key ne 0 _ (by omega) (bit_lt (by omega)) (fun c _ => ?_)
    rw [Nat.one_shiftLeft, Nat.testBit_two_pow]
    unfold stB stw
    rw [Bool.or_false]
    apply decide_eq_decide.mpr
    omega
  · refine key ne 0 0 (by omega) (by decide) (fun c _ => ?_)
    rw [Nat.zero_testBit]
    unfold stB stw
    rw [decide_eq_false (by omega)]
    rfl
end RS
