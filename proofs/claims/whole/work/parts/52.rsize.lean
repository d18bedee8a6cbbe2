/-! the reference: sizes, ask -/
def r7 (C : Col) : Nat → Nat
  | 0 => 0
  | n + 1 => 7 * r7 C n + (C n).length
theorem r7_s (C : Col) (n : Nat) : r7 C (n + 1) = 7 * r7 C n + (C n).length := rfl
theorem r7_le {C : Col} (h : okC6 C) : ∀ n, n ≤ 6 → r7 C n < 7 ^ n
  | 0, _ => Nat.zero_lt_one
  | n + 1, hn => by
    have ih := r7_le h n (by omega)
    have hl := (h n).1
    rw [r7_s, Nat.pow_succ]
    omega
theorem r7_eq {C D : Col} (hC : okC6 C) (hD : okC6 D) : ∀ n, r7 C n = r7 D n ↔ ∀ c, c < n → (C c).length = (D c).length
  | 0 => ⟨fun _ c hc => absurd hc (Nat.not_lt_zero c), fun _ => rfl⟩
  | n + 1 => by
    have ih := r7_eq hC hD n
    have h1 := (hC n).1
    have h2 := (hD n).1
    rw [r7_s, r7_s]
    constructor
    · intro q c hc
      have e1 : r7 C n = r7 D n := by omega
      have e2 : (C n).length = (D n).length := by omega
      by_cases e : c = n
      · rw [e]; exact e2
      · exact ih.mp e1 c (by omega)
    · intro q
      rw [ih.mpr (fun c hc => q c (by omega)), q n (by omega)]
theorem shp_cg {C D : Col} : ∀ n, (∀ c, c < n → (C c).length = (D c).length) → shp C n = shp D n
  | 0, _ => rfl
  | n + 1, h => by
    unfold shp
    rw [shp_cg n (fun c hc => h c (by omega)), h n (by omega)]
theorem shp_r7 {C D : Col} (hC : okC6 C) (hD : okC6 D) : shp C 6 = shp D 6 ↔ r7 C 6 = r7 D 6 := by
  rw [r7_eq hC hD]
  constructor
  · intro q c hc
    rw [← shp_bit hC 6 c hc, ← shp_bit hD 6 c hc, q]
  · exact shp_cg 6
theorem mal_cg {s : Nat} {f f' : Nat → Nat} (h : ∀ a b, 1 ≤ a → a ≤ 9 → 1 ≤ b → b ≤ 9 → (f a = f b ↔ f' a = f' b)) : ∀ n, n ≤ 9 → mal s f n = mal s f' n
  | 0, _ => rfl
  | n + 1, hn => by
    show max _ _ = max _ _
    rw [mal_cg h n (by omega)]
    congr 1
    unfold cnt
    apply smN_congr
    intro j hj
    simp only [h (n + 1) (j + 1) (by omega) (by omega) (by omega) (by omega)]
def amn (f : Nat → Nat) : Nat → Nat
  | 0 => 0
  | n + 1 => if f n < f (amn f n) then n else amn f n
theorem amn_s (f : Nat → Nat) (n : Nat) : amn f (n + 1) = if f n < f (amn f n) then n else amn f n := rfl
theorem amn_1 (f : Nat → Nat) : amn f 1 = 0 := by rw [amn_s]; show (if f 0 < f 0 then _ else _) = _; rw [if_neg (by omega)]; rfl
theorem amn_lt (f : Nat → Nat) : ∀ n, amn f (n + 1) ≤ n
  | 0 => by rw [amn_1]; exact Nat.le_refl _
  | n + 1 => by
    have ih := amn_lt f n
    rw [amn_s]
    split
    · exact Nat.le_refl _
    · omega
theorem mnf_amn {K : Nat} {f : Nat → Nat} (h : ∀ w, f w < K) : ∀ n, mnf K f (n + 1) = (amn f (n + 1) + 1, f (amn f (n + 1)))
  | 0 => by
    rw [mnf_s, amn_1]
    show (if f 0 < K then _ else _) = _
    rw [if_pos (h 0)]
  | n + 1 => by
    rw [mnf_s, mnf_amn h n, amn_s f (n + 1)]
    dsimp only
    by_cases q : f (n + 1) < f (amn f (n + 1))
    · rw [if_pos q, if_pos q]
    · rw [if_neg q, if_neg q]
theorem setb_setb (B : Col) (c h v v' : Nat) : setb (setb B c h v) c h v' = setb B c h v' := by
  funext d
  unfold setb setc
  by_cases e : d = c
  · rw [if_pos e, if_pos e, if_pos rfl, List.set_set]
  · rw [if_neg e, if_neg e, if_neg e]
theorem setb_id {B : Col} {c h : Nat} (hh : h < (B c).length) : setb B c h ((B c).getD h 0) = B := by
  funext d
  unfold setb setc
  by_cases e : d = c
  · rw [if_pos e, e, List.getD_eq_getElem?_getD, List.getElem?_eq_getElem hh]
    exact List.set_getElem_self hh
  · rw [if_neg e]
section RP
variable {M N : Mem} {Q : Option Value → Mem → Prop} {B : Col} {no ne gn cv a b : Nat} {ow oq ek ew ec : Nat → Nat} {g : Sg} {I : Inp}
theorem LV.st (h : LV M B no ow oq ne ek ew ec gn cv a b) {c i : Nat} {x : Int32} (hc : c ≠ 62 ∧ (c < 69 ∨ 72 < c)) : LV (stM M c i x) B no ow oq ne ek ew ec gn cv a b := h.mv (fun d hd => sm_ne (by omega)) (fun j _ => by rw [sm_ne (by omega)])
theorem LV.blk (h : LV M B no ow oq ne ek ew ec gn cv a b) {c k v : Nat} (hc : c < 6) (hk : k < (B c).length) (hv : 1 ≤ v ∧ v ≤ 9) : LV (stM M 70 (6 * c + k) (nI v)) (setb B c k v) no ow oq ne ek ew ec gn cv a b := by
  obtain ⟨l1, l2, l3, l4, l5, l6, l7, l8, l9, l10, l11, l12⟩ := h
  refine ⟨?_, setb_ok l2 c hv, ⟨by rw [sm_ne (by decide)]; exact l3.1, by rw [sm_ne (by decide)]; exact l3.2⟩, l4, l5, l6, ⟨by rw [sm_ne (by decide)]; exact l7.1, l7.2.1, by rw [sm_ne (by decide)]; exact l7.2.2.1, l7.2.2.2⟩, ⟨by rw [sm_ne (by decide)]; exact l8.1, l8.2⟩, ⟨by rw [sm_ne (by decide)]; exact l9.1, l9.2⟩, by rw [sm_ne (by decide)]; exact l10, by rw [sm_ne (by decide)]; exact l11, l12⟩
  intro d hd
  have hl := (l2 d).1
  have hl2 := (l2 c).1
  rw [sm_ne (show ¬ 69 = 70 by decide), sm_eq]
  unfold setb setc
  by_cases e : d = c
  · subst e
    rw [if_pos rfl, List.length_set]
    refine ⟨(l1 d hd).1, fun j hj => ?_⟩
    rw [u_if, List.getD_eq_getElem?_getD, List.getElem?_set]
    by_cases e2 : j = k
    · subst e2
      rw [if_pos rfl, if_pos rfl, if_pos hk]; rfl
    · rw [if_neg (by omega), if_neg (by omega), ← List.getD_eq_getElem?_getD]
      exact (l1 d hd).2 j hj
  · rw [if_neg e]
    refine ⟨(l1 d hd).1, fun j hj => ?_⟩
    rw [u_ne (by omega)]
    exact (l1 d hd).2 j hj
theorem s_rowOf {w : Nat} (hO : OcM I M) (hI : okI I) (hw : w < 24) : Ct 178 [.ref 62, .int (nI w)] M Q = Q (some (.int (nI (r7 (yr I (w + 1)).1 6)))) M := by
  refine Ev.ct (Ev.of ?_) Q
  simp only [E_178, B_178_0, B_178_2, cm, r_iconst_p, r_iconst_m, r_bipush_p, r_bipush_m, r_sipush_p, r_sipush_m, r_ldc_p, r_ldc_m, r_ldc_w_p, r_ldc_w_m, r_lconst_p, r_lconst_m, r_ldc2_w_p, r_ldc2_w_m, r_iload, r_iload_n, r_lload, r_lload_n, r_aload, r_aload_n, r_istore, r_istore_n, r_astore, r_astore_n, r_lstore, r_lstore_n, r_iinc_p, r_iinc_m, r_iadd, r_isub, r_imul, r_iand, r_ior, r_ixor, r_ishl, r_ishr, r_iushr, r_idiv, r_irem, r_ladd, r_lsub, r_lmul, r_ldiv, r_lrem, r_lshl, r_lcmp, r_i2l, r_i2b, r_i2s, r_dup_i, r_dup_r, r_dup2_ii, r_dup2_ir, r_dup2_l, r_pop, r_getfield, r_putfield, r_iaload, r_iastore, r_aaload, r_arraylength, r_if_eq, r_icmp_eq, r_if_ne, r_icmp_ne, r_if_lt, r_icmp_lt, r_if_ge, r_icmp_ge, r_if_gt, r_icmp_gt, r_if_le, r_icmp_le, r_goto, r_switch, r_ireturn0, r_ireturn1, r_lreturn, r_areturn, r_return, r_inv0, r_inv1, r_inv2, r_inv3, r_inv4, r_inv5, r_min, r_max, r_acopy, onI_s, onL_s, onR_s, onO_s, fv0, fv1, fv2, fv3, fp1, fp20, fp21, fp3, tl_s, tl_n, lg0, lg1, lg2, lg3, lg4, lg5, lg6, lg7, lg8, lg9, lg10, lg11, lg12, lg13, lg14, lg15, lg16, lg17, ls0, ls1, ls2, ls3, ls4, ls5, ls6, ls7, ls8, ls9, ls10, ls11, ls12, ls13, ls14, ls15, ls16, ls17, lk0, lk1, lk2, lk3, lk4, lk5, lk6, lk7, lk8, lk9, lk10, lk11, lk12, lk13, lk14, lk15, lk16, lk17, kl_n, kl_i, kl_r, kl_l, Nat.reduceAdd, Nat.reduceLeDiff, not_false_eq_true, r_ins0, r_ins1, r_ins2, r_ins3, r_ins4, r_ins5]
  have key : ∀ n i, i + n = 6 → WP 178 [] 1 [some (.ref 62), some (.int (nI w)), some (.int (nI (r7 (yr I (w + 1)).1 i))), some (.int (nI i))] [] M (fun v N => v = some (.int (nI (r7 (yr I (w + 1)).1 6))) ∧ N = M) := by
    intro n
    induction n with
    | zero =>
      intro i hi
      obtain rfl : i = 6 := by omega
      rw [B_178_1]
      simp only [B_178_0, B_178_2, cm, r_iconst_p, r_iconst_m, r_bipush_p, r_bipush_m, r_sipush_p, r_sipush_m, r_ldc_p, r_ldc_m, r_ldc_w_p, r_ldc_w_m, r_lconst_p, r_lconst_m, r_ldc2_w_p, r_ldc2_w_m, r_iload, r_iload_n, r_lload, r_lload_n, r_aload, r_aload_n, r_istore, r_istore_n, r_astore, r_astore_n, r_lstore, r_lstore_n, r_iinc_p, r_iinc_m, r_iadd, r_isub, r_imul, r_iand, r_ior, r_ixor, r_ishl, r_ishr, r_iushr, r_idiv, r_irem, r_ladd, r_lsub, r_lmul, r_ldiv, r_lrem, r_lshl, r_lcmp, r_i2l, r_i2b, r_i2s, r_dup_i, r_dup_r, r_dup2_ii, r_dup2_ir, r_dup2_l, r_pop, r_getfield, r_putfield, r_iaload, r_iastore, r_aaload, r_arraylength, r_if_eq, r_icmp_eq, r_if_ne, r_icmp_ne, r_if_lt, r_icmp_lt, r_if_ge, r_icmp_ge, r_if_gt, r_icmp_gt, r_if_le, r_icmp_le, r_goto, r_switch, r_ireturn0, r_ireturn1, r_lreturn, r_areturn, r_return, r_inv0, r_inv1, r_inv2, r_inv3, r_inv4, r_inv5, r_min, r_max, r_acopy, onI_s, onL_s, onR_s, onO_s, fv0, fv1, fv2, fv3, fp1, fp20, fp21, fp3, tl_s, tl_n, lg0, lg1, lg2, lg3, lg4, lg5, lg6, lg7, lg8, lg9, lg10, lg11, lg12, lg13, lg14, lg15, lg16, lg17, ls0, ls1, ls2, ls3, ls4, ls5, ls6, ls7, ls8, ls9, ls10, ls11, ls12, ls13, ls14, ls15, ls16, ls17, lk0, lk1, lk2, lk3, lk4, lk5, lk6, lk7, lk8, lk9, lk10, lk11, lk12, lk13, lk14, lk15, lk16, lk17, kl_n, kl_i, kl_r, kl_l, Nat.reduceAdd, Nat.reduceLeDiff, not_false_eq_true, r_ins0, r_ins1, r_ins2, r_ins3, r_ins4, r_ins5]
      rw [brc_pos (Int32.le_refl _)]
      simp
    | succ n ih =>
      intro i hi
      rw [B_178_1]
      simp only [B_178_0, B_178_2, cm, q_mul, q_add, nI_clamp (show 6 * w + i < 2 ^ 31 by omega), hO.1 (6 * w + i) (by omega), r_iconst_p, r_iconst_m, r_bipush_p, r_bipush_m, r_sipush_p, r_sipush_m, r_ldc_p, r_ldc_m, r_ldc_w_p, r_ldc_w_m, r_lconst_p, r_lconst_m, r_ldc2_w_p, r_ldc2_w_m, r_iload, r_iload_n, r_lload, r_lload_n, r_aload, r_aload_n, r_istore, r_istore_n, r_astore, r_astore_n, r_lstore, r_lstore_n, r_iinc_p, r_iinc_m, r_iadd, r_isub, r_imul, r_iand, r_ior, r_ixor, r_ishl, r_ishr, r_iushr, r_idiv, r_irem, r_ladd, r_lsub, r_lmul, r_ldiv, r_lrem, r_lshl, r_lcmp, r_i2l, r_i2b, r_i2s, r_dup_i, r_dup_r, r_dup2_ii, r_dup2_ir, r_dup2_l, r_pop, r_getfield, r_putfield, r_iaload, r_iastore, r_aaload, r_arraylength, r_if_eq, r_icmp_eq, r_if_ne, r_icmp_ne, r_if_lt, r_icmp_lt, r_if_ge, r_icmp_ge, r_if_gt, r_icmp_gt, r_if_le, r_icmp_le, r_goto, r_switch, r_ireturn0, r_ireturn1, r_lreturn, r_areturn, r_return, r_inv0, r_inv1, r_inv2, r_inv3, r_inv4, r_inv5, r_min, r_max, r_acopy, onI_s, onL_s, onR_s, onO_s, fv0, fv1, fv2, fv3, fp1, fp20, fp21, fp3, tl_s, tl_n, lg0, lg1, lg2, lg3, lg4, lg5, lg6, lg7, lg8, lg9, lg10, lg11, lg12, lg13, lg14, lg15, lg16, lg17, ls0, ls1, ls2, ls3, ls4, ls5, ls6, ls7, ls8, ls9, ls10, ls11, ls12, ls13, ls14, ls15, ls16, ls17, lk0, lk1, lk2, lk3, lk4, lk5, lk6, lk7, lk8, lk9, lk10, lk11, lk12, lk13, lk14, lk15, lk16, lk17, kl_n, kl_i, kl_r, kl_l, Nat.reduceAdd, Nat.reduceLeDiff, not_false_eq_true, r_ins0, r_ins1, r_ins2, r_ins3, r_ins4, r_ins5]
      rw [brc_neg (nI_ge (by omega) (by omega)), inb_n (n := 144) rfl (by omega) (by omega), show (6 * w + i) / 6 = w by omega, show (6 * w + i) % 6 = i by omega]
      exact ⟨by omega, ih (i + 1) (by omega)⟩
  exact key 6 0 (by omega)
set_option maxHeartbeats 1000000 in
theorem s_alike {s w : Nat} {G : Nat → Nat} (hs : s < 2 ^ 10) (hw : w < 24) (hG : ∀ v, 1 ≤ v → v ≤ 9 → M 81 (24 * v + w) = nI (G v)) (hGl : ∀ v, 1 ≤ v → v ≤ 9 → G v < 2 ^ 31) : Ct 182 [.ref 62, .int (nI s), .int (nI w)] M Q = Q (some (.int (nI (mal s G 9)))) M := by
  refine Ev.ct (Ev.of ?_) Q
  generalize hQ : (fun (v : Option Value) (N : Mem) => v = some (.int (nI (mal s G 9))) ∧ N = M) = R
  have key : ∀ (n i : Nat) (u v : Option Value), i + n = 9 → WP 182 [] 1 [some (.ref 62), some (.int (nI s)), some (.int (nI w)), some (.int (nI (mal s G i))), some (.int (nI (i + 1))), u, v] [] M R := by
    intro n
    induction n with
    | zero =>
      intro i u v hi
      obtain rfl : i = 9 := by omega
      rw [B_182_1]
      simp only [B_182_0, B_182_3, B_182_4, B_182_5, B_182_6, cm, r_iconst_p, r_iconst_m, r_bipush_p, r_bipush_m, r_sipush_p, r_sipush_m, r_ldc_p, r_ldc_m, r_ldc_w_p, r_ldc_w_m, r_lconst_p, r_lconst_m, r_ldc2_w_p, r_ldc2_w_m, r_iload, r_iload_n, r_lload, r_lload_n, r_aload, r_aload_n, r_istore, r_istore_n, r_astore, r_astore_n, r_lstore, r_lstore_n, r_iinc_p, r_iinc_m, r_iadd, r_isub, r_imul, r_iand, r_ior, r_ixor, r_ishl, r_ishr, r_iushr, r_idiv, r_irem, r_ladd, r_lsub, r_lmul, r_ldiv, r_lrem, r_lshl, r_lcmp, r_i2l, r_i2b, r_i2s, r_dup_i, r_dup_r, r_dup2_ii, r_dup2_ir, r_dup2_l, r_pop, r_getfield, r_putfield, r_iaload, r_iastore, r_aaload, r_arraylength, r_if_eq, r_icmp_eq, r_if_ne, r_icmp_ne, r_if_lt, r_icmp_lt, r_if_ge, r_icmp_ge, r_if_gt, r_icmp_gt, r_if_le, r_icmp_le, r_goto, r_switch, r_ireturn0, r_ireturn1, r_lreturn, r_areturn, r_return, r_inv0, r_inv1, r_inv2, r_inv3, r_inv4, r_inv5, r_min, r_max, r_acopy, onI_s, onL_s, onR_s, onO_s, fv0, fv1, fv2, fv3, fp1, fp20, fp21, fp3, tl_s, tl_n, lg0, lg1, lg2, lg3, lg4, lg5, lg6, lg7, lg8, lg9, lg10, lg11, lg12, lg13, lg14, lg15, lg16, lg17, ls0, ls1, ls2, ls3, ls4, ls5, ls6, ls7, ls8, ls9, ls10, ls11, ls12, ls13, ls14, ls15, ls16, ls17, lk0, lk1, lk2, lk3, lk4, lk5, lk6, lk7, lk8, lk9, lk10, lk11, lk12, lk13, lk14, lk15, lk16, lk17, kl_n, kl_i, kl_r, kl_l, Nat.reduceAdd, Nat.reduceLeDiff, not_false_eq_true, r_ins0, r_ins1, r_ins2, r_ins3, r_ins4, r_ins5]
      rw [brc_pos (Int32.le_refl _), ← hQ]
      exact ⟨rfl, rfl⟩
    | succ n ih =>
      intro i u v hi
      have hm := mal_le s G i
      have inner : ∀ (m j : Nat), j + m = 9 → WP 182 [] 2 [some (.ref 62), some (.int (nI s)), some (.int (nI w)), some (.int (nI (mal s G i))), some (.int (nI (i + 1))), some (.int (nI (cnt s G (i + 1) j))), some (.int (nI (j + 1)))] [] M R := by
        intro m
        induction m with
        | zero =>
          intro j hj
          obtain rfl : j = 9 := by omega
          have hc := cnt_le s G (i + 1) 9
          rw [B_182_2]
          simp only [B_182_0, B_182_3, B_182_4, B_182_5, B_182_6, cm, s_greater (show cnt s G (i + 1) 9 < 2 ^ 31 by omega) (show mal s G i < 2 ^ 31 by omega), q_add, r_iconst_p, r_iconst_m, r_bipush_p, r_bipush_m, r_sipush_p, r_sipush_m, r_ldc_p, r_ldc_m, r_ldc_w_p, r_ldc_w_m, r_lconst_p, r_lconst_m, r_ldc2_w_p, r_ldc2_w_m, r_iload, r_iload_n, r_lload, r_lload_n, r_aload, r_aload_n, r_istore, r_istore_n, r_astore, r_astore_n, r_lstore, r_lstore_n, r_iinc_p, r_iinc_m, r_iadd, r_isub, r_imul, r_iand, r_ior, r_ixor, r_ishl, r_ishr, r_iushr, r_idiv, r_irem, r_ladd, r_lsub, r_lmul, r_ldiv, r_lrem, r_lshl, r_lcmp, r_i2l, r_i2b, r_i2s, r_dup_i, r_dup_r, r_dup2_ii, r_dup2_ir, r_dup2_l, r_pop, r_getfield, r_putfield, r_iaload, r_iastore, r_aaload, r_arraylength, r_if_eq, r_icmp_eq, r_if_ne, r_icmp_ne, r_if_lt, r_icmp_lt, r_if_ge, r_icmp_ge, r_if_gt, r_icmp_gt, r_if_le, r_icmp_le, r_goto, r_switch, r_ireturn0, r_ireturn1, r_lreturn, r_areturn, r_return, r_inv0, r_inv1, r_inv2, r_inv3, r_inv4, r_inv5, r_min, r_max, r_acopy, onI_s, onL_s, onR_s, onO_s, fv0, fv1, fv2, fv3, fp1, fp20, fp21, fp3, tl_s, tl_n, lg0, lg1, lg2, lg3, lg4, lg5, lg6, lg7, lg8, lg9, lg10, lg11, lg12, lg13, lg14, lg15, lg16, lg17, ls0, ls1, ls2, ls3, ls4, ls5, ls6, ls7, ls8, ls9, ls10, ls11, ls12, ls13, ls14, ls15, ls16, ls17, lk0, lk1, lk2, lk3, lk4, lk5, lk6, lk7, lk8, lk9, lk10, lk11, lk12, lk13, lk14, lk15, lk16, lk17, kl_n, kl_i, kl_r, kl_l, Nat.reduceAdd, Nat.reduceLeDiff, not_false_eq_true, r_ins0, r_ins1, r_ins2, r_ins3, r_ins4, r_ins5]
          rw [brc_pos (Int32.le_refl _)]
          refine ⟨by simp, ?_⟩
          have ih' := ih (i + 1) (some (.int (nI (cnt s G (i + 1) 9)))) (some (.int (nI (9 + 1)))) (by omega)
          rw [Nat.max_comm]
          exact ih'
        | succ m ihm =>
          intro j hj
          have g1 := hG (i + 1) (by omega) (by omega)
          have g2 := hG (j + 1) (by omega) (by omega)
          have l1 := hGl (i + 1) (by omega) (by omega)
          have l2 := hGl (j + 1) (by omega) (by omega)
          have nx : ∀ y, y = (if s.testBit (i + 1) = true ∧ s.testBit (j + 1) = true ∧ G (i + 1) = G (j + 1) then 1 else 0) → WP 182 [] 4 [some (.ref 62), some (.int (nI s)), some (.int (nI w)), some (.int (nI (mal s G i))), some (.int (nI (i + 1))), some (.int (nI (cnt s G (i + 1) j))), some (.int (nI (j + 1)))] [.int (nI y), .int (nI (cnt s G (i + 1) j))] M R := by
            intro y hy
            simp only [B_182_0, B_182_3, B_182_4, B_182_5, B_182_6, cm, q_add, r_iconst_p, r_iconst_m, r_bipush_p, r_bipush_m, r_sipush_p, r_sipush_m, r_ldc_p, r_ldc_m, r_ldc_w_p, r_ldc_w_m, r_lconst_p, r_lconst_m, r_ldc2_w_p, r_ldc2_w_m, r_iload, r_iload_n, r_lload, r_lload_n, r_aload, r_aload_n, r_istore, r_istore_n, r_astore, r_astore_n, r_lstore, r_lstore_n, r_iinc_p, r_iinc_m, r_iadd, r_isub, r_imul, r_iand, r_ior, r_ixor, r_ishl, r_ishr, r_iushr, r_idiv, r_irem, r_ladd, r_lsub, r_lmul, r_ldiv, r_lrem, r_lshl, r_lcmp, r_i2l, r_i2b, r_i2s, r_dup_i, r_dup_r, r_dup2_ii, r_dup2_ir, r_dup2_l, r_pop, r_getfield, r_putfield, r_iaload, r_iastore, r_aaload, r_arraylength, r_if_eq, r_icmp_eq, r_if_ne, r_icmp_ne, r_if_lt, r_icmp_lt, r_if_ge, r_icmp_ge, r_if_gt, r_icmp_gt, r_if_le, r_icmp_le, r_goto, r_switch, r_ireturn0, r_ireturn1, r_lreturn, r_areturn, r_return, r_inv0, r_inv1, r_inv2, r_inv3, r_inv4, r_inv5, r_min, r_max, r_acopy, onI_s, onL_s, onR_s, onO_s, fv0, fv1, fv2, fv3, fp1, fp20, fp21, fp3, tl_s, tl_n, lg0, lg1, lg2, lg3, lg4, lg5, lg6, lg7, lg8, lg9, lg10, lg11, lg12, lg13, lg14, lg15, lg16, lg17, ls0, ls1, ls2, ls3, ls4, ls5, ls6, ls7, ls8, ls9, ls10, ls11, ls12, ls13, ls14, ls15, ls16, ls17, lk0, lk1, lk2, lk3, lk4, lk5, lk6, lk7, lk8, lk9, lk10, lk11, lk12, lk13, lk14, lk15, lk16, lk17, kl_n, kl_i, kl_r, kl_l, Nat.reduceAdd, Nat.reduceLeDiff, not_false_eq_true, r_ins0, r_ins1, r_ins2, r_ins3, r_ins4, r_ins5]
            rw [hy]
            exact ihm (j + 1) (by omega)
          rw [B_182_2]
          simp only [B_182_0, B_182_3, B_182_6, cm, q_mul, q_add, nI_clamp (show 24 * (i + 1) + w < 2 ^ 31 by omega), nI_clamp (show 24 * (j + 1) + w < 2 ^ 31 by omega), g1, g2, s_isIn (show s < 2 ^ 31 by omega) (show i + 1 < 31 by omega), s_isIn (show s < 2 ^ 31 by omega) (show j + 1 < 31 by omega), r_iconst_p, r_iconst_m, r_bipush_p, r_bipush_m, r_sipush_p, r_sipush_m, r_ldc_p, r_ldc_m, r_ldc_w_p, r_ldc_w_m, r_lconst_p, r_lconst_m, r_ldc2_w_p, r_ldc2_w_m, r_iload, r_iload_n, r_lload, r_lload_n, r_aload, r_aload_n, r_istore, r_istore_n, r_astore, r_astore_n, r_lstore, r_lstore_n, r_iinc_p, r_iinc_m, r_iadd, r_isub, r_imul, r_iand, r_ior, r_ixor, r_ishl, r_ishr, r_iushr, r_idiv, r_irem, r_ladd, r_lsub, r_lmul, r_ldiv, r_lrem, r_lshl, r_lcmp, r_i2l, r_i2b, r_i2s, r_dup_i, r_dup_r, r_dup2_ii, r_dup2_ir, r_dup2_l, r_pop, r_getfield, r_putfield, r_iaload, r_iastore, r_aaload, r_arraylength, r_if_eq, r_icmp_eq, r_if_ne, r_icmp_ne, r_if_lt, r_icmp_lt, r_if_ge, r_icmp_ge, r_if_gt, r_icmp_gt, r_if_le, r_icmp_le, r_goto, r_switch, r_ireturn0, r_ireturn1, r_lreturn, r_areturn, r_return, r_inv0, r_inv1, r_inv2, r_inv3, r_inv4, r_inv5, r_min, r_max, r_acopy, onI_s, onL_s, onR_s, onO_s, fv0, fv1, fv2, fv3, fp1, fp20, fp21, fp3, tl_s, tl_n, lg0, lg1, lg2, lg3, lg4, lg5, lg6, lg7, lg8, lg9, lg10, lg11, lg12, lg13, lg14, lg15, lg16, lg17, ls0, ls1, ls2, ls3, ls4, ls5, ls6, ls7, ls8, ls9, ls10, ls11, ls12, ls13, ls14, ls15, ls16, ls17, lk0, lk1, lk2, lk3, lk4, lk5, lk6, lk7, lk8, lk9, lk10, lk11, lk12, lk13, lk14, lk15, lk16, lk17, kl_n, kl_i, kl_r, kl_l, Nat.reduceAdd, Nat.reduceLeDiff, not_false_eq_true, r_ins0, r_ins1, r_ins2, r_ins3, r_ins4, r_ins5]
          rw [brc_neg (nI_ge (by omega) (by omega)), inb_n (n := 240) rfl (by omega) (by omega), inb_n (n := 240) rfl (by omega) (by omega), q_eq l1 l2]
          refine ⟨by simp, ?_⟩
          cases t1 : s.testBit (i + 1) with
          | false => rw [rF', brc_pos rfl]; exact nx 0 (by rw [t1, if_neg (fun q => by cases q.1)])
          | true =>
            rw [rT', n10, brc_F]
            refine ⟨by simp, ?_⟩
            cases t2 : s.testBit (j + 1) with
            | false => rw [rF', brc_pos rfl]; exact nx 0 (by rw [t2, if_neg (fun q => by cases q.2.1)])
            | true =>
              rw [rT', n10, brc_F]
              exact ⟨by omega, by omega, brc_i (fun hz => nx 0 (by rw [if_neg (fun q => hz q.2.2)])) (fun hz => nx 1 (by rw [if_pos ⟨t1, t2, Classical.not_not.mp hz⟩]))⟩
      rw [B_182_1]
      simp only [B_182_0, B_182_3, B_182_4, B_182_5, cm, r_iconst_p, r_iconst_m, r_bipush_p, r_bipush_m, r_sipush_p, r_sipush_m, r_ldc_p, r_ldc_m, r_ldc_w_p, r_ldc_w_m, r_lconst_p, r_lconst_m, r_ldc2_w_p, r_ldc2_w_m, r_iload, r_iload_n, r_lload, r_lload_n, r_aload, r_aload_n, r_istore, r_istore_n, r_astore, r_astore_n, r_lstore, r_lstore_n, r_iinc_p, r_iinc_m, r_iadd, r_isub, r_imul, r_iand, r_ior, r_ixor, r_ishl, r_ishr, r_iushr, r_idiv, r_irem, r_ladd, r_lsub, r_lmul, r_ldiv, r_lrem, r_lshl, r_lcmp, r_i2l, r_i2b, r_i2s, r_dup_i, r_dup_r, r_dup2_ii, r_dup2_ir, r_dup2_l, r_pop, r_getfield, r_putfield, r_iaload, r_iastore, r_aaload, r_arraylength, r_if_eq, r_icmp_eq, r_if_ne, r_icmp_ne, r_if_lt, r_icmp_lt, r_if_ge, r_icmp_ge, r_if_gt, r_icmp_gt, r_if_le, r_icmp_le, r_goto, r_switch, r_ireturn0, r_ireturn1, r_lreturn, r_areturn, r_return, r_inv0, r_inv1, r_inv2, r_inv3, r_inv4, r_inv5, r_min, r_max, r_acopy, onI_s, onL_s, onR_s, onO_s, fv0, fv1, fv2, fv3, fp1, fp20, fp21, fp3, tl_s, tl_n, lg0, lg1, lg2, lg3, lg4, lg5, lg6, lg7, lg8, lg9, lg10, lg11, lg12, lg13, lg14, lg15, lg16, lg17, ls0, ls1, ls2, ls3, ls4, ls5, ls6, ls7, ls8, ls9, ls10, ls11, ls12, ls13, ls14, ls15, ls16, ls17, lk0, lk1, lk2, lk3, lk4, lk5, lk6, lk7, lk8, lk9, lk10, lk11, lk12, lk13, lk14, lk15, lk16, lk17, kl_n, kl_i, kl_r, kl_l, Nat.reduceAdd, Nat.reduceLeDiff, not_false_eq_true, r_ins0, r_ins1, r_ins2, r_ins3, r_ins4, r_ins5]
      rw [brc_neg (nI_ge (by omega) (by omega))]
      exact inner 9 0 (by omega)
  simp only [E_182, B_182_0, B_182_3, B_182_4, B_182_5, B_182_6, cm, r_iconst_p, r_iconst_m, r_bipush_p, r_bipush_m, r_sipush_p, r_sipush_m, r_ldc_p, r_ldc_m, r_ldc_w_p, r_ldc_w_m, r_lconst_p, r_lconst_m, r_ldc2_w_p, r_ldc2_w_m, r_iload, r_iload_n, r_lload, r_lload_n, r_aload, r_aload_n, r_istore, r_istore_n, r_astore, r_astore_n, r_lstore, r_lstore_n, r_iinc_p, r_iinc_m, r_iadd, r_isub, r_imul, r_iand, r_ior, r_ixor, r_ishl, r_ishr, r_iushr, r_idiv, r_irem, r_ladd, r_lsub, r_lmul, r_ldiv, r_lrem, r_lshl, r_lcmp, r_i2l, r_i2b, r_i2s, r_dup_i, r_dup_r, r_dup2_ii, r_dup2_ir, r_dup2_l, r_pop, r_getfield, r_putfield, r_iaload, r_iastore, r_aaload, r_arraylength, r_if_eq, r_icmp_eq, r_if_ne, r_icmp_ne, r_if_lt, r_icmp_lt, r_if_ge, r_icmp_ge, r_if_gt, r_icmp_gt, r_if_le, r_icmp_le, r_goto, r_switch, r_ireturn0, r_ireturn1, r_lreturn, r_areturn, r_return, r_inv0, r_inv1, r_inv2, r_inv3, r_inv4, r_inv5, r_min, r_max, r_acopy, onI_s, onL_s, onR_s, onO_s, fv0, fv1, fv2, fv3, fp1, fp20, fp21, fp3, tl_s, tl_n, lg0, lg1, lg2, lg3, lg4, lg5, lg6, lg7, lg8, lg9, lg10, lg11, lg12, lg13, lg14, lg15, lg16, lg17, ls0, ls1, ls2, ls3, ls4, ls5, ls6, ls7, ls8, ls9, ls10, ls11, ls12, ls13, ls14, ls15, ls16, ls17, lk0, lk1, lk2, lk3, lk4, lk5, lk6, lk7, lk8, lk9, lk10, lk11, lk12, lk13, lk14, lk15, lk16, lk17, kl_n, kl_i, kl_r, kl_l, Nat.reduceAdd, Nat.reduceLeDiff, not_false_eq_true, r_ins0, r_ins1, r_ins2, r_ins3, r_ins4, r_ins5]
  exact key 9 0 none none (by omega)
end RP
section RW
variable {M : Mem} {g : Sg} {Q : Option Value → Mem → Prop}
theorem m_isBlock (h : MF M g) (c x : Int32) : Ct 179 [.ref 62, .int c, .int x] M Q = Q (some (.int (nI (decide (rg c 6 = true ∧ rg x 6 = true ∧ cl x < (gB g (cl c)).length)).toNat))) M := by
  refine Ev.ct (Ev.of ?_) Q
  simp only [E_179, B_179_0, B_179_1, B_179_2, cm, ct_isCol, ct_in, in_rg (show 5 < 2 ^ 31 by omega), r_iconst_p, r_iconst_m, r_bipush_p, r_bipush_m, r_sipush_p, r_sipush_m, r_ldc_p, r_ldc_m, r_ldc_w_p, r_ldc_w_m, r_lconst_p, r_lconst_m, r_ldc2_w_p, r_ldc2_w_m, r_iload, r_iload_n, r_lload, r_lload_n, r_aload, r_aload_n, r_istore, r_istore_n, r_astore, r_astore_n, r_lstore, r_lstore_n, r_iinc_p, r_iinc_m, r_iadd, r_isub, r_imul, r_iand, r_ior, r_ixor, r_ishl, r_ishr, r_iushr, r_idiv, r_irem, r_ladd, r_lsub, r_lmul, r_ldiv, r_lrem, r_lshl, r_lcmp, r_i2l, r_i2b, r_i2s, r_dup_i, r_dup_r, r_dup2_ii, r_dup2_ir, r_dup2_l, r_pop, r_getfield, r_putfield, r_iaload, r_iastore, r_aaload, r_arraylength, r_if_eq, r_icmp_eq, r_if_ne, r_icmp_ne, r_if_lt, r_icmp_lt, r_if_ge, r_icmp_ge, r_if_gt, r_icmp_gt, r_if_le, r_icmp_le, r_goto, r_switch, r_ireturn0, r_ireturn1, r_lreturn, r_areturn, r_return, r_inv0, r_inv1, r_inv2, r_inv3, r_inv4, r_inv5, r_min, r_max, r_acopy, onI_s, onL_s, onR_s, onO_s, fv0, fv1, fv2, fv3, fp1, fp20, fp21, fp3, tl_s, tl_n, lg0, lg1, lg2, lg3, lg4, lg5, lg6, lg7, lg8, lg9, lg10, lg11, lg12, lg13, lg14, lg15, lg16, lg17, ls0, ls1, ls2, ls3, ls4, ls5, ls6, ls7, ls8, ls9, ls10, ls11, ls12, ls13, ls14, ls15, ls16, ls17, lk0, lk1, lk2, lk3, lk4, lk5, lk6, lk7, lk8, lk9, lk10, lk11, lk12, lk13, lk14, lk15, lk16, lk17, kl_n, kl_i, kl_r, kl_l, Nat.reduceAdd, Nat.reduceLeDiff, not_false_eq_true, r_ins0, r_ins1, r_ins2, r_ins3, r_ins4, r_ins5]
  refine ⟨by simp, ?_⟩
  cases hc : rg c 6 with
  | false => rw [rF', brc_pos rfl, decide_eq_false (fun q => by cases q.1)]; exact ⟨Or.inl trivial, rfl, trivial⟩
  | true =>
    rw [rT', n10, brc_F]
    refine ⟨by simp, ?_⟩
    cases hx : rg x 6 with
    | false => rw [rF', brc_pos rfl, decide_eq_false (fun q => by cases q.2.1)]; exact ⟨Or.inl trivial, rfl, trivial⟩
    | true =>
      obtain ⟨b1, e1⟩ := rg_T hc
      obtain ⟨b2, e2⟩ := rg_T hx
      rw [rT', n10, brc_F]
      have hB : (gB g (cl c)).length ≤ 6 ∧ ∀ v ∈ gB g (cl c), 1 ≤ v ∧ v ≤ 9 := bkC_ok (t0 g) (n0 g) (cl c)
      generalize cl c = j at *
      generalize cl x = k at *
      subst e1
      subst e2
      have h9 : (gB g j).getD k 0 ≤ 9 := getD_le hB.2 k
      rw [s_toldAt h.2.1 (bkC_ok _ _) b1 b2]
      simp only [B_179_0, B_179_1, B_179_2, cm, r_iconst_p, r_iconst_m, r_bipush_p, r_bipush_m, r_sipush_p, r_sipush_m, r_ldc_p, r_ldc_m, r_ldc_w_p, r_ldc_w_m, r_lconst_p, r_lconst_m, r_ldc2_w_p, r_ldc2_w_m, r_iload, r_iload_n, r_lload, r_lload_n, r_aload, r_aload_n, r_istore, r_istore_n, r_astore, r_astore_n, r_lstore, r_lstore_n, r_iinc_p, r_iinc_m, r_iadd, r_isub, r_imul, r_iand, r_ior, r_ixor, r_ishl, r_ishr, r_iushr, r_idiv, r_irem, r_ladd, r_lsub, r_lmul, r_ldiv, r_lrem, r_lshl, r_lcmp, r_i2l, r_i2b, r_i2s, r_dup_i, r_dup_r, r_dup2_ii, r_dup2_ir, r_dup2_l, r_pop, r_getfield, r_putfield, r_iaload, r_iastore, r_aaload, r_arraylength, r_if_eq, r_icmp_eq, r_if_ne, r_icmp_ne, r_if_lt, r_icmp_lt, r_if_ge, r_icmp_ge, r_if_gt, r_icmp_gt, r_if_le, r_icmp_le, r_goto, r_switch, r_ireturn0, r_ireturn1, r_lreturn, r_areturn, r_return, r_inv0, r_inv1, r_inv2, r_inv3, r_inv4, r_inv5, r_min, r_max, r_acopy, onI_s, onL_s, onR_s, onO_s, fv0, fv1, fv2, fv3, fp1, fp20, fp21, fp3, tl_s, tl_n, lg0, lg1, lg2, lg3, lg4, lg5, lg6, lg7, lg8, lg9, lg10, lg11, lg12, lg13, lg14, lg15, lg16, lg17, ls0, ls1, ls2, ls3, ls4, ls5, ls6, ls7, ls8, ls9, ls10, ls11, ls12, ls13, ls14, ls15, ls16, ls17, lk0, lk1, lk2, lk3, lk4, lk5, lk6, lk7, lk8, lk9, lk10, lk11, lk12, lk13, lk14, lk15, lk16, lk17, kl_n, kl_i, kl_r, kl_l, Nat.reduceAdd, Nat.reduceLeDiff, not_false_eq_true, r_ins0, r_ins1, r_ins2, r_ins3, r_ins4, r_ins5]
      rw [q_le (by omega) (by omega)]
      refine ⟨trivial, by simp, brc_i (fun hz => ?_) (fun hz => ?_)⟩
      · rw [decide_eq_false]
        · exact ⟨Or.inl trivial, rfl, trivial⟩
        · rintro ⟨-, -, q⟩
          have q1 : 1 ≤ (gB g j).getD k 0 := getD_pos hB.2 q
          omega
      · have hq : k < (gB g j).length := by
          rcases Nat.lt_or_ge k (gB g j).length with q | q
          · exact q
          · exact absurd (show (gB g j).getD k 0 ≤ 0 by rw [List.getD_eq_getElem?_getD, List.getElem?_eq_none q]; exact Nat.le_refl 0) hz
        rw [decide_eq_true (by simp only [true_and]; exact hq)]
        exact ⟨Or.inr trivial, rfl, trivial⟩
set_option maxHeartbeats 1000000 in
theorem m_sizeOf (h : MF M g) {c x : Nat} (hc : c < 6) (hx : x < (gB g c).length) : Ct 180 [.ref 62, .int (nI c), .int (nI x)] M (fun r N => r = some (.int (nI (gszB g c x))) ∧ MF N g ∧ Lw M N ∧ ∀ v, 1 ≤ v → v ≤ 9 → ∀ w, w < 24 → N 81 (24 * v + w) = nI (r7 (yr (gInS g c x v) (w + 1)).1 6)) := by
  have hl0 := h.LV
  have hBc : (gB g c).length ≤ 6 ∧ ∀ v ∈ gB g c, 1 ≤ v ∧ v ≤ 9 := bkC_ok (t0 g) (n0 g) c
  have hx6 : x < 6 := by omega
  have hw1 : 1 ≤ (gB g c).getD x 0 := getD_pos hBc.2 hx
  have hw9 : (gB g c).getD x 0 ≤ 9 := getD_le hBc.2 x
  have hwas : M 70 (6 * c + x) = nI ((gB g c).getD x 0) := (h.2.1 c hc).2 x hx
  have hid : setb (gB g) c x ((gB g c).getD x 0) = gB g := setb_id hx
  unfold gszB
  generalize hft : (fun v => fit (gInS g c x v) (gnw g) (gnc g) (gnv g) (gns g)) = ft
  have hft' : ∀ v, fit (gInS g c x v) (gnw g) (gnc g) (gnv g) (gns g) = ft v := fun v => by rw [← hft]
  have hok : ∀ v, 1 ≤ v → v ≤ 9 → okI (gInS g c x v) := fun v a b => ⟨setb_ok (bkC_ok _ _) _ ⟨a, b⟩, hl0.2.2.2.1, hl0.2.2.2.2.1, hl0.2.2.2.2.2.1⟩
  have hLI : ∀ v, LI (setb (gB g) c x v) (gno g) (gow g) (goq g) (gne g) (gek g) (gew g) (gec g) 0 0 0 0 = gInS g c x v := fun v => rfl
  generalize hwv : (gB g c).getD x 0 = wv at *
  generalize hQ : (fun (r : Option Value) (N : Mem) => r = some (.int (nI (szB ft 9))) ∧ MF N g ∧ Lw M N ∧ ∀ v, 1 ≤ v → v ≤ 9 → ∀ w, w < 24 → N 81 (24 * v + w) = nI (r7 (yr (gInS g c x v) (w + 1)).1 6)) = Q
  have key : ∀ (n i u : Nat) (N : Mem) (v7 : Option Value), i + n = 9 → 1 ≤ u ∧ u ≤ 9 → ST N g → LV N (setb (gB g) c x u) (gno g) (gow g) (goq g) (gne g) (gek g) (gew g) (gec g) 0 0 0 0 → Lw M N → (∀ v, 1 ≤ v → v ≤ i → ∀ w, w < 24 → N 81 (24 * v + w) = nI (r7 (yr (gInS g c x v) (w + 1)).1 6)) → WP 180 [] 1 [some (.ref 62), some (.int (nI c)), some (.int (nI x)), some (.int (nI (6 * c + x))), some (.int (nI wv)), some (.int (nI (szB ft i))), some (.int (nI (i + 1))), v7] [] N Q := by
    intro n
    induction n with
    | zero =>
      intro i u N v7 hi hu hS hL hw h81
      obtain rfl : i = 9 := by omega
      have hlen : x < (setb (gB g) c x u c).length := by unfold setb setc; rw [if_pos rfl, List.length_set]; exact hx
      have hE := hL.blk hc hlen ⟨hw1, hw9⟩
      rw [setb_setb, hid] at hE
      rw [B_180_1]
      simp only [B_180_0, B_180_5, B_180_6, cm, nI_clamp (show 6 * c + x < 2 ^ 31 by omega), r_iconst_p, r_iconst_m, r_bipush_p, r_bipush_m, r_sipush_p, r_sipush_m, r_ldc_p, r_ldc_m, r_ldc_w_p, r_ldc_w_m, r_lconst_p, r_lconst_m, r_ldc2_w_p, r_ldc2_w_m, r_iload, r_iload_n, r_lload, r_lload_n, r_aload, r_aload_n, r_istore, r_istore_n, r_astore, r_astore_n, r_lstore, r_lstore_n, r_iinc_p, r_iinc_m, r_iadd, r_isub, r_imul, r_iand, r_ior, r_ixor, r_ishl, r_ishr, r_iushr, r_idiv, r_irem, r_ladd, r_lsub, r_lmul, r_ldiv, r_lrem, r_lshl, r_lcmp, r_i2l, r_i2b, r_i2s, r_dup_i, r_dup_r, r_dup2_ii, r_dup2_ir, r_dup2_l, r_pop, r_getfield, r_putfield, r_iaload, r_iastore, r_aaload, r_arraylength, r_if_eq, r_icmp_eq, r_if_ne, r_icmp_ne, r_if_lt, r_icmp_lt, r_if_ge, r_icmp_ge, r_if_gt, r_icmp_gt, r_if_le, r_icmp_le, r_goto, r_switch, r_ireturn0, r_ireturn1, r_lreturn, r_areturn, r_return, r_inv0, r_inv1, r_inv2, r_inv3, r_inv4, r_inv5, r_min, r_max, r_acopy, onI_s, onL_s, onR_s, onO_s, fv0, fv1, fv2, fv3, fp1, fp20, fp21, fp3, tl_s, tl_n, lg0, lg1, lg2, lg3, lg4, lg5, lg6, lg7, lg8, lg9, lg10, lg11, lg12, lg13, lg14, lg15, lg16, lg17, ls0, ls1, ls2, ls3, ls4, ls5, ls6, ls7, ls8, ls9, ls10, ls11, ls12, ls13, ls14, ls15, ls16, ls17, lk0, lk1, lk2, lk3, lk4, lk5, lk6, lk7, lk8, lk9, lk10, lk11, lk12, lk13, lk14, lk15, lk16, lk17, kl_n, kl_i, kl_r, kl_l, Nat.reduceAdd, Nat.reduceLeDiff, not_false_eq_true, r_ins0, r_ins1, r_ins2, r_ins3, r_ins4, r_ins5]
      rw [brc_pos (Int32.le_refl _), inb_n (n := 36) rfl (by omega) (by omega), ← hQ]
      exact ⟨by omega, rfl, mf_of (hS.st (by omega)) hE, hw.st (by omega), fun v a b w hw => by rw [sm_ne (by decide)]; exact h81 v a b w hw⟩
    | succ n ih =>
      intro i u N v7 hi hu hS hL hw h81
      have hlen : x < (setb (gB g) c x u c).length := by unfold setb setc; rw [if_pos rfl, List.length_set]; exact hx
      have hE := hL.blk (v := i + 1) hc hlen (by omega)
      rw [setb_setb] at hE
      have hs10 : szB ft i < 2 ^ (i + 1) := szB_lt i
      rw [B_180_1]
      simp only [B_180_0, B_180_2, B_180_3, B_180_5, cm, nI_clamp (show 6 * c + x < 2 ^ 31 by omega), r_iconst_p, r_iconst_m, r_bipush_p, r_bipush_m, r_sipush_p, r_sipush_m, r_ldc_p, r_ldc_m, r_ldc_w_p, r_ldc_w_m, r_lconst_p, r_lconst_m, r_ldc2_w_p, r_ldc2_w_m, r_iload, r_iload_n, r_lload, r_lload_n, r_aload, r_aload_n, r_istore, r_istore_n, r_astore, r_astore_n, r_lstore, r_lstore_n, r_iinc_p, r_iinc_m, r_iadd, r_isub, r_imul, r_iand, r_ior, r_ixor, r_ishl, r_ishr, r_iushr, r_idiv, r_irem, r_ladd, r_lsub, r_lmul, r_ldiv, r_lrem, r_lshl, r_lcmp, r_i2l, r_i2b, r_i2s, r_dup_i, r_dup_r, r_dup2_ii, r_dup2_ir, r_dup2_l, r_pop, r_getfield, r_putfield, r_iaload, r_iastore, r_aaload, r_arraylength, r_if_eq, r_icmp_eq, r_if_ne, r_icmp_ne, r_if_lt, r_icmp_lt, r_if_ge, r_icmp_ge, r_if_gt, r_icmp_gt, r_if_le, r_icmp_le, r_goto, r_switch, r_ireturn0, r_ireturn1, r_lreturn, r_areturn, r_return, r_inv0, r_inv1, r_inv2, r_inv3, r_inv4, r_inv5, r_min, r_max, r_acopy, onI_s, onL_s, onR_s, onO_s, fv0, fv1, fv2, fv3, fp1, fp20, fp21, fp3, tl_s, tl_n, lg0, lg1, lg2, lg3, lg4, lg5, lg6, lg7, lg8, lg9, lg10, lg11, lg12, lg13, lg14, lg15, lg16, lg17, ls0, ls1, ls2, ls3, ls4, ls5, ls6, ls7, ls8, ls9, ls10, ls11, ls12, ls13, ls14, ls15, ls16, ls17, lk0, lk1, lk2, lk3, lk4, lk5, lk6, lk7, lk8, lk9, lk10, lk11, lk12, lk13, lk14, lk15, lk16, lk17, kl_n, kl_i, kl_r, kl_l, Nat.reduceAdd, Nat.reduceLeDiff, not_false_eq_true, r_ins0, r_ins1, r_ins2, r_ins3, r_ins4, r_ins5]
      rw [brc_neg (nI_ge (by omega) (by omega)), inb_n (n := 36) rfl (by omega) (by omega)]
      refine ⟨by omega, trivial, by simp, (x_isSeen (hS.st (by omega)) hE).mono ?_⟩
      rintro r P ⟨rfl, hS1, hL1, w1, hO, hF⟩
      rw [hLI] at hO ⊢
      rw [hft']
      have hok1 := hok (i + 1) (by omega) (by omega)
      have wr : ∀ (m w : Nat) (P' : Mem), w + m = 24 → ST P' g → LV P' (setb (gB g) c x (i + 1)) (gno g) (gow g) (goq g) (gne g) (gek g) (gew g) (gec g) 0 0 0 0 → Lw M P' → OcM (gInS g c x (i + 1)) P' → (∀ v, 1 ≤ v → v ≤ i → ∀ w, w < 24 → P' 81 (24 * v + w) = nI (r7 (yr (gInS g c x v) (w + 1)).1 6)) → (∀ y, y < w → P' 81 (24 * (i + 1) + y) = nI (r7 (yr (gInS g c x (i + 1)) (y + 1)).1 6)) → WP 180 [] 4 [some (.ref 62), some (.int (nI c)), some (.int (nI x)), some (.int (nI (6 * c + x))), some (.int (nI wv)), some (.int (nI (szB ft (i + 1)))), some (.int (nI (i + 1))), some (.int (nI w))] [] P' Q := by
        intro m
        induction m with
        | zero =>
          intro w P' hw2 c1 c2 c3 c4 c5 c6
          obtain rfl : w = 24 := by omega
          rw [B_180_4]
          simp only [B_180_0, B_180_2, B_180_3, B_180_5, B_180_6, cm, q_add, r_iconst_p, r_iconst_m, r_bipush_p, r_bipush_m, r_sipush_p, r_sipush_m, r_ldc_p, r_ldc_m, r_ldc_w_p, r_ldc_w_m, r_lconst_p, r_lconst_m, r_ldc2_w_p, r_ldc2_w_m, r_iload, r_iload_n, r_lload, r_lload_n, r_aload, r_aload_n, r_istore, r_istore_n, r_astore, r_astore_n, r_lstore, r_lstore_n, r_iinc_p, r_iinc_m, r_iadd, r_isub, r_imul, r_iand, r_ior, r_ixor, r_ishl, r_ishr, r_iushr, r_idiv, r_irem, r_ladd, r_lsub, r_lmul, r_ldiv, r_lrem, r_lshl, r_lcmp, r_i2l, r_i2b, r_i2s, r_dup_i, r_dup_r, r_dup2_ii, r_dup2_ir, r_dup2_l, r_pop, r_getfield, r_putfield, r_iaload, r_iastore, r_aaload, r_arraylength, r_if_eq, r_icmp_eq, r_if_ne, r_icmp_ne, r_if_lt, r_icmp_lt, r_if_ge, r_icmp_ge, r_if_gt, r_icmp_gt, r_if_le, r_icmp_le, r_goto, r_switch, r_ireturn0, r_ireturn1, r_lreturn, r_areturn, r_return, r_inv0, r_inv1, r_inv2, r_inv3, r_inv4, r_inv5, r_min, r_max, r_acopy, onI_s, onL_s, onR_s, onO_s, fv0, fv1, fv2, fv3, fp1, fp20, fp21, fp3, tl_s, tl_n, lg0, lg1, lg2, lg3, lg4, lg5, lg6, lg7, lg8, lg9, lg10, lg11, lg12, lg13, lg14, lg15, lg16, lg17, ls0, ls1, ls2, ls3, ls4, ls5, ls6, ls7, ls8, ls9, ls10, ls11, ls12, ls13, ls14, ls15, ls16, ls17, lk0, lk1, lk2, lk3, lk4, lk5, lk6, lk7, lk8, lk9, lk10, lk11, lk12, lk13, lk14, lk15, lk16, lk17, kl_n, kl_i, kl_r, kl_l, Nat.reduceAdd, Nat.reduceLeDiff, not_false_eq_true, r_ins0, r_ins1, r_ins2, r_ins3, r_ins4, r_ins5]
          rw [brc_pos (Int32.le_refl _)]
          refine ih (i + 1) (i + 1) P' _ (by omega) (by omega) c1 c2 c3 (fun v a b w hw => ?_)
          by_cases e : v = i + 1
          · rw [e]; exact c6 w hw
          · exact c5 v a (by omega) w hw
        | succ m ihm =>
          intro w P' hw2 c1 c2 c3 c4 c5 c6
          rw [B_180_4]
          simp only [B_180_0, B_180_2, B_180_3, B_180_5, B_180_6, cm, q_add, q_mul, nI_clamp (show 24 * (i + 1) + w < 2 ^ 31 by omega), s_rowOf c4 hok1 (show w < 24 by omega), r_iconst_p, r_iconst_m, r_bipush_p, r_bipush_m, r_sipush_p, r_sipush_m, r_ldc_p, r_ldc_m, r_ldc_w_p, r_ldc_w_m, r_lconst_p, r_lconst_m, r_ldc2_w_p, r_ldc2_w_m, r_iload, r_iload_n, r_lload, r_lload_n, r_aload, r_aload_n, r_istore, r_istore_n, r_astore, r_astore_n, r_lstore, r_lstore_n, r_iinc_p, r_iinc_m, r_iadd, r_isub, r_imul, r_iand, r_ior, r_ixor, r_ishl, r_ishr, r_iushr, r_idiv, r_irem, r_ladd, r_lsub, r_lmul, r_ldiv, r_lrem, r_lshl, r_lcmp, r_i2l, r_i2b, r_i2s, r_dup_i, r_dup_r, r_dup2_ii, r_dup2_ir, r_dup2_l, r_pop, r_getfield, r_putfield, r_iaload, r_iastore, r_aaload, r_arraylength, r_if_eq, r_icmp_eq, r_if_ne, r_icmp_ne, r_if_lt, r_icmp_lt, r_if_ge, r_icmp_ge, r_if_gt, r_icmp_gt, r_if_le, r_icmp_le, r_goto, r_switch, r_ireturn0, r_ireturn1, r_lreturn, r_areturn, r_return, r_inv0, r_inv1, r_inv2, r_inv3, r_inv4, r_inv5, r_min, r_max, r_acopy, onI_s, onL_s, onR_s, onO_s, fv0, fv1, fv2, fv3, fp1, fp20, fp21, fp3, tl_s, tl_n, lg0, lg1, lg2, lg3, lg4, lg5, lg6, lg7, lg8, lg9, lg10, lg11, lg12, lg13, lg14, lg15, lg16, lg17, ls0, ls1, ls2, ls3, ls4, ls5, ls6, ls7, ls8, ls9, ls10, ls11, ls12, ls13, ls14, ls15, ls16, ls17, lk0, lk1, lk2, lk3, lk4, lk5, lk6, lk7, lk8, lk9, lk10, lk11, lk12, lk13, lk14, lk15, lk16, lk17, kl_n, kl_i, kl_r, kl_l, Nat.reduceAdd, Nat.reduceLeDiff, not_false_eq_true, r_ins0, r_ins1, r_ins2, r_ins3, r_ins4, r_ins5]
          rw [brc_neg (nI_ge (by omega) (by omega)), inb_n (n := 240) rfl (by omega) (by omega)]
          refine ⟨trivial, by simp, by omega, ihm (w + 1) _ (by omega) (c1.st (by omega)) (c2.st (by omega)) (c3.st (by omega)) (c4.st (by omega)) (fun v a b y hy => ?_) (fun y hy => ?_)⟩
          · rw [sm_eq, u_ne (by omega)]; exact c5 v a b y hy
          · rw [sm_eq, u_if]
            by_cases e : y = w
            · rw [if_pos (by omega), e]
            · rw [if_neg (by omega)]; exact c6 y (by omega)
      have W := wr 24 0 P (by omega) hS1 hL1 ((hw.st (by omega)).tr w1) hO (fun v a b w hw => by rw [hF 81 (by decide), sm_ne (by decide)]; exact h81 v a b w hw) (fun y hy => by omega)
      rw [szB_s] at W
      simp only [B_180_0, B_180_2, B_180_3, B_180_5, B_180_6, cm, shl1 (show i + 1 < 31 by omega), q_or, r_iconst_p, r_iconst_m, r_bipush_p, r_bipush_m, r_sipush_p, r_sipush_m, r_ldc_p, r_ldc_m, r_ldc_w_p, r_ldc_w_m, r_lconst_p, r_lconst_m, r_ldc2_w_p, r_ldc2_w_m, r_iload, r_iload_n, r_lload, r_lload_n, r_aload, r_aload_n, r_istore, r_istore_n, r_astore, r_astore_n, r_lstore, r_lstore_n, r_iinc_p, r_iinc_m, r_iadd, r_isub, r_imul, r_iand, r_ior, r_ixor, r_ishl, r_ishr, r_iushr, r_idiv, r_irem, r_ladd, r_lsub, r_lmul, r_ldiv, r_lrem, r_lshl, r_lcmp, r_i2l, r_i2b, r_i2s, r_dup_i, r_dup_r, r_dup2_ii, r_dup2_ir, r_dup2_l, r_pop, r_getfield, r_putfield, r_iaload, r_iastore, r_aaload, r_arraylength, r_if_eq, r_icmp_eq, r_if_ne, r_icmp_ne, r_if_lt, r_icmp_lt, r_if_ge, r_icmp_ge, r_if_gt, r_icmp_gt, r_if_le, r_icmp_le, r_goto, r_switch, r_ireturn0, r_ireturn1, r_lreturn, r_areturn, r_return, r_inv0, r_inv1, r_inv2, r_inv3, r_inv4, r_inv5, r_min, r_max, r_acopy, onI_s, onL_s, onR_s, onO_s, fv0, fv1, fv2, fv3, fp1, fp20, fp21, fp3, tl_s, tl_n, lg0, lg1, lg2, lg3, lg4, lg5, lg6, lg7, lg8, lg9, lg10, lg11, lg12, lg13, lg14, lg15, lg16, lg17, ls0, ls1, ls2, ls3, ls4, ls5, ls6, ls7, ls8, ls9, ls10, ls11, ls12, ls13, ls14, ls15, ls16, ls17, lk0, lk1, lk2, lk3, lk4, lk5, lk6, lk7, lk8, lk9, lk10, lk11, lk12, lk13, lk14, lk15, lk16, lk17, kl_n, kl_i, kl_r, kl_l, Nat.reduceAdd, Nat.reduceLeDiff, not_false_eq_true, r_ins0, r_ins1, r_ins2, r_ins3, r_ins4, r_ins5]
      cases hz : ft (i + 1) with
      | false =>
        rw [hz, if_neg (by decide)] at W
        rw [rF', brc_pos rfl, Nat.or_zero]
        exact W
      | true =>
        rw [hz, if_pos rfl] at W
        rw [rT', n10, brc_F]
        exact W
  simp only [E_180, B_180_0, B_180_2, B_180_3, B_180_5, B_180_6, cm, q_mul, q_add, nI_clamp (show 6 * c + x < 2 ^ 31 by omega), hwas, r_iconst_p, r_iconst_m, r_bipush_p, r_bipush_m, r_sipush_p, r_sipush_m, r_ldc_p, r_ldc_m, r_ldc_w_p, r_ldc_w_m, r_lconst_p, r_lconst_m, r_ldc2_w_p, r_ldc2_w_m, r_iload, r_iload_n, r_lload, r_lload_n, r_aload, r_aload_n, r_istore, r_istore_n, r_astore, r_astore_n, r_lstore, r_lstore_n, r_iinc_p, r_iinc_m, r_iadd, r_isub, r_imul, r_iand, r_ior, r_ixor, r_ishl, r_ishr, r_iushr, r_idiv, r_irem, r_ladd, r_lsub, r_lmul, r_ldiv, r_lrem, r_lshl, r_lcmp, r_i2l, r_i2b, r_i2s, r_dup_i, r_dup_r, r_dup2_ii, r_dup2_ir, r_dup2_l, r_pop, r_getfield, r_putfield, r_iaload, r_iastore, r_aaload, r_arraylength, r_if_eq, r_icmp_eq, r_if_ne, r_icmp_ne, r_if_lt, r_icmp_lt, r_if_ge, r_icmp_ge, r_if_gt, r_icmp_gt, r_if_le, r_icmp_le, r_goto, r_switch, r_ireturn0, r_ireturn1, r_lreturn, r_areturn, r_return, r_inv0, r_inv1, r_inv2, r_inv3, r_inv4, r_inv5, r_min, r_max, r_acopy, onI_s, onL_s, onR_s, onO_s, fv0, fv1, fv2, fv3, fp1, fp20, fp21, fp3, tl_s, tl_n, lg0, lg1, lg2, lg3, lg4, lg5, lg6, lg7, lg8, lg9, lg10, lg11, lg12, lg13, lg14, lg15, lg16, lg17, ls0, ls1, ls2, ls3, ls4, ls5, ls6, ls7, ls8, ls9, ls10, ls11, ls12, ls13, ls14, ls15, ls16, ls17, lk0, lk1, lk2, lk3, lk4, lk5, lk6, lk7, lk8, lk9, lk10, lk11, lk12, lk13, lk14, lk15, lk16, lk17, kl_n, kl_i, kl_r, kl_l, Nat.reduceAdd, Nat.reduceLeDiff, not_false_eq_true, r_ins0, r_ins1, r_ins2, r_ins3, r_ins4, r_ins5]
  rw [inb_n (n := 36) rfl (by omega) (by omega)]
  refine ⟨by omega, key 9 0 wv M none (by omega) ⟨hw1, hw9⟩ h.ST (by rw [hid]; exact hl0) Lw.rf (fun v a b => by omega)⟩
set_option maxHeartbeats 1000000 in
theorem m_askOf (h : MF M g) {c x : Nat} (hc : c < 6) (hx : x < (gB g c).length) : Ct 183 [.ref 62, .int (nI c), .int (nI x)] M (fun r N => r = some (.int (gask g c x)) ∧ MF N g ∧ Lw M N) := by
  have hl0 := h.LV
  have hok : ∀ v, 1 ≤ v → v ≤ 9 → okI (gInS g c x v) := fun v a b => ⟨setb_ok (bkC_ok _ _) _ ⟨a, b⟩, hl0.2.2.2.1, hl0.2.2.2.2.1, hl0.2.2.2.2.2.1⟩
  have hs : gszB g c x < 2 ^ 10 := szB_lt 9
  generalize hf : (fun w => mal (gszB g c x) (fun v => r7 (yr (gInS g c x v) (w + 1)).1 6) 9) = f
  have hf9 : ∀ w, f w < 10 := fun w => by rw [← hf]; have := mal_le (gszB g c x) (fun v => r7 (yr (gInS g c x v) (w + 1)).1 6) 9; show mal _ _ _ < 10; omega
  have e : gask g c x = nI (amn f 24) := by
    unfold gask
    have e2 : (fun w => mal (gszB g c x) (fun v => shp (yr (gInS g c x v) (w + 1)).1 6) 9) = f := by
      rw [← hf]
      funext w
      exact mal_cg (fun a b a1 a2 b1 b2 => shp_r7 (yr_ok (hok a a1 a2) (w + 1)).1 (yr_ok (hok b b1 b2) (w + 1)).1) 9 (by omega)
    rw [e2, show (24 : Nat) = 23 + 1 from rfl, mnf_amn hf9, ix_s]
  rw [e]
  simp only [E_183, B_183_0, B_183_2, B_183_3, B_183_4, cm, r_iconst_p, r_iconst_m, r_bipush_p, r_bipush_m, r_sipush_p, r_sipush_m, r_ldc_p, r_ldc_m, r_ldc_w_p, r_ldc_w_m, r_lconst_p, r_lconst_m, r_ldc2_w_p, r_ldc2_w_m, r_iload, r_iload_n, r_lload, r_lload_n, r_aload, r_aload_n, r_istore, r_istore_n, r_astore, r_astore_n, r_lstore, r_lstore_n, r_iinc_p, r_iinc_m, r_iadd, r_isub, r_imul, r_iand, r_ior, r_ixor, r_ishl, r_ishr, r_iushr, r_idiv, r_irem, r_ladd, r_lsub, r_lmul, r_ldiv, r_lrem, r_lshl, r_lcmp, r_i2l, r_i2b, r_i2s, r_dup_i, r_dup_r, r_dup2_ii, r_dup2_ir, r_dup2_l, r_pop, r_getfield, r_putfield, r_iaload, r_iastore, r_aaload, r_arraylength, r_if_eq, r_icmp_eq, r_if_ne, r_icmp_ne, r_if_lt, r_icmp_lt, r_if_ge, r_icmp_ge, r_if_gt, r_icmp_gt, r_if_le, r_icmp_le, r_goto, r_switch, r_ireturn0, r_ireturn1, r_lreturn, r_areturn, r_return, r_inv0, r_inv1, r_inv2, r_inv3, r_inv4, r_inv5, r_min, r_max, r_acopy, onI_s, onL_s, onR_s, onO_s, fv0, fv1, fv2, fv3, fp1, fp20, fp21, fp3, tl_s, tl_n, lg0, lg1, lg2, lg3, lg4, lg5, lg6, lg7, lg8, lg9, lg10, lg11, lg12, lg13, lg14, lg15, lg16, lg17, ls0, ls1, ls2, ls3, ls4, ls5, ls6, ls7, ls8, ls9, ls10, ls11, ls12, ls13, ls14, ls15, ls16, ls17, lk0, lk1, lk2, lk3, lk4, lk5, lk6, lk7, lk8, lk9, lk10, lk11, lk12, lk13, lk14, lk15, lk16, lk17, kl_n, kl_i, kl_r, kl_l, Nat.reduceAdd, Nat.reduceLeDiff, not_false_eq_true, r_ins0, r_ins1, r_ins2, r_ins3, r_ins4, r_ins5]
  refine ⟨trivial, by simp, (m_sizeOf h hc hx).mono ?_⟩
  rintro r N ⟨rfl, hN, hw, h81⟩
  simp only [B_183_0, B_183_2, B_183_3, B_183_4, cm, r_iconst_p, r_iconst_m, r_bipush_p, r_bipush_m, r_sipush_p, r_sipush_m, r_ldc_p, r_ldc_m, r_ldc_w_p, r_ldc_w_m, r_lconst_p, r_lconst_m, r_ldc2_w_p, r_ldc2_w_m, r_iload, r_iload_n, r_lload, r_lload_n, r_aload, r_aload_n, r_istore, r_istore_n, r_astore, r_astore_n, r_lstore, r_lstore_n, r_iinc_p, r_iinc_m, r_iadd, r_isub, r_imul, r_iand, r_ior, r_ixor, r_ishl, r_ishr, r_iushr, r_idiv, r_irem, r_ladd, r_lsub, r_lmul, r_ldiv, r_lrem, r_lshl, r_lcmp, r_i2l, r_i2b, r_i2s, r_dup_i, r_dup_r, r_dup2_ii, r_dup2_ir, r_dup2_l, r_pop, r_getfield, r_putfield, r_iaload, r_iastore, r_aaload, r_arraylength, r_if_eq, r_icmp_eq, r_if_ne, r_icmp_ne, r_if_lt, r_icmp_lt, r_if_ge, r_icmp_ge, r_if_gt, r_icmp_gt, r_if_le, r_icmp_le, r_goto, r_switch, r_ireturn0, r_ireturn1, r_lreturn, r_areturn, r_return, r_inv0, r_inv1, r_inv2, r_inv3, r_inv4, r_inv5, r_min, r_max, r_acopy, onI_s, onL_s, onR_s, onO_s, fv0, fv1, fv2, fv3, fp1, fp20, fp21, fp3, tl_s, tl_n, lg0, lg1, lg2, lg3, lg4, lg5, lg6, lg7, lg8, lg9, lg10, lg11, lg12, lg13, lg14, lg15, lg16, lg17, ls0, ls1, ls2, ls3, ls4, ls5, ls6, ls7, ls8, ls9, ls10, ls11, ls12, ls13, ls14, ls15, ls16, ls17, lk0, lk1, lk2, lk3, lk4, lk5, lk6, lk7, lk8, lk9, lk10, lk11, lk12, lk13, lk14, lk15, lk16, lk17, kl_n, kl_i, kl_r, kl_l, Nat.reduceAdd, Nat.reduceLeDiff, not_false_eq_true, r_ins0, r_ins1, r_ins2, r_ins3, r_ins4, r_ins5]
  have al : ∀ {w : Nat} {Q : Option Value → Mem → Prop}, w < 24 → Ct 182 [.ref 62, .int (nI (gszB g c x)), .int (nI w)] N Q = Q (some (.int (nI (f w)))) N := by
    intro w Q hw
    rw [s_alike hs hw (G := fun v => r7 (yr (gInS g c x v) (w + 1)).1 6) (fun v a b => h81 v a b w hw) (fun v a b => by have := r7_le (yr_ok (hok v a b) (w + 1)).1 6 (by omega); show r7 _ _ < _; omega), ← hf]
  have key : ∀ n i, i + n = 24 → 0 < i → WP 183 [] 1 [some (.ref 62), some (.int (nI c)), some (.int (nI x)), some (.int (nI (gszB g c x))), some (.int (nI (amn f i))), some (.int (nI i))] [] N (fun r P => r = some (.int (nI (amn f 24))) ∧ P = N) := by
    intro n
    induction n with
    | zero =>
      intro i hi _
      obtain rfl : i = 24 := by omega
      rw [B_183_1]
      simp only [B_183_0, B_183_2, B_183_3, B_183_4, cm, r_iconst_p, r_iconst_m, r_bipush_p, r_bipush_m, r_sipush_p, r_sipush_m, r_ldc_p, r_ldc_m, r_ldc_w_p, r_ldc_w_m, r_lconst_p, r_lconst_m, r_ldc2_w_p, r_ldc2_w_m, r_iload, r_iload_n, r_lload, r_lload_n, r_aload, r_aload_n, r_istore, r_istore_n, r_astore, r_astore_n, r_lstore, r_lstore_n, r_iinc_p, r_iinc_m, r_iadd, r_isub, r_imul, r_iand, r_ior, r_ixor, r_ishl, r_ishr, r_iushr, r_idiv, r_irem, r_ladd, r_lsub, r_lmul, r_ldiv, r_lrem, r_lshl, r_lcmp, r_i2l, r_i2b, r_i2s, r_dup_i, r_dup_r, r_dup2_ii, r_dup2_ir, r_dup2_l, r_pop, r_getfield, r_putfield, r_iaload, r_iastore, r_aaload, r_arraylength, r_if_eq, r_icmp_eq, r_if_ne, r_icmp_ne, r_if_lt, r_icmp_lt, r_if_ge, r_icmp_ge, r_if_gt, r_icmp_gt, r_if_le, r_icmp_le, r_goto, r_switch, r_ireturn0, r_ireturn1, r_lreturn, r_areturn, r_return, r_inv0, r_inv1, r_inv2, r_inv3, r_inv4, r_inv5, r_min, r_max, r_acopy, onI_s, onL_s, onR_s, onO_s, fv0, fv1, fv2, fv3, fp1, fp20, fp21, fp3, tl_s, tl_n, lg0, lg1, lg2, lg3, lg4, lg5, lg6, lg7, lg8, lg9, lg10, lg11, lg12, lg13, lg14, lg15, lg16, lg17, ls0, ls1, ls2, ls3, ls4, ls5, ls6, ls7, ls8, ls9, ls10, ls11, ls12, ls13, ls14, ls15, ls16, ls17, lk0, lk1, lk2, lk3, lk4, lk5, lk6, lk7, lk8, lk9, lk10, lk11, lk12, lk13, lk14, lk15, lk16, lk17, kl_n, kl_i, kl_r, kl_l, Nat.reduceAdd, Nat.reduceLeDiff, not_false_eq_true, r_ins0, r_ins1, r_ins2, r_ins3, r_ins4, r_ins5]
      rw [brc_pos (Int32.le_refl _)]
      simp
    | succ n ih =>
      intro i hi h0
      have ha : amn f i < i := by have := amn_lt f (i - 1); rw [show i - 1 + 1 = i by omega] at this; omega
      have h1 := hf9 i
      have h2 := hf9 (amn f i)
      have ih' := ih (i + 1) (by omega) (by omega)
      rw [amn_s] at ih'
      rw [B_183_1]
      simp only [B_183_0, B_183_2, B_183_3, B_183_4, cm, al (show i < 24 by omega), al (show amn f i < 24 by omega), q_add, r_iconst_p, r_iconst_m, r_bipush_p, r_bipush_m, r_sipush_p, r_sipush_m, r_ldc_p, r_ldc_m, r_ldc_w_p, r_ldc_w_m, r_lconst_p, r_lconst_m, r_ldc2_w_p, r_ldc2_w_m, r_iload, r_iload_n, r_lload, r_lload_n, r_aload, r_aload_n, r_istore, r_istore_n, r_astore, r_astore_n, r_lstore, r_lstore_n, r_iinc_p, r_iinc_m, r_iadd, r_isub, r_imul, r_iand, r_ior, r_ixor, r_ishl, r_ishr, r_iushr, r_idiv, r_irem, r_ladd, r_lsub, r_lmul, r_ldiv, r_lrem, r_lshl, r_lcmp, r_i2l, r_i2b, r_i2s, r_dup_i, r_dup_r, r_dup2_ii, r_dup2_ir, r_dup2_l, r_pop, r_getfield, r_putfield, r_iaload, r_iastore, r_aaload, r_arraylength, r_if_eq, r_icmp_eq, r_if_ne, r_icmp_ne, r_if_lt, r_icmp_lt, r_if_ge, r_icmp_ge, r_if_gt, r_icmp_gt, r_if_le, r_icmp_le, r_goto, r_switch, r_ireturn0, r_ireturn1, r_lreturn, r_areturn, r_return, r_inv0, r_inv1, r_inv2, r_inv3, r_inv4, r_inv5, r_min, r_max, r_acopy, onI_s, onL_s, onR_s, onO_s, fv0, fv1, fv2, fv3, fp1, fp20, fp21, fp3, tl_s, tl_n, lg0, lg1, lg2, lg3, lg4, lg5, lg6, lg7, lg8, lg9, lg10, lg11, lg12, lg13, lg14, lg15, lg16, lg17, ls0, ls1, ls2, ls3, ls4, ls5, ls6, ls7, ls8, ls9, ls10, ls11, ls12, ls13, ls14, ls15, ls16, ls17, lk0, lk1, lk2, lk3, lk4, lk5, lk6, lk7, lk8, lk9, lk10, lk11, lk12, lk13, lk14, lk15, lk16, lk17, kl_n, kl_i, kl_r, kl_l, Nat.reduceAdd, Nat.reduceLeDiff, not_false_eq_true, r_ins0, r_ins1, r_ins2, r_ins3, r_ins4, r_ins5]
      rw [brc_neg (nI_ge (by omega) (by omega)), q_le (by omega) (by omega)]
      refine ⟨trivial, by simp, trivial, by simp, brc_i (fun hz => ?_) (fun hz => ?_)⟩
      · rw [if_neg (by omega)] at ih'; exact ih'
      · rw [if_pos (by omega)] at ih'; exact ih'
  have k1 := key 23 1 (by omega) (by omega)
  rw [amn_1] at k1
  refine k1.mono ?_
  rintro r P ⟨rfl, rfl⟩
  exact ⟨rfl, hN, hw⟩
end RW
