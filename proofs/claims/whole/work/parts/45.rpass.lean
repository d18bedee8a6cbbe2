/-! the reference: a week, a summer -/
def LL : List Nat := [73, 74, 75, 76, 77, 78, 79]
/-- behind K7 heights, K8 blocks written down -/
def Rc (I : Inp) (N : Mem) (K7 K8 : Nat) : Prop := (∀ q, q < K7 → N 77 q = nI ((yr I (q / 6 + 1)).1 (q % 6)).length) ∧ ∀ q, q < K8 → N 78 q = nI (((yr I (q / 36 + 1)).1 (q / 6 % 6)).getD (q % 6) 0)
def PI (I : Inp) (M N : Mem) (w : Nat) : Prop := Fr LL M N ∧ RG N 73 74 (yr I w).1 ∧ (∀ j, j < 12 → N 76 j = nI ((yr I w).2 j)) ∧ (∀ v, v < w → N 79 v = nI (wat I v)) ∧ Rc I N (6 * w) (36 * w)
/-- what the reference needs to run a summer -/
def LV (M : Mem) (B : Col) (no : Nat) (ow oq : Nat → Nat) (ne : Nat) (ek ew ec : Nat → Nat) (gn cv a b : Nat) : Prop := RG M 69 70 B ∧ okC6 B ∧ OrM M no ow oq ∧ no ≤ 12 ∧ (∀ i, ow i ≤ 23) ∧ (∀ i, oq i ≤ 9) ∧ EvM M ne ek ew ec ∧ (M 62 13 = nI gn ∧ gn < 256) ∧ (M 62 14 = ix cv ∧ cv ≤ 6) ∧ M 62 15 = nI a ∧ M 62 16 = nI b ∧ a < 6 ∧ b < 6
def LI (B : Col) (no : Nat) (ow oq : Nat → Nat) (ne : Nat) (ek ew ec : Nat → Nat) (gn cv a b : Nat) : Inp := InW (if a = b then B else swp B a b) no ow oq (wea ek ew ec ne gn cv)
/-- what a summer leaves -/
def OcM (I : Inp) (N : Mem) : Prop := (∀ q, q < 144 → N 77 q = nI ((yr I (q / 6 + 1)).1 (q % 6)).length) ∧ (∀ q, q < 864 → N 78 q = nI (((yr I (q / 36 + 1)).1 (q / 6 % 6)).getD (q % 6) 0)) ∧ (∀ v, v < 24 → N 79 v = nI (wat I v)) ∧ (∀ j, j < 12 → N 76 j = nI ((yr I 24).2 j)) ∧ RG N 73 74 (yr I 24).1
theorem yr_has0 {I : Inp} {i : Nat} : ∀ w, w ≤ I.2.2.1 i → (yr I w).2 i = 0
  | 0, _ => rfl
  | w + 1, h => by
    rw [yr_s]
    show (ord I.2.2.1 I.2.2.2.1 w I.2.1 (yr I w)).2 i = 0
    rw [ord_has _ (Or.inl (by omega))]
    exact yr_has0 w (by omega)
section RS
variable {M : Mem} {B : Col} {no ne gn cv a b : Nat} {ow oq ek ew ec : Nat → Nat}
theorem LV.I (H : LV M B no ow oq ne ek ew ec gn cv a b) : okI (LI B no ow oq ne ek ew ec gn cv a b) := by
  refine ⟨?_, H.2.2.2.1, H.2.2.2.2.1, H.2.2.2.2.2.1⟩
  show okC6 (if a = b then B else swp B a b)
  split
  · exact H.2.1
  · exact swp_ok H.2.1 a b
set_option maxHeartbeats 2000000 in
theorem s_passes (H : LV M B no ow oq ne ek ew ec gn cv a b) {N : Mem} {w : Nat} (hw : w < 24) (hP : PI (LI B no ow oq ne ek ew ec gn cv a b) M N w) : Ct 141 [.ref 62, .int (nI w)] N (fun r P => r = none ∧ PI (LI B no ow oq ne ek ew ec gn cv a b) M P (w + 1)) := by
  have hI := H.I
  obtain ⟨-, -, H3, H4, H5, H6, H7, ⟨H8, H8'⟩, ⟨H9, H9'⟩, H10⟩ := H
  generalize hIe : LI B no ow oq ne ek ew ec gn cv a b = I at *
  have i2 : I.2.1 = no := by rw [← hIe]; rfl
  have i3 : I.2.2.1 = ow := by rw [← hIe]; rfl
  have i4 : I.2.2.2.1 = oq := by rw [← hIe]; rfl
  have i5 : I.2.2.2.2.1 w = (wea ek ew ec ne gn cv).1.testBit w := by rw [← hIe]; rfl
  have i6 : I.2.2.2.2.2.1 w = (wea ek ew ec ne gn cv).2.1.testBit w := by rw [← hIe]; rfl
  have i7 : I.2.2.2.2.2.2 w = swF (wea ek ew ec ne gn cv) w := by rw [← hIe]; rfl
  obtain ⟨p1, p2, p3, p4, p5⟩ := hP
  generalize hQ : (fun (r : Option Value) (P : Mem) => r = none ∧ PI I M P (w + 1)) = Q
  have okt : ∀ i, okC6 (ord ow oq w i (yr I w)).1 ∧ ∀ j, (ord ow oq w i (yr I w)).2 j ≤ 18 := fun i => ord_ok H6 i (yr_ok hI w).1 (yr_ok hI w).2
  have hEC : mlC (ord ow oq w no (yr I w)).1 (swF (wea ek ew ec ne gn cv) w) ((wea ek ew ec ne gn cv).1.testBit w) ((wea ek ew ec ne gn cv).2.1.testBit w) = (yr I (w + 1)).1 := by rw [yr_s, i2, i3, i4, i5, i6, i7]
  have hEW : mlW (ord ow oq w no (yr I w)).1 (swF (wea ek ew ec ne gn cv) w) ((wea ek ew ec ne gn cv).1.testBit w) ((wea ek ew ec ne gn cv).2.1.testBit w) = wat I w := by unfold wat; rw [i2, i3, i4, i5, i6, i7]
  have hEH : (yr I (w + 1)).2 = (ord ow oq w no (yr I w)).2 := by rw [yr_s, i2, i3, i4]
  have hok1 := (yr_ok hI (w + 1)).1
  -- the week is written down
  have wr : ∀ (n c : Nat) (P : Mem) (v : Option Value), c + n = 6 → Fr LL M P → RG P 73 74 (yr I (w + 1)).1 → (∀ j, j < 12 → P 76 j = nI ((yr I (w + 1)).2 j)) → (∀ v, v < w + 1 → P 79 v = nI (wat I v)) → Rc I P (6 * w + c) (36 * w + 6 * c) → WP 141 [] 4 [some (.ref 62), some (.int (nI w)), some (.int (nI c)), v] [] P Q := by
    intro n
    induction n with
    | zero =>
      intro c P v hc a1 a2 a3 a4 a5
      obtain rfl : c = 6 := by omega
      rw [B_141_4]
      simp only [B_141_0, B_141_2, B_141_3, B_141_6, B_141_7, B_141_8, B_141_9, cm, r_iconst_p, r_iconst_m, r_bipush_p, r_bipush_m, r_sipush_p, r_sipush_m, r_ldc_p, r_ldc_m, r_ldc_w_p, r_ldc_w_m, r_lconst_p, r_lconst_m, r_ldc2_w_p, r_ldc2_w_m, r_iload, r_iload_n, r_lload, r_lload_n, r_aload, r_aload_n, r_istore, r_istore_n, r_astore, r_astore_n, r_lstore, r_lstore_n, r_iinc_p, r_iinc_m, r_iadd, r_isub, r_imul, r_iand, r_ior, r_ixor, r_ishl, r_ishr, r_iushr, r_idiv, r_irem, r_ladd, r_lsub, r_lmul, r_ldiv, r_lrem, r_lshl, r_lcmp, r_i2l, r_i2b, r_i2s, r_dup_i, r_dup_r, r_dup2_ii, r_dup2_ir, r_dup2_l, r_pop, r_getfield, r_putfield, r_iaload, r_iastore, r_aaload, r_arraylength, r_if_eq, r_icmp_eq, r_if_ne, r_icmp_ne, r_if_lt, r_icmp_lt, r_if_ge, r_icmp_ge, r_if_gt, r_icmp_gt, r_if_le, r_icmp_le, r_goto, r_switch, r_ireturn0, r_ireturn1, r_lreturn, r_areturn, r_return, r_inv0, r_inv1, r_inv2, r_inv3, r_inv4, r_inv5, r_min, r_max, r_acopy, onI_s, onL_s, onR_s, onO_s, fv0, fv1, fv2, fv3, fp1, fp20, fp21, fp3, tl_s, tl_n, lg0, lg1, lg2, lg3, lg4, lg5, lg6, lg7, lg8, lg9, lg10, lg11, lg12, lg13, lg14, lg15, lg16, lg17, ls0, ls1, ls2, ls3, ls4, ls5, ls6, ls7, ls8, ls9, ls10, ls11, ls12, ls13, ls14, ls15, ls16, ls17, lk0, lk1, lk2, lk3, lk4, lk5, lk6, lk7, lk8, lk9, lk10, lk11, lk12, lk13, lk14, lk15, lk16, lk17, kl_n, kl_i, kl_r, kl_l, Nat.reduceAdd, Nat.reduceLeDiff, not_false_eq_true, r_ins0, r_ins1, r_ins2, r_ins3, r_ins4, r_ins5]
      rw [brc_pos (Int32.le_refl _), ← hQ]
      rw [show 6 * w + 6 = 6 * (w + 1) by omega, show 36 * w + 6 * 6 = 36 * (w + 1) by omega] at a5
      exact ⟨rfl, a1, a2, a3, a4, a5⟩
    | succ n ih =>
      intro c P0 v hc a1 a2 a3 a4 a5
      have hc6 : c < 6 := by omega
      have hl := (hok1 c).1
      have inner : ∀ (m h : Nat) (P : Mem), h + m = 6 → Fr LL M P → RG P 73 74 (yr I (w + 1)).1 → (∀ j, j < 12 → P 76 j = nI ((yr I (w + 1)).2 j)) → (∀ v, v < w + 1 → P 79 v = nI (wat I v)) → Rc I P (6 * w + (c + 1)) (36 * w + 6 * c + h) → WP 141 [] 5 [some (.ref 62), some (.int (nI w)), some (.int (nI c)), some (.int (nI h))] [] P Q := by
        intro m
        induction m with
        | zero =>
          intro h P hh a1 a2 a3 a4 a5
          obtain rfl : h = 6 := by omega
          rw [B_141_5]
          simp only [B_141_0, B_141_2, B_141_3, B_141_6, B_141_7, B_141_8, B_141_9, cm, q_add, r_iconst_p, r_iconst_m, r_bipush_p, r_bipush_m, r_sipush_p, r_sipush_m, r_ldc_p, r_ldc_m, r_ldc_w_p, r_ldc_w_m, r_lconst_p, r_lconst_m, r_ldc2_w_p, r_ldc2_w_m, r_iload, r_iload_n, r_lload, r_lload_n, r_aload, r_aload_n, r_istore, r_istore_n, r_astore, r_astore_n, r_lstore, r_lstore_n, r_iinc_p, r_iinc_m, r_iadd, r_isub, r_imul, r_iand, r_ior, r_ixor, r_ishl, r_ishr, r_iushr, r_idiv, r_irem, r_ladd, r_lsub, r_lmul, r_ldiv, r_lrem, r_lshl, r_lcmp, r_i2l, r_i2b, r_i2s, r_dup_i, r_dup_r, r_dup2_ii, r_dup2_ir, r_dup2_l, r_pop, r_getfield, r_putfield, r_iaload, r_iastore, r_aaload, r_arraylength, r_if_eq, r_icmp_eq, r_if_ne, r_icmp_ne, r_if_lt, r_icmp_lt, r_if_ge, r_icmp_ge, r_if_gt, r_icmp_gt, r_if_le, r_icmp_le, r_goto, r_switch, r_ireturn0, r_ireturn1, r_lreturn, r_areturn, r_return, r_inv0, r_inv1, r_inv2, r_inv3, r_inv4, r_inv5, r_min, r_max, r_acopy, onI_s, onL_s, onR_s, onO_s, fv0, fv1, fv2, fv3, fp1, fp20, fp21, fp3, tl_s, tl_n, lg0, lg1, lg2, lg3, lg4, lg5, lg6, lg7, lg8, lg9, lg10, lg11, lg12, lg13, lg14, lg15, lg16, lg17, ls0, ls1, ls2, ls3, ls4, ls5, ls6, ls7, ls8, ls9, ls10, ls11, ls12, ls13, ls14, ls15, ls16, ls17, lk0, lk1, lk2, lk3, lk4, lk5, lk6, lk7, lk8, lk9, lk10, lk11, lk12, lk13, lk14, lk15, lk16, lk17, kl_n, kl_i, kl_r, kl_l, Nat.reduceAdd, Nat.reduceLeDiff, not_false_eq_true, r_ins0, r_ins1, r_ins2, r_ins3, r_ins4, r_ins5]
          rw [brc_pos (Int32.le_refl _)]
          rw [show 36 * w + 6 * c + 6 = 36 * w + 6 * (c + 1) by omega] at a5
          exact ih (c + 1) P _ (by omega) a1 a2 a3 a4 a5
        | succ m ihm =>
          intro h P hh a1 a2 a3 a4 a5
          have hv9 := getD_le (hok1 c).2 h
          have st : ∀ x, x = ((yr I (w + 1)).1 c).getD h 0 → WP 141 [] 7 [some (.ref 62), some (.int (nI w)), some (.int (nI c)), some (.int (nI h))] [.int (nI x), .int (nI (36 * w + 6 * c + h)), .ref 78] P Q := by
            intro x hx
            simp only [B_141_0, B_141_2, B_141_3, B_141_6, B_141_7, B_141_8, B_141_9, cm, q_add, nI_clamp (show 36 * w + 6 * c + h < 2 ^ 31 by omega), r_iconst_p, r_iconst_m, r_bipush_p, r_bipush_m, r_sipush_p, r_sipush_m, r_ldc_p, r_ldc_m, r_ldc_w_p, r_ldc_w_m, r_lconst_p, r_lconst_m, r_ldc2_w_p, r_ldc2_w_m, r_iload, r_iload_n, r_lload, r_lload_n, r_aload, r_aload_n, r_istore, r_istore_n, r_astore, r_astore_n, r_lstore, r_lstore_n, r_iinc_p, r_iinc_m, r_iadd, r_isub, r_imul, r_iand, r_ior, r_ixor, r_ishl, r_ishr, r_iushr, r_idiv, r_irem, r_ladd, r_lsub, r_lmul, r_ldiv, r_lrem, r_lshl, r_lcmp, r_i2l, r_i2b, r_i2s, r_dup_i, r_dup_r, r_dup2_ii, r_dup2_ir, r_dup2_l, r_pop, r_getfield, r_putfield, r_iaload, r_iastore, r_aaload, r_arraylength, r_if_eq, r_icmp_eq, r_if_ne, r_icmp_ne, r_if_lt, r_icmp_lt, r_if_ge, r_icmp_ge, r_if_gt, r_icmp_gt, r_if_le, r_icmp_le, r_goto, r_switch, r_ireturn0, r_ireturn1, r_lreturn, r_areturn, r_return, r_inv0, r_inv1, r_inv2, r_inv3, r_inv4, r_inv5, r_min, r_max, r_acopy, onI_s, onL_s, onR_s, onO_s, fv0, fv1, fv2, fv3, fp1, fp20, fp21, fp3, tl_s, tl_n, lg0, lg1, lg2, lg3, lg4, lg5, lg6, lg7, lg8, lg9, lg10, lg11, lg12, lg13, lg14, lg15, lg16, lg17, ls0, ls1, ls2, ls3, ls4, ls5, ls6, ls7, ls8, ls9, ls10, ls11, ls12, ls13, ls14, ls15, ls16, ls17, lk0, lk1, lk2, lk3, lk4, lk5, lk6, lk7, lk8, lk9, lk10, lk11, lk12, lk13, lk14, lk15, lk16, lk17, kl_n, kl_i, kl_r, kl_l, Nat.reduceAdd, Nat.reduceLeDiff, not_false_eq_true, r_ins0, r_ins1, r_ins2, r_ins3, r_ins4, r_ins5]
            rw [inb_n (n := 864) rfl (by omega) (by omega)]
            refine ⟨by omega, ?_⟩
            refine ihm (h + 1) _ (by omega) (a1.st (by decide)) (a2.ne (by decide) (by decide)) (fun j hj => by rw [sm_ne (by decide)]; exact a3 j hj) (fun v hv => by rw [sm_ne (by decide)]; exact a4 v hv) ⟨fun q hq => by rw [sm_ne (by decide)]; exact a5.1 q hq, fun q hq => ?_⟩
            rw [sm_eq, u_if]
            by_cases e : q = 36 * w + 6 * c + h
            · rw [if_pos e, hx, e, show (36 * w + 6 * c + h) / 36 = w by omega, show (36 * w + 6 * c + h) / 6 % 6 = c by omega, show (36 * w + 6 * c + h) % 6 = h by omega]
            · rw [if_neg e]; exact a5.2 q (by omega)
          rw [B_141_5]
          simp only [B_141_0, B_141_2, B_141_3, B_141_6, B_141_9, cm, q_add, q_mul, nI_clamp (show c < 2 ^ 31 by omega), (a2 c hc6).1, nI_clamp (show 6 * c + h < 2 ^ 31 by omega), r_iconst_p, r_iconst_m, r_bipush_p, r_bipush_m, r_sipush_p, r_sipush_m, r_ldc_p, r_ldc_m, r_ldc_w_p, r_ldc_w_m, r_lconst_p, r_lconst_m, r_ldc2_w_p, r_ldc2_w_m, r_iload, r_iload_n, r_lload, r_lload_n, r_aload, r_aload_n, r_istore, r_istore_n, r_astore, r_astore_n, r_lstore, r_lstore_n, r_iinc_p, r_iinc_m, r_iadd, r_isub, r_imul, r_iand, r_ior, r_ixor, r_ishl, r_ishr, r_iushr, r_idiv, r_irem, r_ladd, r_lsub, r_lmul, r_ldiv, r_lrem, r_lshl, r_lcmp, r_i2l, r_i2b, r_i2s, r_dup_i, r_dup_r, r_dup2_ii, r_dup2_ir, r_dup2_l, r_pop, r_getfield, r_putfield, r_iaload, r_iastore, r_aaload, r_arraylength, r_if_eq, r_icmp_eq, r_if_ne, r_icmp_ne, r_if_lt, r_icmp_lt, r_if_ge, r_icmp_ge, r_if_gt, r_icmp_gt, r_if_le, r_icmp_le, r_goto, r_switch, r_ireturn0, r_ireturn1, r_lreturn, r_areturn, r_return, r_inv0, r_inv1, r_inv2, r_inv3, r_inv4, r_inv5, r_min, r_max, r_acopy, onI_s, onL_s, onR_s, onO_s, fv0, fv1, fv2, fv3, fp1, fp20, fp21, fp3, tl_s, tl_n, lg0, lg1, lg2, lg3, lg4, lg5, lg6, lg7, lg8, lg9, lg10, lg11, lg12, lg13, lg14, lg15, lg16, lg17, ls0, ls1, ls2, ls3, ls4, ls5, ls6, ls7, ls8, ls9, ls10, ls11, ls12, ls13, ls14, ls15, ls16, ls17, lk0, lk1, lk2, lk3, lk4, lk5, lk6, lk7, lk8, lk9, lk10, lk11, lk12, lk13, lk14, lk15, lk16, lk17, kl_n, kl_i, kl_r, kl_l, Nat.reduceAdd, Nat.reduceLeDiff, not_false_eq_true, r_ins0, r_ins1, r_ins2, r_ins3, r_ins4, r_ins5]
          rw [brc_neg (nI_ge (by omega) (by omega)), inb_n (n := 6) rfl (by omega) (by omega), inb_n (n := 36) rfl (by omega) (by omega), q_le (by omega) (by omega)]
          refine ⟨hc6, brc_i (fun hz => st 0 ?_) (fun hz => ?_)⟩
          · rw [List.getD_eq_getElem?_getD, List.getElem?_eq_none (by omega)]; rfl
          · rw [(a2 c hc6).2 h (by omega)]
            exact ⟨by omega, st _ rfl⟩
      rw [B_141_4]
      simp only [B_141_0, B_141_2, B_141_3, B_141_6, B_141_7, B_141_8, cm, q_add, q_mul, nI_clamp (show c < 2 ^ 31 by omega), (a2 c hc6).1, nI_clamp (show 6 * w + c < 2 ^ 31 by omega), r_iconst_p, r_iconst_m, r_bipush_p, r_bipush_m, r_sipush_p, r_sipush_m, r_ldc_p, r_ldc_m, r_ldc_w_p, r_ldc_w_m, r_lconst_p, r_lconst_m, r_ldc2_w_p, r_ldc2_w_m, r_iload, r_iload_n, r_lload, r_lload_n, r_aload, r_aload_n, r_istore, r_istore_n, r_astore, r_astore_n, r_lstore, r_lstore_n, r_iinc_p, r_iinc_m, r_iadd, r_isub, r_imul, r_iand, r_ior, r_ixor, r_ishl, r_ishr, r_iushr, r_idiv, r_irem, r_ladd, r_lsub, r_lmul, r_ldiv, r_lrem, r_lshl, r_lcmp, r_i2l, r_i2b, r_i2s, r_dup_i, r_dup_r, r_dup2_ii, r_dup2_ir, r_dup2_l, r_pop, r_getfield, r_putfield, r_iaload, r_iastore, r_aaload, r_arraylength, r_if_eq, r_icmp_eq, r_if_ne, r_icmp_ne, r_if_lt, r_icmp_lt, r_if_ge, r_icmp_ge, r_if_gt, r_icmp_gt, r_if_le, r_icmp_le, r_goto, r_switch, r_ireturn0, r_ireturn1, r_lreturn, r_areturn, r_return, r_inv0, r_inv1, r_inv2, r_inv3, r_inv4, r_inv5, r_min, r_max, r_acopy, onI_s, onL_s, onR_s, onO_s, fv0, fv1, fv2, fv3, fp1, fp20, fp21, fp3, tl_s, tl_n, lg0, lg1, lg2, lg3, lg4, lg5, lg6, lg7, lg8, lg9, lg10, lg11, lg12, lg13, lg14, lg15, lg16, lg17, ls0, ls1, ls2, ls3, ls4, ls5, ls6, ls7, ls8, ls9, ls10, ls11, ls12, ls13, ls14, ls15, ls16, ls17, lk0, lk1, lk2, lk3, lk4, lk5, lk6, lk7, lk8, lk9, lk10, lk11, lk12, lk13, lk14, lk15, lk16, lk17, kl_n, kl_i, kl_r, kl_l, Nat.reduceAdd, Nat.reduceLeDiff, not_false_eq_true, r_ins0, r_ins1, r_ins2, r_ins3, r_ins4, r_ins5]
      rw [brc_neg (nI_ge (by omega) (by omega)), inb_n (n := 6) rfl (by omega) (by omega), inb_n (n := 144) rfl (by omega) (by omega)]
      refine ⟨hc6, by omega, ?_⟩
      refine inner 6 0 _ (by omega) (a1.st (by decide)) (a2.ne (by decide) (by decide)) (fun j hj => by rw [sm_ne (by decide)]; exact a3 j hj) (fun v hv => by rw [sm_ne (by decide)]; exact a4 v hv) ⟨fun q hq => ?_, fun q hq => by rw [sm_ne (by decide)]; exact a5.2 q hq⟩
      rw [sm_eq, u_if]
      by_cases e : q = 6 * w + c
      · rw [if_pos e, e, show (6 * w + c) / 6 = w by omega, show (6 * w + c) % 6 = c by omega]
      · rw [if_neg e]; exact a5.1 q (by omega)
  -- the orders of the week
  have od : ∀ (n i : Nat) (P : Mem), i + n = no → Fr [73, 76] N P → RG P 73 74 (ord ow oq w i (yr I w)).1 → (∀ j, j < 12 → P 76 j = nI ((ord ow oq w i (yr I w)).2 j)) → WP 141 [] 1 [some (.ref 62), some (.int (nI w)), some (.int (nI i)), none] [] P Q := by
    intro n
    induction n with
    | zero =>
      intro i P hi a1 a2 a3
      obtain rfl : i = no := by omega
      have G : ∀ c, c ∉ LL → P c = M c := fun c hc => by
        rw [a1 c (fun q => hc (by unfold LL; simp only [List.mem_cons, List.not_mem_nil, or_false] at q ⊢; omega))]
        exact p1 c hc
      rw [B_141_1]
      simp only [B_141_0, B_141_2, B_141_3, B_141_6, B_141_7, B_141_8, B_141_9, cm, G 62 (by decide), H3.1, r_iconst_p, r_iconst_m, r_bipush_p, r_bipush_m, r_sipush_p, r_sipush_m, r_ldc_p, r_ldc_m, r_ldc_w_p, r_ldc_w_m, r_lconst_p, r_lconst_m, r_ldc2_w_p, r_ldc2_w_m, r_iload, r_iload_n, r_lload, r_lload_n, r_aload, r_aload_n, r_istore, r_istore_n, r_astore, r_astore_n, r_lstore, r_lstore_n, r_iinc_p, r_iinc_m, r_iadd, r_isub, r_imul, r_iand, r_ior, r_ixor, r_ishl, r_ishr, r_iushr, r_idiv, r_irem, r_ladd, r_lsub, r_lmul, r_ldiv, r_lrem, r_lshl, r_lcmp, r_i2l, r_i2b, r_i2s, r_dup_i, r_dup_r, r_dup2_ii, r_dup2_ir, r_dup2_l, r_pop, r_getfield, r_putfield, r_iaload, r_iastore, r_aaload, r_arraylength, r_if_eq, r_icmp_eq, r_if_ne, r_icmp_ne, r_if_lt, r_icmp_lt, r_if_ge, r_icmp_ge, r_if_gt, r_icmp_gt, r_if_le, r_icmp_le, r_goto, r_switch, r_ireturn0, r_ireturn1, r_lreturn, r_areturn, r_return, r_inv0, r_inv1, r_inv2, r_inv3, r_inv4, r_inv5, r_min, r_max, r_acopy, onI_s, onL_s, onR_s, onO_s, fv0, fv1, fv2, fv3, fp1, fp20, fp21, fp3, tl_s, tl_n, lg0, lg1, lg2, lg3, lg4, lg5, lg6, lg7, lg8, lg9, lg10, lg11, lg12, lg13, lg14, lg15, lg16, lg17, ls0, ls1, ls2, ls3, ls4, ls5, ls6, ls7, ls8, ls9, ls10, ls11, ls12, ls13, ls14, ls15, ls16, ls17, lk0, lk1, lk2, lk3, lk4, lk5, lk6, lk7, lk8, lk9, lk10, lk11, lk12, lk13, lk14, lk15, lk16, lk17, kl_n, kl_i, kl_r, kl_l, Nat.reduceAdd, Nat.reduceLeDiff, not_false_eq_true, r_ins0, r_ins1, r_ins2, r_ins3, r_ins4, r_ins5]
      rw [brc_pos (Int32.le_refl _)]
      refine ⟨trivial, by simp, (s_melting (ne := ne) (gn := gn) (cv := cv) (ek := ek) (ew := ew) (ec := ec) a2 (okt _).1 hw (by unfold EvM; rw [G 62 (by decide), G 72 (by decide)]; exact H7) (by rw [G 62 (by decide)]; exact H8) H8' (by rw [G 62 (by decide)]; exact H9) H9').mono ?_⟩
      rintro r P2 ⟨rfl, F2, R2, h79⟩
      rw [hEC] at R2
      rw [hEW] at h79
      simp only [B_141_0, B_141_2, B_141_3, B_141_6, B_141_7, B_141_8, B_141_9, cm, r_iconst_p, r_iconst_m, r_bipush_p, r_bipush_m, r_sipush_p, r_sipush_m, r_ldc_p, r_ldc_m, r_ldc_w_p, r_ldc_w_m, r_lconst_p, r_lconst_m, r_ldc2_w_p, r_ldc2_w_m, r_iload, r_iload_n, r_lload, r_lload_n, r_aload, r_aload_n, r_istore, r_istore_n, r_astore, r_astore_n, r_lstore, r_lstore_n, r_iinc_p, r_iinc_m, r_iadd, r_isub, r_imul, r_iand, r_ior, r_ixor, r_ishl, r_ishr, r_iushr, r_idiv, r_irem, r_ladd, r_lsub, r_lmul, r_ldiv, r_lrem, r_lshl, r_lcmp, r_i2l, r_i2b, r_i2s, r_dup_i, r_dup_r, r_dup2_ii, r_dup2_ir, r_dup2_l, r_pop, r_getfield, r_putfield, r_iaload, r_iastore, r_aaload, r_arraylength, r_if_eq, r_icmp_eq, r_if_ne, r_icmp_ne, r_if_lt, r_icmp_lt, r_if_ge, r_icmp_ge, r_if_gt, r_icmp_gt, r_if_le, r_icmp_le, r_goto, r_switch, r_ireturn0, r_ireturn1, r_lreturn, r_areturn, r_return, r_inv0, r_inv1, r_inv2, r_inv3, r_inv4, r_inv5, r_min, r_max, r_acopy, onI_s, onL_s, onR_s, onO_s, fv0, fv1, fv2, fv3, fp1, fp20, fp21, fp3, tl_s, tl_n, lg0, lg1, lg2, lg3, lg4, lg5, lg6, lg7, lg8, lg9, lg10, lg11, lg12, lg13, lg14, lg15, lg16, lg17, ls0, ls1, ls2, ls3, ls4, ls5, ls6, ls7, ls8, ls9, ls10, ls11, ls12, ls13, ls14, ls15, ls16, ls17, lk0, lk1, lk2, lk3, lk4, lk5, lk6, lk7, lk8, lk9, lk10, lk11, lk12, lk13, lk14, lk15, lk16, lk17, kl_n, kl_i, kl_r, kl_l, Nat.reduceAdd, Nat.reduceLeDiff, not_false_eq_true, r_ins0, r_ins1, r_ins2, r_ins3, r_ins4, r_ins5]
      refine wr 6 0 P2 none (by omega) ?_ R2 ?_ ?_ ?_
      · intro c hc
        rw [F2 c (fun q => hc (by unfold LL; simp only [List.mem_cons, List.not_mem_nil, or_false] at q ⊢; omega))]
        exact G c hc
      · intro j hj
        rw [F2 76 (by decide), hEH]
        exact a3 j hj
      · intro v hv
        rw [h79, u_if]
        by_cases e : v = w
        · rw [if_pos e, e]
        · rw [if_neg e, a1 79 (by decide)]
          exact p4 v (by omega)
      · unfold Rc at p5 ⊢
        rw [F2 77 (by decide), F2 78 (by decide), a1 77 (by decide), a1 78 (by decide)]
        exact p5
    | succ n ih =>
      intro i P hi a1 a2 a3
      have G : ∀ c, c ∉ LL → P c = M c := fun c hc => by
        rw [a1 c (fun q => hc (by unfold LL; simp only [List.mem_cons, List.not_mem_nil, or_false] at q ⊢; omega))]
        exact p1 c hc
      have hin : i < no := by omega
      have howi := H5 i
      rw [B_141_1]
      simp only [B_141_0, B_141_6, B_141_7, B_141_8, B_141_9, cm, G 62 (by decide), H3.1, q_mul, nI_clamp (show 2 * i < 2 ^ 31 by omega), G 71 (by decide), (H3.2 i hin).1, r_iconst_p, r_iconst_m, r_bipush_p, r_bipush_m, r_sipush_p, r_sipush_m, r_ldc_p, r_ldc_m, r_ldc_w_p, r_ldc_w_m, r_lconst_p, r_lconst_m, r_ldc2_w_p, r_ldc2_w_m, r_iload, r_iload_n, r_lload, r_lload_n, r_aload, r_aload_n, r_istore, r_istore_n, r_astore, r_astore_n, r_lstore, r_lstore_n, r_iinc_p, r_iinc_m, r_iadd, r_isub, r_imul, r_iand, r_ior, r_ixor, r_ishl, r_ishr, r_iushr, r_idiv, r_irem, r_ladd, r_lsub, r_lmul, r_ldiv, r_lrem, r_lshl, r_lcmp, r_i2l, r_i2b, r_i2s, r_dup_i, r_dup_r, r_dup2_ii, r_dup2_ir, r_dup2_l, r_pop, r_getfield, r_putfield, r_iaload, r_iastore, r_aaload, r_arraylength, r_if_eq, r_icmp_eq, r_if_ne, r_icmp_ne, r_if_lt, r_icmp_lt, r_if_ge, r_icmp_ge, r_if_gt, r_icmp_gt, r_if_le, r_icmp_le, r_goto, r_switch, r_ireturn0, r_ireturn1, r_lreturn, r_areturn, r_return, r_inv0, r_inv1, r_inv2, r_inv3, r_inv4, r_inv5, r_min, r_max, r_acopy, onI_s, onL_s, onR_s, onO_s, fv0, fv1, fv2, fv3, fp1, fp20, fp21, fp3, tl_s, tl_n, lg0, lg1, lg2, lg3, lg4, lg5, lg6, lg7, lg8, lg9, lg10, lg11, lg12, lg13, lg14, lg15, lg16, lg17, ls0, ls1, ls2, ls3, ls4, ls5, ls6, ls7, ls8, ls9, ls10, ls11, ls12, ls13, ls14, ls15, ls16, ls17, lk0, lk1, lk2, lk3, lk4, lk5, lk6, lk7, lk8, lk9, lk10, lk11, lk12, lk13, lk14, lk15, lk16, lk17, kl_n, kl_i, kl_r, kl_l, Nat.reduceAdd, Nat.reduceLeDiff, not_false_eq_true, r_ins0, r_ins1, r_ins2, r_ins3, r_ins4, r_ins5]
      rw [brc_neg (nI_ge (by omega) (by omega)), inb_n (n := 24) rfl (by omega) (by omega), q_eq (by omega) (by omega)]
      refine ⟨by omega, brc_i (fun hz => ?_) (fun hz => ?_)⟩
      · have e1 : ord ow oq w (i + 1) (yr I w) = ord ow oq w i (yr I w) := by rw [ord_s, if_neg hz]
        simp only [B_141_0, B_141_2, B_141_3, B_141_6, B_141_7, B_141_8, B_141_9, cm, q_add, r_iconst_p, r_iconst_m, r_bipush_p, r_bipush_m, r_sipush_p, r_sipush_m, r_ldc_p, r_ldc_m, r_ldc_w_p, r_ldc_w_m, r_lconst_p, r_lconst_m, r_ldc2_w_p, r_ldc2_w_m, r_iload, r_iload_n, r_lload, r_lload_n, r_aload, r_aload_n, r_istore, r_istore_n, r_astore, r_astore_n, r_lstore, r_lstore_n, r_iinc_p, r_iinc_m, r_iadd, r_isub, r_imul, r_iand, r_ior, r_ixor, r_ishl, r_ishr, r_iushr, r_idiv, r_irem, r_ladd, r_lsub, r_lmul, r_ldiv, r_lrem, r_lshl, r_lcmp, r_i2l, r_i2b, r_i2s, r_dup_i, r_dup_r, r_dup2_ii, r_dup2_ir, r_dup2_l, r_pop, r_getfield, r_putfield, r_iaload, r_iastore, r_aaload, r_arraylength, r_if_eq, r_icmp_eq, r_if_ne, r_icmp_ne, r_if_lt, r_icmp_lt, r_if_ge, r_icmp_ge, r_if_gt, r_icmp_gt, r_if_le, r_icmp_le, r_goto, r_switch, r_ireturn0, r_ireturn1, r_lreturn, r_areturn, r_return, r_inv0, r_inv1, r_inv2, r_inv3, r_inv4, r_inv5, r_min, r_max, r_acopy, onI_s, onL_s, onR_s, onO_s, fv0, fv1, fv2, fv3, fp1, fp20, fp21, fp3, tl_s, tl_n, lg0, lg1, lg2, lg3, lg4, lg5, lg6, lg7, lg8, lg9, lg10, lg11, lg12, lg13, lg14, lg15, lg16, lg17, ls0, ls1, ls2, ls3, ls4, ls5, ls6, ls7, ls8, ls9, ls10, ls11, ls12, ls13, ls14, ls15, ls16, ls17, lk0, lk1, lk2, lk3, lk4, lk5, lk6, lk7, lk8, lk9, lk10, lk11, lk12, lk13, lk14, lk15, lk16, lk17, kl_n, kl_i, kl_r, kl_l, Nat.reduceAdd, Nat.reduceLeDiff, not_false_eq_true, r_ins0, r_ins1, r_ins2, r_ins3, r_ins4, r_ins5]
        exact ih (i + 1) P (by omega) a1 (by rw [e1]; exact a2) (by rw [e1]; exact a3)
      · have hz : ow i = w := Classical.not_not.mp hz
        have e1 : ord ow oq w (i + 1) (yr I w) = ((srv 36 (ord ow oq w i (yr I w)).1 0 (oq i)).1, fun j => if j = i then (srv 36 (ord ow oq w i (yr I w)).1 0 (oq i)).2 else (ord ow oq w i (yr I w)).2 j) := by rw [ord_s, if_pos hz]
        have h0 : P 76 i = nI 0 := by
          rw [a3 i (by omega), ord_has _ (Or.inr (Nat.le_refl _)), yr_has0 w (by rw [i3, hz]; exact Nat.le_refl _)]
        refine ⟨trivial, by simp, (s_serves a2 (okt i).1 (by omega) (H6 i) (by rw [G 71 (by decide)]; exact (H3.2 i hin).2) h0).mono ?_⟩
        rintro r P2 ⟨rfl, F2, R2, h76⟩
        simp only [B_141_0, B_141_2, B_141_3, B_141_6, B_141_7, B_141_8, B_141_9, cm, q_add, r_iconst_p, r_iconst_m, r_bipush_p, r_bipush_m, r_sipush_p, r_sipush_m, r_ldc_p, r_ldc_m, r_ldc_w_p, r_ldc_w_m, r_lconst_p, r_lconst_m, r_ldc2_w_p, r_ldc2_w_m, r_iload, r_iload_n, r_lload, r_lload_n, r_aload, r_aload_n, r_istore, r_istore_n, r_astore, r_astore_n, r_lstore, r_lstore_n, r_iinc_p, r_iinc_m, r_iadd, r_isub, r_imul, r_iand, r_ior, r_ixor, r_ishl, r_ishr, r_iushr, r_idiv, r_irem, r_ladd, r_lsub, r_lmul, r_ldiv, r_lrem, r_lshl, r_lcmp, r_i2l, r_i2b, r_i2s, r_dup_i, r_dup_r, r_dup2_ii, r_dup2_ir, r_dup2_l, r_pop, r_getfield, r_putfield, r_iaload, r_iastore, r_aaload, r_arraylength, r_if_eq, r_icmp_eq, r_if_ne, r_icmp_ne, r_if_lt, r_icmp_lt, r_if_ge, r_icmp_ge, r_if_gt, r_icmp_gt, r_if_le, r_icmp_le, r_goto, r_switch, r_ireturn0, r_ireturn1, r_lreturn, r_areturn, r_return, r_inv0, r_inv1, r_inv2, r_inv3, r_inv4, r_inv5, r_min, r_max, r_acopy, onI_s, onL_s, onR_s, onO_s, fv0, fv1, fv2, fv3, fp1, fp20, fp21, fp3, tl_s, tl_n, lg0, lg1, lg2, lg3, lg4, lg5, lg6, lg7, lg8, lg9, lg10, lg11, lg12, lg13, lg14, lg15, lg16, lg17, ls0, ls1, ls2, ls3, ls4, ls5, ls6, ls7, ls8, ls9, ls10, ls11, ls12, ls13, ls14, ls15, ls16, ls17, lk0, lk1, lk2, lk3, lk4, lk5, lk6, lk7, lk8, lk9, lk10, lk11, lk12, lk13, lk14, lk15, lk16, lk17, kl_n, kl_i, kl_r, kl_l, Nat.reduceAdd, Nat.reduceLeDiff, not_false_eq_true, r_ins0, r_ins1, r_ins2, r_ins3, r_ins4, r_ins5]
        refine ih (i + 1) P2 (by omega) (a1.tr F2 (fun _ h => h) (fun _ h => h)) (by rw [e1]; exact R2) (fun j hj => ?_)
        rw [e1, h76, u_if]
        dsimp only
        by_cases e : j = i
        · rw [if_pos e, if_pos e]
        · rw [if_neg e, if_neg e]; exact a3 j hj
  simp only [E_141, B_141_0, B_141_2, B_141_3, B_141_6, B_141_7, B_141_8, B_141_9, cm, r_iconst_p, r_iconst_m, r_bipush_p, r_bipush_m, r_sipush_p, r_sipush_m, r_ldc_p, r_ldc_m, r_ldc_w_p, r_ldc_w_m, r_lconst_p, r_lconst_m, r_ldc2_w_p, r_ldc2_w_m, r_iload, r_iload_n, r_lload, r_lload_n, r_aload, r_aload_n, r_istore, r_istore_n, r_astore, r_astore_n, r_lstore, r_lstore_n, r_iinc_p, r_iinc_m, r_iadd, r_isub, r_imul, r_iand, r_ior, r_ixor, r_ishl, r_ishr, r_iushr, r_idiv, r_irem, r_ladd, r_lsub, r_lmul, r_ldiv, r_lrem, r_lshl, r_lcmp, r_i2l, r_i2b, r_i2s, r_dup_i, r_dup_r, r_dup2_ii, r_dup2_ir, r_dup2_l, r_pop, r_getfield, r_putfield, r_iaload, r_iastore, r_aaload, r_arraylength, r_if_eq, r_icmp_eq, r_if_ne, r_icmp_ne, r_if_lt, r_icmp_lt, r_if_ge, r_icmp_ge, r_if_gt, r_icmp_gt, r_if_le, r_icmp_le, r_goto, r_switch, r_ireturn0, r_ireturn1, r_lreturn, r_areturn, r_return, r_inv0, r_inv1, r_inv2, r_inv3, r_inv4, r_inv5, r_min, r_max, r_acopy, onI_s, onL_s, onR_s, onO_s, fv0, fv1, fv2, fv3, fp1, fp20, fp21, fp3, tl_s, tl_n, lg0, lg1, lg2, lg3, lg4, lg5, lg6, lg7, lg8, lg9, lg10, lg11, lg12, lg13, lg14, lg15, lg16, lg17, ls0, ls1, ls2, ls3, ls4, ls5, ls6, ls7, ls8, ls9, ls10, ls11, ls12, ls13, ls14, ls15, ls16, ls17, lk0, lk1, lk2, lk3, lk4, lk5, lk6, lk7, lk8, lk9, lk10, lk11, lk12, lk13, lk14, lk15, lk16, lk17, kl_n, kl_i, kl_r, kl_l, Nat.reduceAdd, Nat.reduceLeDiff, not_false_eq_true, r_ins0, r_ins1, r_ins2, r_ins3, r_ins4, r_ins5]
  exact od no 0 N (by omega) Fr.rf p2 p3
end RS
