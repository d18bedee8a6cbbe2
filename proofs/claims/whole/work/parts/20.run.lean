/-! Summer: run -/
theorem rec_s {f : Nat → Int32} {g : Nat → Nat} {w : Nat} (h : ∀ v, v < w → f v = nI (g v)) : ∀ v, v < w + 1 → upd f w (nI (g w)) v = nI (g v) := by
  intro v hv
  rw [u_if]
  by_cases e : v = w
  · rw [if_pos e, e]
  · rw [if_neg e]; exact h v (by omega)
/-- the run at week w, behind its first i orders -/
def RI (b k : Nat) (I : Inp) (M N : Mem) (w i : Nat) : Prop :=
  Fr [b, b + 2, b + 3, b + 9, b + 10, b + 11, b + 12, b + 13, b + 14] M N ∧ RS N (b + 2) (b + 3) (ord I.2.2.1 I.2.2.2.1 w i (yr I w)).1 ∧
  (∀ v, v < w → N (b + 10) v = nI (icC (yr I (v + 1)).1)) ∧ (∀ v, v < w → N (b + 11) v = nI (wat I v)) ∧ (∀ v, v < w → N (b + 12) v = nI (shp (yr I (v + 1)).1 6)) ∧
  (∀ j, j < I.2.1 → (I.2.2.1 j < w ∨ (I.2.2.1 j = w ∧ j < i)) → N (b + 9) j = nI ((ord I.2.2.1 I.2.2.2.1 w i (yr I w)).2 j)) ∧
  (∃ sb, N b 10 = nI sb ∧ sb < 2 ^ 12 ∧ ∀ j, sb.testBit j = decide (j < I.2.1 ∧ (I.2.2.1 j < w ∨ (I.2.2.1 j = w ∧ j < i)) ∧ (ord I.2.2.1 I.2.2.2.1 w i (yr I w)).2 j < I.2.2.2.1 j)) ∧
  (∀ j, j ≠ 10 → N b j = M b j) ∧
  (k = 1 → ∀ v, v < w → ∀ c, c < 6 → ∀ j, j < 6 → N (b + 14) (v * 36 + (c * 6 + j)) = nI (((yr I (v + 1)).1 c).getD j 0))
/-- what a run leaves -/
def Oc (b k : Nat) (I : Inp) (N : Mem) : Prop :=
  (∀ v, v < 24 → N (b + 10) v = nI (icC (yr I (v + 1)).1)) ∧ (∀ v, v < 24 → N (b + 11) v = nI (wat I v)) ∧ (∀ v, v < 24 → N (b + 12) v = nI (shp (yr I (v + 1)).1 6)) ∧
  (∀ j, j < I.2.1 → N (b + 9) j = nI ((yr I 24).2 j)) ∧ (∃ sb, N b 10 = nI sb ∧ sb < 2 ^ 12 ∧ ∀ j, sb.testBit j = decide (j < I.2.1 ∧ (yr I 24).2 j < I.2.2.2.1 j)) ∧
  (k = 1 → ∀ v, v < 24 → ∀ c, c < 6 → ∀ j, j < 6 → N (b + 14) (v * 36 + (c * 6 + j)) = nI (((yr I (v + 1)).1 c).getD j 0))
theorem yr_s (I : Inp) (w : Nat) : yr I (w + 1) = (mlC (ord I.2.2.1 I.2.2.2.1 w I.2.1 (yr I w)).1 (I.2.2.2.2.2.2 w) (I.2.2.2.2.1 w) (I.2.2.2.2.2.1 w), (ord I.2.2.1 I.2.2.2.1 w I.2.1 (yr I w)).2) := rfl
theorem yr_ice {I : Inp} (w : Nat) : icC (yr I (w + 1)).1 + wat I w = icC (ord I.2.2.1 I.2.2.2.1 w I.2.1 (yr I w)).1 := icC_mlC _ _ _ _
set_option maxHeartbeats 8000000 in
theorem s_run_21 {M : Mem} {C : Col} {no : Nat} {ow oq : Nat → Nat} {x : Wth} (hR : RS M 23 24 C) (hO : ROr M 25 no ow oq) (hW : RWt M 28 x) (hI : okI (InW C no ow oq x)) (hx : okWt x) (hk : M 21 8 = nI 0) :
    Ct 42 [.ref 21] M (fun r N => r = none ∧ Fr [21, 23, 24, 30, 31, 32, 33, 34, 35] M N ∧ Oc 21 0 (InW C no ow oq x) N ∧ ∀ j, j ≠ 10 → N 21 j = M 21 j) := by
  generalize hIe : InW C no ow oq x = I
  have i1 : I.1 = C := by rw [← hIe]; rfl
  have i2 : I.2.1 = no := by rw [← hIe]; rfl
  have i3 : I.2.2.1 = ow := by rw [← hIe]; rfl
  have i4 : I.2.2.2.1 = oq := by rw [← hIe]; rfl
  have i5 : ∀ w, I.2.2.2.2.1 w = x.1.testBit w := by intro w; rw [← hIe]; rfl
  have i6 : ∀ w, I.2.2.2.2.2.1 w = x.2.1.testBit w := by intro w; rw [← hIe]; rfl
  have i7 : ∀ w, I.2.2.2.2.2.2 w = swF x w := by intro w; rw [← hIe]; rfl
  rw [hIe] at hI
  have hI1 : okC6 C := i1 ▸ hI.1
  have hno : no ≤ 12 := i2 ▸ hI.2.1
  have how : ∀ i, ow i ≤ 23 := i3 ▸ hI.2.2.1
  have hoq : ∀ i, oq i ≤ 9 := i4 ▸ hI.2.2.2
  generalize hQ : (fun (r : Option Value) (N : Mem) => r = none ∧ Fr [21, 23, 24, 30, 31, 32, 33, 34, 35] M N ∧ Oc 21 0 I N ∧ ∀ j, j ≠ 10 → N 21 j = M 21 j) = Q
  have okt : ∀ w i, okC6 (ord ow oq w i (yr I w)).1 ∧ ∀ j, (ord ow oq w i (yr I w)).2 j ≤ 18 := fun w i => ord_ok hoq i (yr_ok hI w).1 (yr_ok hI w).2
  -- a week's end: from block 5 on, and the weeks' loop
  have outer : ∀ (n w : Nat) (N : Mem) (v : Option Value), w + n = 24 → RI 21 0 I M N w 0 → WP 42 [] 1 [some (.ref 21), some (.int (nI (icC (yr I w).1))), some (.int (nI w)), v] [] N Q := by
    intro n
    induction n with
    | zero =>
      intro w N v hw hr
      obtain rfl : w = 24 := by omega
      rw [B_42_1]
      simp only [B_42_0, B_42_3, B_42_4, B_42_5, B_42_6, cP, cS, r_iconst_p, r_iconst_m, r_bipush_p, r_bipush_m, r_sipush_p, r_sipush_m, r_ldc_p, r_ldc_m, r_ldc_w_p, r_ldc_w_m, r_lconst_p, r_lconst_m, r_ldc2_w_p, r_ldc2_w_m, r_iload, r_iload_n, r_lload, r_lload_n, r_aload, r_aload_n, r_istore, r_istore_n, r_astore, r_astore_n, r_lstore, r_lstore_n, r_iinc_p, r_iinc_m, r_iadd, r_isub, r_imul, r_iand, r_ior, r_ixor, r_ishl, r_ishr, r_iushr, r_idiv, r_irem, r_ladd, r_lsub, r_lmul, r_ldiv, r_lrem, r_lshl, r_lcmp, r_i2l, r_i2b, r_i2s, r_dup_i, r_dup_r, r_dup2_ii, r_dup2_ir, r_dup2_l, r_pop, r_getfield, r_putfield, r_iaload, r_iastore, r_aaload, r_arraylength, r_if_eq, r_icmp_eq, r_if_ne, r_icmp_ne, r_if_lt, r_icmp_lt, r_if_ge, r_icmp_ge, r_if_gt, r_icmp_gt, r_if_le, r_icmp_le, r_goto, r_switch, r_ireturn0, r_ireturn1, r_lreturn, r_areturn, r_return, r_inv0, r_inv1, r_inv2, r_inv3, r_inv4, r_inv5, r_min, r_max, r_acopy, onI_s, onL_s, onR_s, onO_s, fv0, fv1, fv2, fv3, fp1, fp20, fp21, fp3, tl_s, tl_n, lg0, lg1, lg2, lg3, lg4, lg5, lg6, lg7, lg8, lg9, lg10, lg11, lg12, lg13, lg14, lg15, lg16, lg17, ls0, ls1, ls2, ls3, ls4, ls5, ls6, ls7, ls8, ls9, ls10, ls11, ls12, ls13, ls14, ls15, ls16, ls17, lk0, lk1, lk2, lk3, lk4, lk5, lk6, lk7, lk8, lk9, lk10, lk11, lk12, lk13, lk14, lk15, lk16, lk17, kl_n, kl_i, kl_r, kl_l, Nat.reduceAdd, Nat.reduceLeDiff, not_false_eq_true, r_ins0, r_ins1, r_ins2, r_ins3, r_ins4, r_ins5]
      rw [brc_pos (Int32.le_refl _), ← hQ]
      obtain ⟨r1, r2, r3, r4, r5, r6, ⟨sb, r7, r8, r9⟩, r10, r11⟩ := hr
      refine ⟨rfl, r1, ⟨r3, r4, r5, fun j hj => r6 j hj (Or.inl (by rw [i3]; have := how j; omega)), ⟨sb, r7, r8, fun j => ?_⟩, r11⟩, r10⟩
      rw [r9 j, i3]
      have := how j
      apply decide_eq_decide.mpr
      constructor
      · rintro ⟨a, b, c⟩; exact ⟨a, c⟩
      · rintro ⟨a, c⟩; exact ⟨a, Or.inl (by omega), c⟩
    | succ n ih =>
      intro w N v hw hr
      have hw24 : w < 24 := by omega
      -- the orders of the week
      have inner : ∀ (k i : Nat) (N : Mem), i + k = no → RI 21 0 I M N w i → WP 42 [] 2 [some (.ref 21), some (.int (nI (icC (ord ow oq w i (yr I w)).1))), some (.int (nI w)), some (.int (nI i))] [] N Q := by
        intro k
        induction k with
        | zero =>
          intro i N hi hr
          obtain rfl : i = no := by omega
          obtain ⟨r1, r2, r3, r4, r5, r6, ⟨sb, r7, r8, r9⟩, r10, r11⟩ := hr
          have hok := okt w i
          have hic := icC_le hok.1
          have hye := yr_ice (I := I) w
          have hyo := (yr_ok hI (w + 1)).1
          rw [i2, i3, i4] at hye
          rw [i3, i4] at r2
          have fin : ∀ (N' : Mem), RI 21 0 I M N' (w + 1) 0 → WP 42 [] 5 [some (.ref 21), some (.int (nI (icC (yr I (w + 1)).1))), some (.int (nI w)), some (.int (nI i))] [] N' Q := by
            intro N' hr'
            simp only [B_42_0, B_42_3, B_42_4, B_42_5, B_42_6, cP, cS, r_iconst_p, r_iconst_m, r_bipush_p, r_bipush_m, r_sipush_p, r_sipush_m, r_ldc_p, r_ldc_m, r_ldc_w_p, r_ldc_w_m, r_lconst_p, r_lconst_m, r_ldc2_w_p, r_ldc2_w_m, r_iload, r_iload_n, r_lload, r_lload_n, r_aload, r_aload_n, r_istore, r_istore_n, r_astore, r_astore_n, r_lstore, r_lstore_n, r_iinc_p, r_iinc_m, r_iadd, r_isub, r_imul, r_iand, r_ior, r_ixor, r_ishl, r_ishr, r_iushr, r_idiv, r_irem, r_ladd, r_lsub, r_lmul, r_ldiv, r_lrem, r_lshl, r_lcmp, r_i2l, r_i2b, r_i2s, r_dup_i, r_dup_r, r_dup2_ii, r_dup2_ir, r_dup2_l, r_pop, r_getfield, r_putfield, r_iaload, r_iastore, r_aaload, r_arraylength, r_if_eq, r_icmp_eq, r_if_ne, r_icmp_ne, r_if_lt, r_icmp_lt, r_if_ge, r_icmp_ge, r_if_gt, r_icmp_gt, r_if_le, r_icmp_le, r_goto, r_switch, r_ireturn0, r_ireturn1, r_lreturn, r_areturn, r_return, r_inv0, r_inv1, r_inv2, r_inv3, r_inv4, r_inv5, r_min, r_max, r_acopy, onI_s, onL_s, onR_s, onO_s, fv0, fv1, fv2, fv3, fp1, fp20, fp21, fp3, tl_s, tl_n, lg0, lg1, lg2, lg3, lg4, lg5, lg6, lg7, lg8, lg9, lg10, lg11, lg12, lg13, lg14, lg15, lg16, lg17, ls0, ls1, ls2, ls3, ls4, ls5, ls6, ls7, ls8, ls9, ls10, ls11, ls12, ls13, ls14, ls15, ls16, ls17, lk0, lk1, lk2, lk3, lk4, lk5, lk6, lk7, lk8, lk9, lk10, lk11, lk12, lk13, lk14, lk15, lk16, lk17, kl_n, kl_i, kl_r, kl_l, Nat.reduceAdd, Nat.reduceLeDiff, not_false_eq_true, r_ins0, r_ins1, r_ins2, r_ins3, r_ins4, r_ins5]
            rw [q_add]
            exact ih (w + 1) N' _ (by omega) hr'
          rw [B_42_2]
          simp only [B_42_0, B_42_3, B_42_4, B_42_6, cP, cS, r_iconst_p, r_iconst_m, r_bipush_p, r_bipush_m, r_sipush_p, r_sipush_m, r_ldc_p, r_ldc_m, r_ldc_w_p, r_ldc_w_m, r_lconst_p, r_lconst_m, r_ldc2_w_p, r_ldc2_w_m, r_iload, r_iload_n, r_lload, r_lload_n, r_aload, r_aload_n, r_istore, r_istore_n, r_astore, r_astore_n, r_lstore, r_lstore_n, r_iinc_p, r_iinc_m, r_iadd, r_isub, r_imul, r_iand, r_ior, r_ixor, r_ishl, r_ishr, r_iushr, r_idiv, r_irem, r_ladd, r_lsub, r_lmul, r_ldiv, r_lrem, r_lshl, r_lcmp, r_i2l, r_i2b, r_i2s, r_dup_i, r_dup_r, r_dup2_ii, r_dup2_ir, r_dup2_l, r_pop, r_getfield, r_putfield, r_iaload, r_iastore, r_aaload, r_arraylength, r_if_eq, r_icmp_eq, r_if_ne, r_icmp_ne, r_if_lt, r_icmp_lt, r_if_ge, r_icmp_ge, r_if_gt, r_icmp_gt, r_if_le, r_icmp_le, r_goto, r_switch, r_ireturn0, r_ireturn1, r_lreturn, r_areturn, r_return, r_inv0, r_inv1, r_inv2, r_inv3, r_inv4, r_inv5, r_min, r_max, r_acopy, onI_s, onL_s, onR_s, onO_s, fv0, fv1, fv2, fv3, fp1, fp20, fp21, fp3, tl_s, tl_n, lg0, lg1, lg2, lg3, lg4, lg5, lg6, lg7, lg8, lg9, lg10, lg11, lg12, lg13, lg14, lg15, lg16, lg17, ls0, ls1, ls2, ls3, ls4, ls5, ls6, ls7, ls8, ls9, ls10, ls11, ls12, ls13, ls14, ls15, ls16, ls17, lk0, lk1, lk2, lk3, lk4, lk5, lk6, lk7, lk8, lk9, lk10, lk11, lk12, lk13, lk14, lk15, lk16, lk17, kl_n, kl_i, kl_r, kl_l, Nat.reduceAdd, Nat.reduceLeDiff, not_false_eq_true, r_ins0, r_ins1, r_ins2, r_ins3, r_ins4, r_ins5]
          rw [show N 25 2 = nI i by rw [r1 25 (by decide)]; exact hO.1, brc_pos (Int32.le_refl _)]
          refine ⟨trivial, by simp, ?_⟩
          have hWN : RWt N 28 x := ⟨by rw [r1 28 (by decide)]; exact hW.1, by rw [r1 28 (by decide)]; exact hW.2.1, fun c hc => by rw [r1 29 (by decide)]; exact hW.2.2 c hc⟩
          refine (s_melt_21 r2 hok.1 hw24 hWN hx).mono ?_
          rintro r N1 ⟨rfl, hF1, hR1⟩
          have eW : mlW (ord ow oq w i (yr I w)).1 (swF x w) (x.1.testBit w) (x.2.1.testBit w) = wat I w := by
            unfold wat
            rw [i2, i3, i4, i5, i6, i7]
          have eC : mlC (ord ow oq w i (yr I w)).1 (swF x w) (x.1.testBit w) (x.2.1.testBit w) = (yr I (w + 1)).1 := by
            rw [yr_s, i2, i3, i4, i5, i6, i7]
          rw [eC] at hR1
          rw [eW]
          have hR2 : RS (stM (stM N1 32 w (nI (wat I w))) 31 w (nI (icC (yr I (w + 1)).1))) 23 24 (yr I (w + 1)).1 := fun c hc => by
            rw [sm_ne (by decide), sm_ne (by decide), sm_ne (by decide), sm_ne (by decide)]
            exact hR1 c hc
          have e12 : nI (icC (ord ow oq w i (yr I w)).1) - nI (wat I w) = nI (icC (yr I (w + 1)).1) := by rw [q_sub (by omega)]; congr 1; omega
          simp only [B_42_0, B_42_3, B_42_4, B_42_6, cP, cS, nI_clamp (show w < 2 ^ 31 by omega), sm_eq, u_eq, e12, (s_shape_22 hR2 hyo).ct, r_iconst_p, r_iconst_m, r_bipush_p, r_bipush_m, r_sipush_p, r_sipush_m, r_ldc_p, r_ldc_m, r_ldc_w_p, r_ldc_w_m, r_lconst_p, r_lconst_m, r_ldc2_w_p, r_ldc2_w_m, r_iload, r_iload_n, r_lload, r_lload_n, r_aload, r_aload_n, r_istore, r_istore_n, r_astore, r_astore_n, r_lstore, r_lstore_n, r_iinc_p, r_iinc_m, r_iadd, r_isub, r_imul, r_iand, r_ior, r_ixor, r_ishl, r_ishr, r_iushr, r_idiv, r_irem, r_ladd, r_lsub, r_lmul, r_ldiv, r_lrem, r_lshl, r_lcmp, r_i2l, r_i2b, r_i2s, r_dup_i, r_dup_r, r_dup2_ii, r_dup2_ir, r_dup2_l, r_pop, r_getfield, r_putfield, r_iaload, r_iastore, r_aaload, r_arraylength, r_if_eq, r_icmp_eq, r_if_ne, r_icmp_ne, r_if_lt, r_icmp_lt, r_if_ge, r_icmp_ge, r_if_gt, r_icmp_gt, r_if_le, r_icmp_le, r_goto, r_switch, r_ireturn0, r_ireturn1, r_lreturn, r_areturn, r_return, r_inv0, r_inv1, r_inv2, r_inv3, r_inv4, r_inv5, r_min, r_max, r_acopy, onI_s, onL_s, onR_s, onO_s, fv0, fv1, fv2, fv3, fp1, fp20, fp21, fp3, tl_s, tl_n, lg0, lg1, lg2, lg3, lg4, lg5, lg6, lg7, lg8, lg9, lg10, lg11, lg12, lg13, lg14, lg15, lg16, lg17, ls0, ls1, ls2, ls3, ls4, ls5, ls6, ls7, ls8, ls9, ls10, ls11, ls12, ls13, ls14, ls15, ls16, ls17, lk0, lk1, lk2, lk3, lk4, lk5, lk6, lk7, lk8, lk9, lk10, lk11, lk12, lk13, lk14, lk15, lk16, lk17, kl_n, kl_i, kl_r, kl_l, Nat.reduceAdd, Nat.reduceLeDiff, not_false_eq_true, r_ins0, r_ins1, r_ins2, r_ins3, r_ins4, r_ins5]
          rw [inb_n (n := 24) rfl (by omega) (by omega), inb_n (n := 24) rfl (by omega) (by omega), inb_n (n := 24) rfl (by omega) (by omega)]
          have hN10 : ∀ j, N1 21 j = N 21 j := fun j => by rw [hF1 21 (by decide)]
          rw [sm_ne (show ¬ 21 = 33 by decide), sm_ne (show ¬ 21 = 31 by decide), sm_ne (show ¬ 21 = 32 by decide), hN10, r10 8 (by decide), hk]
          refine ⟨hw24, hw24, hw24, trivial, by simp, hw24, ?_⟩
          have hpost : ∀ N3 : Mem, (∀ c, c ≠ 35 → N3 c = stM (stM (stM N1 32 w (nI (wat I w))) 31 w (nI (icC (yr I (w + 1)).1))) 33 w (nI (shp (yr I (w + 1)).1 6)) c) → (0 = 1 → ∀ v, v < w + 1 → ∀ c, c < 6 → ∀ j, j < 6 → N3 35 (v * 36 + (c * 6 + j)) = nI (((yr I (v + 1)).1 c).getD j 0)) → RI 21 0 I M N3 (w + 1) 0 := by
            intro N3 h3 h14
            have g : ∀ c, c ≠ 35 → c ≠ 31 → c ≠ 32 → c ≠ 33 → N3 c = N1 c := fun c a1 a2 a3 a4 => by rw [h3 c a1, sm_ne a4, sm_ne a2, sm_ne a3]
            have hes : (yr I (w + 1)).2 = (ord ow oq w i (yr I w)).2 := by rw [yr_s, i2, i3, i4]
            refine ⟨fun c hc => ?_, fun c hc => ?_, ?_, ?_, ?_, fun j hj hj2 => ?_, ⟨sb, ?_, r8, fun j => ?_⟩, fun j hj => ?_, h14⟩
            · have n14 : c ≠ 35 := fun q => hc (by rw [q]; decide)
              have n10 : c ≠ 31 := fun q => hc (by rw [q]; decide)
              have n11 : c ≠ 32 := fun q => hc (by rw [q]; decide)
              have n12 : c ≠ 33 := fun q => hc (by rw [q]; decide)
              rw [g c n14 n10 n11 n12, hF1 c (fun q => hc (by simp only [List.mem_cons, List.not_mem_nil, or_false] at q ⊢; omega))]
              exact r1 c hc
            · rw [g 24 (by decide) (by decide) (by decide) (by decide), g 23 (by decide) (by decide) (by decide) (by decide)]
              exact hR1 c hc
            · rw [h3 31 (by decide), sm_ne (by decide), sm_eq, sm_ne (by decide), hF1 31 (by decide)]
              exact rec_s (g := fun v => icC (yr I (v + 1)).1) r3
            · rw [h3 32 (by decide), sm_ne (by decide), sm_ne (by decide), sm_eq, hF1 32 (by decide)]
              exact rec_s (g := fun v => wat I v) r4
            · rw [h3 33 (by decide), sm_eq, sm_ne (by decide), sm_ne (by decide), hF1 33 (by decide)]
              exact rec_s (g := fun v => shp (yr I (v + 1)).1 6) r5
            · rw [g 30 (by decide) (by decide) (by decide) (by decide), hF1 30 (by decide)]
              rw [i2] at hj
              rw [i3] at hj2
              have h9 := r6 j (by rw [i2]; exact hj) (by rw [i3]; omega)
              rw [i3, i4] at h9
              rw [h9]
              show _ = nI ((yr I (w + 1)).2 j)
              rw [hes]
            · rw [g 21 (by decide) (by decide) (by decide) (by decide), hN10]
              exact r7
            · rw [r9 j, i2, i3, i4]
              show _ = decide (j < i ∧ (ow j < w + 1 ∨ (ow j = w + 1 ∧ j < 0)) ∧ (yr I (w + 1)).2 j < oq j)
              rw [hes]
              apply decide_eq_decide.mpr
              constructor
              · rintro ⟨a1, a2, a3⟩; exact ⟨a1, by omega, a3⟩
              · rintro ⟨a1, a2, a3⟩; exact ⟨a1, by omega, a3⟩
            · rw [g 21 (by decide) (by decide) (by decide) (by decide), hN10]
              exact r10 j hj
          have hist : ∀ N3 : Mem, N3 35 = N 35 → ∀ v, v < w → 0 = 1 → ∀ c, c < 6 → ∀ j, j < 6 → N3 35 (v * 36 + (c * 6 + j)) = nI (((yr I (v + 1)).1 c).getD j 0) := fun N3 e v hv hk1 c hc j hj => by
            rw [e]
            exact r11 hk1 v hv c hc j hj
          have e14 : stM (stM (stM N1 32 w (nI (wat I w))) 31 w (nI (icC (yr I (w + 1)).1))) 33 w (nI (shp (yr I (w + 1)).1 6)) 35 = N 35 := by
            rw [sm_ne (by decide), sm_ne (by decide), sm_ne (by decide), hF1 35 (by decide)]
          rw [brc_pos rfl]
          exact fin _ (hpost _ (fun _ _ => rfl) (fun h => absurd h (by decide)))
        | succ k ihk =>
          intro i N hi hr
          obtain ⟨r1, r2, r3, r4, r5, r6, ⟨sb, r7, r8, r9⟩, r10, r11⟩ := id hr
          have hok := okt w i
          have hin : i < no := by omega
          have nx : ∀ (N' : Mem), RI 21 0 I M N' w (i + 1) → WP 42 [] 3 [some (.ref 21), some (.int (nI (icC (ord ow oq w (i + 1) (yr I w)).1))), some (.int (nI w)), some (.int (nI i))] [] N' Q := by
            intro N' hr'
            simp only [B_42_0, B_42_3, B_42_4, B_42_5, B_42_6, cP, cS, r_iconst_p, r_iconst_m, r_bipush_p, r_bipush_m, r_sipush_p, r_sipush_m, r_ldc_p, r_ldc_m, r_ldc_w_p, r_ldc_w_m, r_lconst_p, r_lconst_m, r_ldc2_w_p, r_ldc2_w_m, r_iload, r_iload_n, r_lload, r_lload_n, r_aload, r_aload_n, r_istore, r_istore_n, r_astore, r_astore_n, r_lstore, r_lstore_n, r_iinc_p, r_iinc_m, r_iadd, r_isub, r_imul, r_iand, r_ior, r_ixor, r_ishl, r_ishr, r_iushr, r_idiv, r_irem, r_ladd, r_lsub, r_lmul, r_ldiv, r_lrem, r_lshl, r_lcmp, r_i2l, r_i2b, r_i2s, r_dup_i, r_dup_r, r_dup2_ii, r_dup2_ir, r_dup2_l, r_pop, r_getfield, r_putfield, r_iaload, r_iastore, r_aaload, r_arraylength, r_if_eq, r_icmp_eq, r_if_ne, r_icmp_ne, r_if_lt, r_icmp_lt, r_if_ge, r_icmp_ge, r_if_gt, r_icmp_gt, r_if_le, r_icmp_le, r_goto, r_switch, r_ireturn0, r_ireturn1, r_lreturn, r_areturn, r_return, r_inv0, r_inv1, r_inv2, r_inv3, r_inv4, r_inv5, r_min, r_max, r_acopy, onI_s, onL_s, onR_s, onO_s, fv0, fv1, fv2, fv3, fp1, fp20, fp21, fp3, tl_s, tl_n, lg0, lg1, lg2, lg3, lg4, lg5, lg6, lg7, lg8, lg9, lg10, lg11, lg12, lg13, lg14, lg15, lg16, lg17, ls0, ls1, ls2, ls3, ls4, ls5, ls6, ls7, ls8, ls9, ls10, ls11, ls12, ls13, ls14, ls15, ls16, ls17, lk0, lk1, lk2, lk3, lk4, lk5, lk6, lk7, lk8, lk9, lk10, lk11, lk12, lk13, lk14, lk15, lk16, lk17, kl_n, kl_i, kl_r, kl_l, Nat.reduceAdd, Nat.reduceLeDiff, not_false_eq_true, r_ins0, r_ins1, r_ins2, r_ins3, r_ins4, r_ins5]
            rw [q_add]
            exact ihk (i + 1) N' (by omega) hr'
          rw [i3, i4] at r2
          have hq := (hO.2 i hin).2
          have hwq := (hO.2 i hin).1
          have hw1 := how i
          rw [B_42_2]
          simp only [B_42_0, B_42_4, B_42_5, B_42_6, cP, cS, r_iconst_p, r_iconst_m, r_bipush_p, r_bipush_m, r_sipush_p, r_sipush_m, r_ldc_p, r_ldc_m, r_ldc_w_p, r_ldc_w_m, r_lconst_p, r_lconst_m, r_ldc2_w_p, r_ldc2_w_m, r_iload, r_iload_n, r_lload, r_lload_n, r_aload, r_aload_n, r_istore, r_istore_n, r_astore, r_astore_n, r_lstore, r_lstore_n, r_iinc_p, r_iinc_m, r_iadd, r_isub, r_imul, r_iand, r_ior, r_ixor, r_ishl, r_ishr, r_iushr, r_idiv, r_irem, r_ladd, r_lsub, r_lmul, r_ldiv, r_lrem, r_lshl, r_lcmp, r_i2l, r_i2b, r_i2s, r_dup_i, r_dup_r, r_dup2_ii, r_dup2_ir, r_dup2_l, r_pop, r_getfield, r_putfield, r_iaload, r_iastore, r_aaload, r_arraylength, r_if_eq, r_icmp_eq, r_if_ne, r_icmp_ne, r_if_lt, r_icmp_lt, r_if_ge, r_icmp_ge, r_if_gt, r_icmp_gt, r_if_le, r_icmp_le, r_goto, r_switch, r_ireturn0, r_ireturn1, r_lreturn, r_areturn, r_return, r_inv0, r_inv1, r_inv2, r_inv3, r_inv4, r_inv5, r_min, r_max, r_acopy, onI_s, onL_s, onR_s, onO_s, fv0, fv1, fv2, fv3, fp1, fp20, fp21, fp3, tl_s, tl_n, lg0, lg1, lg2, lg3, lg4, lg5, lg6, lg7, lg8, lg9, lg10, lg11, lg12, lg13, lg14, lg15, lg16, lg17, ls0, ls1, ls2, ls3, ls4, ls5, ls6, ls7, ls8, ls9, ls10, ls11, ls12, ls13, ls14, ls15, ls16, ls17, lk0, lk1, lk2, lk3, lk4, lk5, lk6, lk7, lk8, lk9, lk10, lk11, lk12, lk13, lk14, lk15, lk16, lk17, kl_n, kl_i, kl_r, kl_l, Nat.reduceAdd, Nat.reduceLeDiff, not_false_eq_true, r_ins0, r_ins1, r_ins2, r_ins3, r_ins4, r_ins5]
          rw [show N 25 2 = nI no by rw [r1 25 (by decide)]; exact hO.1, brc_neg (nI_ge (by omega) (by omega)), inb_n (n := 12) rfl (by omega) (by omega), nI_clamp (by omega), r1 26 (by decide), hwq, q_eq (by omega) (by omega)]
          refine ⟨by omega, brc_i (fun hz => ?_) (fun hz => ?_)⟩
          · have e1 : ord ow oq w (i + 1) (yr I w) = ord ow oq w i (yr I w) := by rw [ord_s, if_neg hz]
            have h := nx N ⟨r1, by rw [i3, i4, e1]; exact r2, r3, r4, r5, fun j hj hj2 => ?_, ⟨sb, r7, r8, fun j => ?_⟩, r10, r11⟩
            · rw [e1] at h; exact h
            · have h9 := r6 j hj (by rw [i3] at hj2 ⊢; rcases hj2 with q | q
                                     · exact Or.inl q
                                     · exact Or.inr ⟨q.1, by rcases Nat.lt_or_ge j i with q2 | q2
                                                             · exact q2
                                                             · exact absurd (by rw [show i = j by omega]; exact q.1) hz⟩)
              rw [i3, i4] at h9 ⊢
              rw [e1]
              exact h9
            · rw [r9 j, i3, i4, e1]
              apply decide_eq_decide.mpr
              constructor
              · rintro ⟨a1, a2, a3⟩; exact ⟨a1, by omega, a3⟩
              · rintro ⟨a1, a2, a3⟩
                refine ⟨a1, ?_, a3⟩
                rcases a2 with q | q
                · exact Or.inl q
                · rcases Nat.lt_or_ge j i with q2 | q2
                  · exact Or.inr ⟨q.1, q2⟩
                  · exact absurd (by rw [show i = j by omega]; exact q.1) hz
          · have hz : ow i = w := Classical.not_not.mp hz
            have e1 : ord ow oq w (i + 1) (yr I w) = ((srv 36 (ord ow oq w i (yr I w)).1 0 (oq i)).1, fun j => if j = i then (srv 36 (ord ow oq w i (yr I w)).1 0 (oq i)).2 else (ord ow oq w i (yr I w)).2 j) := by rw [ord_s, if_pos hz]
            refine ⟨trivial, by simp, ?_⟩
            refine (s_serve_21 r2 hok.1 (by omega) (hoq i) (by rw [r1 27 (by decide)]; exact hq) r7).mono ?_
            rintro r N1 ⟨rfl, hF1, hR1, h9, h10⟩
            have h18 := (srv_ok 36 (h := 0) hok.1 (by omega) (hoq i)).2
            have hsum := icC_srv 36 (C := (ord ow oq w i (yr I w)).1) (h := 0) (w := oq i) hok.1
            have hic := icC_le hok.1
            simp only [B_42_0, B_42_4, B_42_5, B_42_6, cP, cS, r_iconst_p, r_iconst_m, r_bipush_p, r_bipush_m, r_sipush_p, r_sipush_m, r_ldc_p, r_ldc_m, r_ldc_w_p, r_ldc_w_m, r_lconst_p, r_lconst_m, r_ldc2_w_p, r_ldc2_w_m, r_iload, r_iload_n, r_lload, r_lload_n, r_aload, r_aload_n, r_istore, r_istore_n, r_astore, r_astore_n, r_lstore, r_lstore_n, r_iinc_p, r_iinc_m, r_iadd, r_isub, r_imul, r_iand, r_ior, r_ixor, r_ishl, r_ishr, r_iushr, r_idiv, r_irem, r_ladd, r_lsub, r_lmul, r_ldiv, r_lrem, r_lshl, r_lcmp, r_i2l, r_i2b, r_i2s, r_dup_i, r_dup_r, r_dup2_ii, r_dup2_ir, r_dup2_l, r_pop, r_getfield, r_putfield, r_iaload, r_iastore, r_aaload, r_arraylength, r_if_eq, r_icmp_eq, r_if_ne, r_icmp_ne, r_if_lt, r_icmp_lt, r_if_ge, r_icmp_ge, r_if_gt, r_icmp_gt, r_if_le, r_icmp_le, r_goto, r_switch, r_ireturn0, r_ireturn1, r_lreturn, r_areturn, r_return, r_inv0, r_inv1, r_inv2, r_inv3, r_inv4, r_inv5, r_min, r_max, r_acopy, onI_s, onL_s, onR_s, onO_s, fv0, fv1, fv2, fv3, fp1, fp20, fp21, fp3, tl_s, tl_n, lg0, lg1, lg2, lg3, lg4, lg5, lg6, lg7, lg8, lg9, lg10, lg11, lg12, lg13, lg14, lg15, lg16, lg17, ls0, ls1, ls2, ls3, ls4, ls5, ls6, ls7, ls8, ls9, ls10, ls11, ls12, ls13, ls14, ls15, ls16, ls17, lk0, lk1, lk2, lk3, lk4, lk5, lk6, lk7, lk8, lk9, lk10, lk11, lk12, lk13, lk14, lk15, lk16, lk17, kl_n, kl_i, kl_r, kl_l, Nat.reduceAdd, Nat.reduceLeDiff, not_false_eq_true, r_ins0, r_ins1, r_ins2, r_ins3, r_ins4, r_ins5]
            rw [inb_n (n := 12) rfl (by omega) (by omega), h9, u_eq, q_sub (by omega)]
            refine ⟨by omega, ?_⟩
            have h := nx N1 ⟨?_, by rw [i3, i4, e1]; exact hR1, ?_, ?_, ?_, fun j hj hj2 => ?_, ⟨_, by rw [h10, u_eq], ?_, fun j => ?_⟩, fun j hj => by rw [h10, u_ne hj]; exact r10 j hj, ?_⟩
            · rw [e1, show icC (srv 36 (ord ow oq w i (yr I w)).1 0 (oq i)).1 = icC (ord ow oq w i (yr I w)).1 - (srv 36 (ord ow oq w i (yr I w)).1 0 (oq i)).2 by omega] at h
              exact h
            · exact r1.tr hF1 (fun _ h => h) (by decide)
            · rw [hF1 31 (by decide)]; exact r3
            · rw [hF1 32 (by decide)]; exact r4
            · rw [hF1 33 (by decide)]; exact r5
            · rw [h9, u_if, i3, i4, e1]
              dsimp only
              by_cases e : j = i
              · rw [if_pos e, if_pos e]
              · rw [if_neg e, if_neg e]
                have h8 := r6 j hj (by rw [i3] at hj2 ⊢; omega)
                rw [i3, i4] at h8
                exact h8
            · split
              · exact Nat.or_lt_two_pow r8 (bit_lt (by omega))
              · exact r8
            · have hb : (if (srv 36 (ord ow oq w i (yr I w)).1 0 (oq i)).2 < oq i then sb ||| 1 <<< i else sb).testBit j = (sb.testBit j || decide (j = i ∧ (srv 36 (ord ow oq w i (yr I w)).1 0 (oq i)).2 < oq i)) := by
                split
                · rename_i hs
                  rw [Nat.testBit_or, Nat.one_shiftLeft, Nat.testBit_two_pow]
                  simp only [hs, and_true]
                  rw [show decide (i = j) = decide (j = i) from decide_eq_decide.mpr ⟨Eq.symm, Eq.symm⟩]
                · rename_i hs
                  simp [hs]
              rw [hb, r9 j, i2, i3, i4, e1, ← Bool.decide_or]
              dsimp only
              apply decide_eq_decide.mpr
              by_cases e : j = i
              · subst e
                rw [if_pos rfl]
                constructor
                · rintro (⟨a1, a2, a3⟩ | ⟨-, a3⟩)
                  · omega
                  · exact ⟨hin, Or.inr ⟨hz, by omega⟩, a3⟩
                · rintro ⟨a1, a2, a3⟩; exact Or.inr ⟨rfl, a3⟩
              · rw [if_neg e]
                constructor
                · rintro (⟨a1, a2, a3⟩ | ⟨a0, a3⟩)
                  · exact ⟨a1, by omega, a3⟩
                  · exact absurd a0 e
                · rintro ⟨a1, a2, a3⟩; exact Or.inl ⟨a1, by omega, a3⟩
            · intro hk1
              rw [hF1 35 (by decide)]
              exact r11 hk1
      rw [B_42_1]
      simp only [B_42_0, B_42_3, B_42_4, B_42_5, B_42_6, cP, cS, r_iconst_p, r_iconst_m, r_bipush_p, r_bipush_m, r_sipush_p, r_sipush_m, r_ldc_p, r_ldc_m, r_ldc_w_p, r_ldc_w_m, r_lconst_p, r_lconst_m, r_ldc2_w_p, r_ldc2_w_m, r_iload, r_iload_n, r_lload, r_lload_n, r_aload, r_aload_n, r_istore, r_istore_n, r_astore, r_astore_n, r_lstore, r_lstore_n, r_iinc_p, r_iinc_m, r_iadd, r_isub, r_imul, r_iand, r_ior, r_ixor, r_ishl, r_ishr, r_iushr, r_idiv, r_irem, r_ladd, r_lsub, r_lmul, r_ldiv, r_lrem, r_lshl, r_lcmp, r_i2l, r_i2b, r_i2s, r_dup_i, r_dup_r, r_dup2_ii, r_dup2_ir, r_dup2_l, r_pop, r_getfield, r_putfield, r_iaload, r_iastore, r_aaload, r_arraylength, r_if_eq, r_icmp_eq, r_if_ne, r_icmp_ne, r_if_lt, r_icmp_lt, r_if_ge, r_icmp_ge, r_if_gt, r_icmp_gt, r_if_le, r_icmp_le, r_goto, r_switch, r_ireturn0, r_ireturn1, r_lreturn, r_areturn, r_return, r_inv0, r_inv1, r_inv2, r_inv3, r_inv4, r_inv5, r_min, r_max, r_acopy, onI_s, onL_s, onR_s, onO_s, fv0, fv1, fv2, fv3, fp1, fp20, fp21, fp3, tl_s, tl_n, lg0, lg1, lg2, lg3, lg4, lg5, lg6, lg7, lg8, lg9, lg10, lg11, lg12, lg13, lg14, lg15, lg16, lg17, ls0, ls1, ls2, ls3, ls4, ls5, ls6, ls7, ls8, ls9, ls10, ls11, ls12, ls13, ls14, ls15, ls16, ls17, lk0, lk1, lk2, lk3, lk4, lk5, lk6, lk7, lk8, lk9, lk10, lk11, lk12, lk13, lk14, lk15, lk16, lk17, kl_n, kl_i, kl_r, kl_l, Nat.reduceAdd, Nat.reduceLeDiff, not_false_eq_true, r_ins0, r_ins1, r_ins2, r_ins3, r_ins4, r_ins5]
      rw [brc_neg (nI_ge (by omega) (by omega))]
      exact inner no 0 N (by omega) hr
  simp only [E_42, B_42_0, B_42_3, B_42_4, B_42_5, B_42_6, cP, cS, r_iconst_p, r_iconst_m, r_bipush_p, r_bipush_m, r_sipush_p, r_sipush_m, r_ldc_p, r_ldc_m, r_ldc_w_p, r_ldc_w_m, r_lconst_p, r_lconst_m, r_ldc2_w_p, r_ldc2_w_m, r_iload, r_iload_n, r_lload, r_lload_n, r_aload, r_aload_n, r_istore, r_istore_n, r_astore, r_astore_n, r_lstore, r_lstore_n, r_iinc_p, r_iinc_m, r_iadd, r_isub, r_imul, r_iand, r_ior, r_ixor, r_ishl, r_ishr, r_iushr, r_idiv, r_irem, r_ladd, r_lsub, r_lmul, r_ldiv, r_lrem, r_lshl, r_lcmp, r_i2l, r_i2b, r_i2s, r_dup_i, r_dup_r, r_dup2_ii, r_dup2_ir, r_dup2_l, r_pop, r_getfield, r_putfield, r_iaload, r_iastore, r_aaload, r_arraylength, r_if_eq, r_icmp_eq, r_if_ne, r_icmp_ne, r_if_lt, r_icmp_lt, r_if_ge, r_icmp_ge, r_if_gt, r_icmp_gt, r_if_le, r_icmp_le, r_goto, r_switch, r_ireturn0, r_ireturn1, r_lreturn, r_areturn, r_return, r_inv0, r_inv1, r_inv2, r_inv3, r_inv4, r_inv5, r_min, r_max, r_acopy, onI_s, onL_s, onR_s, onO_s, fv0, fv1, fv2, fv3, fp1, fp20, fp21, fp3, tl_s, tl_n, lg0, lg1, lg2, lg3, lg4, lg5, lg6, lg7, lg8, lg9, lg10, lg11, lg12, lg13, lg14, lg15, lg16, lg17, ls0, ls1, ls2, ls3, ls4, ls5, ls6, ls7, ls8, ls9, ls10, ls11, ls12, ls13, ls14, ls15, ls16, ls17, lk0, lk1, lk2, lk3, lk4, lk5, lk6, lk7, lk8, lk9, lk10, lk11, lk12, lk13, lk14, lk15, lk16, lk17, kl_n, kl_i, kl_r, kl_l, Nat.reduceAdd, Nat.reduceLeDiff, not_false_eq_true, r_ins0, r_ins1, r_ins2, r_ins3, r_ins4, r_ins5]
  have hR0 : RS (stM M 21 10 (nI 0)) 23 24 C := fun c hc => by
    rw [sm_ne (by decide), sm_ne (by decide)]
    exact hR c hc
  refine ⟨trivial, by simp, ?_⟩
  rw [(s_total_22 _).ct, RS_sum hR0 hI1]
  simp only [B_42_0, B_42_3, B_42_4, B_42_5, B_42_6, cP, cS, r_iconst_p, r_iconst_m, r_bipush_p, r_bipush_m, r_sipush_p, r_sipush_m, r_ldc_p, r_ldc_m, r_ldc_w_p, r_ldc_w_m, r_lconst_p, r_lconst_m, r_ldc2_w_p, r_ldc2_w_m, r_iload, r_iload_n, r_lload, r_lload_n, r_aload, r_aload_n, r_istore, r_istore_n, r_astore, r_astore_n, r_lstore, r_lstore_n, r_iinc_p, r_iinc_m, r_iadd, r_isub, r_imul, r_iand, r_ior, r_ixor, r_ishl, r_ishr, r_iushr, r_idiv, r_irem, r_ladd, r_lsub, r_lmul, r_ldiv, r_lrem, r_lshl, r_lcmp, r_i2l, r_i2b, r_i2s, r_dup_i, r_dup_r, r_dup2_ii, r_dup2_ir, r_dup2_l, r_pop, r_getfield, r_putfield, r_iaload, r_iastore, r_aaload, r_arraylength, r_if_eq, r_icmp_eq, r_if_ne, r_icmp_ne, r_if_lt, r_icmp_lt, r_if_ge, r_icmp_ge, r_if_gt, r_icmp_gt, r_if_le, r_icmp_le, r_goto, r_switch, r_ireturn0, r_ireturn1, r_lreturn, r_areturn, r_return, r_inv0, r_inv1, r_inv2, r_inv3, r_inv4, r_inv5, r_min, r_max, r_acopy, onI_s, onL_s, onR_s, onO_s, fv0, fv1, fv2, fv3, fp1, fp20, fp21, fp3, tl_s, tl_n, lg0, lg1, lg2, lg3, lg4, lg5, lg6, lg7, lg8, lg9, lg10, lg11, lg12, lg13, lg14, lg15, lg16, lg17, ls0, ls1, ls2, ls3, ls4, ls5, ls6, ls7, ls8, ls9, ls10, ls11, ls12, ls13, ls14, ls15, ls16, ls17, lk0, lk1, lk2, lk3, lk4, lk5, lk6, lk7, lk8, lk9, lk10, lk11, lk12, lk13, lk14, lk15, lk16, lk17, kl_n, kl_i, kl_r, kl_l, Nat.reduceAdd, Nat.reduceLeDiff, not_false_eq_true, r_ins0, r_ins1, r_ins2, r_ins3, r_ins4, r_ins5]
  have h := outer 24 0 (stM M 21 10 (nI 0)) none (by omega) ⟨Fr.rf.st (by decide), ?_, fun v hv => absurd hv (Nat.not_lt_zero v), fun v hv => absurd hv (Nat.not_lt_zero v), fun v hv => absurd hv (Nat.not_lt_zero v), fun j _ hj => by omega, ⟨0, by rw [sm_eq, u_eq], by decide, fun j => ?_⟩, fun j hj => by rw [sm_eq, u_ne hj], fun _ v hv => absurd hv (Nat.not_lt_zero v)⟩
  · rw [show (yr I 0).1 = C from i1] at h
    exact h
  · show RS _ _ _ (yr I 0).1
    rw [show (yr I 0).1 = C from i1]
    exact hR0
  · rw [Nat.zero_testBit]
    symm
    apply decide_eq_false
    omega
set_option maxHeartbeats 8000000 in
theorem s_run_38 {M : Mem} {C : Col} {no : Nat} {ow oq : Nat → Nat} {x : Wth} (hR : RS M 40 41 C) (hO : ROr M 42 no ow oq) (hW : RWt M 45 x) (hI : okI (InW C no ow oq x)) (hx : okWt x) (hk : M 38 8 = nI 1) :
    Ct 42 [.ref 38] M (fun r N => r = none ∧ Fr [38, 40, 41, 47, 48, 49, 50, 51, 52] M N ∧ Oc 38 1 (InW C no ow oq x) N ∧ ∀ j, j ≠ 10 → N 38 j = M 38 j) := by
  generalize hIe : InW C no ow oq x = I
  have i1 : I.1 = C := by rw [← hIe]; rfl
  have i2 : I.2.1 = no := by rw [← hIe]; rfl
  have i3 : I.2.2.1 = ow := by rw [← hIe]; rfl
  have i4 : I.2.2.2.1 = oq := by rw [← hIe]; rfl
  have i5 : ∀ w, I.2.2.2.2.1 w = x.1.testBit w := by intro w; rw [← hIe]; rfl
  have i6 : ∀ w, I.2.2.2.2.2.1 w = x.2.1.testBit w := by intro w; rw [← hIe]; rfl
  have i7 : ∀ w, I.2.2.2.2.2.2 w = swF x w := by intro w; rw [← hIe]; rfl
  rw [hIe] at hI
  have hI1 : okC6 C := i1 ▸ hI.1
  have hno : no ≤ 12 := i2 ▸ hI.2.1
  have how : ∀ i, ow i ≤ 23 := i3 ▸ hI.2.2.1
  have hoq : ∀ i, oq i ≤ 9 := i4 ▸ hI.2.2.2
  generalize hQ : (fun (r : Option Value) (N : Mem) => r = none ∧ Fr [38, 40, 41, 47, 48, 49, 50, 51, 52] M N ∧ Oc 38 1 I N ∧ ∀ j, j ≠ 10 → N 38 j = M 38 j) = Q
  have okt : ∀ w i, okC6 (ord ow oq w i (yr I w)).1 ∧ ∀ j, (ord ow oq w i (yr I w)).2 j ≤ 18 := fun w i => ord_ok hoq i (yr_ok hI w).1 (yr_ok hI w).2
  -- a week's end: from block 5 on, and the weeks' loop
  have outer : ∀ (n w : Nat) (N : Mem) (v : Option Value), w + n = 24 → RI 38 1 I M N w 0 → WP 42 [] 1 [some (.ref 38), some (.int (nI (icC (yr I w).1))), some (.int (nI w)), v] [] N Q := by
    intro n
    induction n with
    | zero =>
      intro w N v hw hr
      obtain rfl : w = 24 := by omega
      rw [B_42_1]
      simp only [B_42_0, B_42_3, B_42_4, B_42_5, B_42_6, cP, cS, r_iconst_p, r_iconst_m, r_bipush_p, r_bipush_m, r_sipush_p, r_sipush_m, r_ldc_p, r_ldc_m, r_ldc_w_p, r_ldc_w_m, r_lconst_p, r_lconst_m, r_ldc2_w_p, r_ldc2_w_m, r_iload, r_iload_n, r_lload, r_lload_n, r_aload, r_aload_n, r_istore, r_istore_n, r_astore, r_astore_n, r_lstore, r_lstore_n, r_iinc_p, r_iinc_m, r_iadd, r_isub, r_imul, r_iand, r_ior, r_ixor, r_ishl, r_ishr, r_iushr, r_idiv, r_irem, r_ladd, r_lsub, r_lmul, r_ldiv, r_lrem, r_lshl, r_lcmp, r_i2l, r_i2b, r_i2s, r_dup_i, r_dup_r, r_dup2_ii, r_dup2_ir, r_dup2_l, r_pop, r_getfield, r_putfield, r_iaload, r_iastore, r_aaload, r_arraylength, r_if_eq, r_icmp_eq, r_if_ne, r_icmp_ne, r_if_lt, r_icmp_lt, r_if_ge, r_icmp_ge, r_if_gt, r_icmp_gt, r_if_le, r_icmp_le, r_goto, r_switch, r_ireturn0, r_ireturn1, r_lreturn, r_areturn, r_return, r_inv0, r_inv1, r_inv2, r_inv3, r_inv4, r_inv5, r_min, r_max, r_acopy, onI_s, onL_s, onR_s, onO_s, fv0, fv1, fv2, fv3, fp1, fp20, fp21, fp3, tl_s, tl_n, lg0, lg1, lg2, lg3, lg4, lg5, lg6, lg7, lg8, lg9, lg10, lg11, lg12, lg13, lg14, lg15, lg16, lg17, ls0, ls1, ls2, ls3, ls4, ls5, ls6, ls7, ls8, ls9, ls10, ls11, ls12, ls13, ls14, ls15, ls16, ls17, lk0, lk1, lk2, lk3, lk4, lk5, lk6, lk7, lk8, lk9, lk10, lk11, lk12, lk13, lk14, lk15, lk16, lk17, kl_n, kl_i, kl_r, kl_l, Nat.reduceAdd, Nat.reduceLeDiff, not_false_eq_true, r_ins0, r_ins1, r_ins2, r_ins3, r_ins4, r_ins5]
      rw [brc_pos (Int32.le_refl _), ← hQ]
      obtain ⟨r1, r2, r3, r4, r5, r6, ⟨sb, r7, r8, r9⟩, r10, r11⟩ := hr
      refine ⟨rfl, r1, ⟨r3, r4, r5, fun j hj => r6 j hj (Or.inl (by rw [i3]; have := how j; omega)), ⟨sb, r7, r8, fun j => ?_⟩, r11⟩, r10⟩
      rw [r9 j, i3]
      have := how j
      apply decide_eq_decide.mpr
      constructor
      · rintro ⟨a, b, c⟩; exact ⟨a, c⟩
      · rintro ⟨a, c⟩; exact ⟨a, Or.inl (by omega), c⟩
    | succ n ih =>
      intro w N v hw hr
      have hw24 : w < 24 := by omega
      -- the orders of the week
      have inner : ∀ (k i : Nat) (N : Mem), i + k = no → RI 38 1 I M N w i → WP 42 [] 2 [some (.ref 38), some (.int (nI (icC (ord ow oq w i (yr I w)).1))), some (.int (nI w)), some (.int (nI i))] [] N Q := by
        intro k
        induction k with
        | zero =>
          intro i N hi hr
          obtain rfl : i = no := by omega
          obtain ⟨r1, r2, r3, r4, r5, r6, ⟨sb, r7, r8, r9⟩, r10, r11⟩ := hr
          have hok := okt w i
          have hic := icC_le hok.1
          have hye := yr_ice (I := I) w
          have hyo := (yr_ok hI (w + 1)).1
          rw [i2, i3, i4] at hye
          rw [i3, i4] at r2
          have fin : ∀ (N' : Mem), RI 38 1 I M N' (w + 1) 0 → WP 42 [] 5 [some (.ref 38), some (.int (nI (icC (yr I (w + 1)).1))), some (.int (nI w)), some (.int (nI i))] [] N' Q := by
            intro N' hr'
            simp only [B_42_0, B_42_3, B_42_4, B_42_5, B_42_6, cP, cS, r_iconst_p, r_iconst_m, r_bipush_p, r_bipush_m, r_sipush_p, r_sipush_m, r_ldc_p, r_ldc_m, r_ldc_w_p, r_ldc_w_m, r_lconst_p, r_lconst_m, r_ldc2_w_p, r_ldc2_w_m, r_iload, r_iload_n, r_lload, r_lload_n, r_aload, r_aload_n, r_istore, r_istore_n, r_astore, r_astore_n, r_lstore, r_lstore_n, r_iinc_p, r_iinc_m, r_iadd, r_isub, r_imul, r_iand, r_ior, r_ixor, r_ishl, r_ishr, r_iushr, r_idiv, r_irem, r_ladd, r_lsub, r_lmul, r_ldiv, r_lrem, r_lshl, r_lcmp, r_i2l, r_i2b, r_i2s, r_dup_i, r_dup_r, r_dup2_ii, r_dup2_ir, r_dup2_l, r_pop, r_getfield, r_putfield, r_iaload, r_iastore, r_aaload, r_arraylength, r_if_eq, r_icmp_eq, r_if_ne, r_icmp_ne, r_if_lt, r_icmp_lt, r_if_ge, r_icmp_ge, r_if_gt, r_icmp_gt, r_if_le, r_icmp_le, r_goto, r_switch, r_ireturn0, r_ireturn1, r_lreturn, r_areturn, r_return, r_inv0, r_inv1, r_inv2, r_inv3, r_inv4, r_inv5, r_min, r_max, r_acopy, onI_s, onL_s, onR_s, onO_s, fv0, fv1, fv2, fv3, fp1, fp20, fp21, fp3, tl_s, tl_n, lg0, lg1, lg2, lg3, lg4, lg5, lg6, lg7, lg8, lg9, lg10, lg11, lg12, lg13, lg14, lg15, lg16, lg17, ls0, ls1, ls2, ls3, ls4, ls5, ls6, ls7, ls8, ls9, ls10, ls11, ls12, ls13, ls14, ls15, ls16, ls17, lk0, lk1, lk2, lk3, lk4, lk5, lk6, lk7, lk8, lk9, lk10, lk11, lk12, lk13, lk14, lk15, lk16, lk17, kl_n, kl_i, kl_r, kl_l, Nat.reduceAdd, Nat.reduceLeDiff, not_false_eq_true, r_ins0, r_ins1, r_ins2, r_ins3, r_ins4, r_ins5]
            rw [q_add]
            exact ih (w + 1) N' _ (by omega) hr'
          rw [B_42_2]
          simp only [B_42_0, B_42_3, B_42_4, B_42_6, cP, cS, r_iconst_p, r_iconst_m, r_bipush_p, r_bipush_m, r_sipush_p, r_sipush_m, r_ldc_p, r_ldc_m, r_ldc_w_p, r_ldc_w_m, r_lconst_p, r_lconst_m, r_ldc2_w_p, r_ldc2_w_m, r_iload, r_iload_n, r_lload, r_lload_n, r_aload, r_aload_n, r_istore, r_istore_n, r_astore, r_astore_n, r_lstore, r_lstore_n, r_iinc_p, r_iinc_m, r_iadd, r_isub, r_imul, r_iand, r_ior, r_ixor, r_ishl, r_ishr, r_iushr, r_idiv, r_irem, r_ladd, r_lsub, r_lmul, r_ldiv, r_lrem, r_lshl, r_lcmp, r_i2l, r_i2b, r_i2s, r_dup_i, r_dup_r, r_dup2_ii, r_dup2_ir, r_dup2_l, r_pop, r_getfield, r_putfield, r_iaload, r_iastore, r_aaload, r_arraylength, r_if_eq, r_icmp_eq, r_if_ne, r_icmp_ne, r_if_lt, r_icmp_lt, r_if_ge, r_icmp_ge, r_if_gt, r_icmp_gt, r_if_le, r_icmp_le, r_goto, r_switch, r_ireturn0, r_ireturn1, r_lreturn, r_areturn, r_return, r_inv0, r_inv1, r_inv2, r_inv3, r_inv4, r_inv5, r_min, r_max, r_acopy, onI_s, onL_s, onR_s, onO_s, fv0, fv1, fv2, fv3, fp1, fp20, fp21, fp3, tl_s, tl_n, lg0, lg1, lg2, lg3, lg4, lg5, lg6, lg7, lg8, lg9, lg10, lg11, lg12, lg13, lg14, lg15, lg16, lg17, ls0, ls1, ls2, ls3, ls4, ls5, ls6, ls7, ls8, ls9, ls10, ls11, ls12, ls13, ls14, ls15, ls16, ls17, lk0, lk1, lk2, lk3, lk4, lk5, lk6, lk7, lk8, lk9, lk10, lk11, lk12, lk13, lk14, lk15, lk16, lk17, kl_n, kl_i, kl_r, kl_l, Nat.reduceAdd, Nat.reduceLeDiff, not_false_eq_true, r_ins0, r_ins1, r_ins2, r_ins3, r_ins4, r_ins5]
          rw [show N 42 2 = nI i by rw [r1 42 (by decide)]; exact hO.1, brc_pos (Int32.le_refl _)]
          refine ⟨trivial, by simp, ?_⟩
          have hWN : RWt N 45 x := ⟨by rw [r1 45 (by decide)]; exact hW.1, by rw [r1 45 (by decide)]; exact hW.2.1, fun c hc => by rw [r1 46 (by decide)]; exact hW.2.2 c hc⟩
          refine (s_melt_38 r2 hok.1 hw24 hWN hx).mono ?_
          rintro r N1 ⟨rfl, hF1, hR1⟩
          have eW : mlW (ord ow oq w i (yr I w)).1 (swF x w) (x.1.testBit w) (x.2.1.testBit w) = wat I w := by
            unfold wat
            rw [i2, i3, i4, i5, i6, i7]
          have eC : mlC (ord ow oq w i (yr I w)).1 (swF x w) (x.1.testBit w) (x.2.1.testBit w) = (yr I (w + 1)).1 := by
            rw [yr_s, i2, i3, i4, i5, i6, i7]
          rw [eC] at hR1
          rw [eW]
          have hR2 : RS (stM (stM N1 49 w (nI (wat I w))) 48 w (nI (icC (yr I (w + 1)).1))) 40 41 (yr I (w + 1)).1 := fun c hc => by
            rw [sm_ne (by decide), sm_ne (by decide), sm_ne (by decide), sm_ne (by decide)]
            exact hR1 c hc
          have e12 : nI (icC (ord ow oq w i (yr I w)).1) - nI (wat I w) = nI (icC (yr I (w + 1)).1) := by rw [q_sub (by omega)]; congr 1; omega
          simp only [B_42_0, B_42_3, B_42_4, B_42_6, cP, cS, nI_clamp (show w < 2 ^ 31 by omega), sm_eq, u_eq, e12, (s_shape_39 hR2 hyo).ct, r_iconst_p, r_iconst_m, r_bipush_p, r_bipush_m, r_sipush_p, r_sipush_m, r_ldc_p, r_ldc_m, r_ldc_w_p, r_ldc_w_m, r_lconst_p, r_lconst_m, r_ldc2_w_p, r_ldc2_w_m, r_iload, r_iload_n, r_lload, r_lload_n, r_aload, r_aload_n, r_istore, r_istore_n, r_astore, r_astore_n, r_lstore, r_lstore_n, r_iinc_p, r_iinc_m, r_iadd, r_isub, r_imul, r_iand, r_ior, r_ixor, r_ishl, r_ishr, r_iushr, r_idiv, r_irem, r_ladd, r_lsub, r_lmul, r_ldiv, r_lrem, r_lshl, r_lcmp, r_i2l, r_i2b, r_i2s, r_dup_i, r_dup_r, r_dup2_ii, r_dup2_ir, r_dup2_l, r_pop, r_getfield, r_putfield, r_iaload, r_iastore, r_aaload, r_arraylength, r_if_eq, r_icmp_eq, r_if_ne, r_icmp_ne, r_if_lt, r_icmp_lt, r_if_ge, r_icmp_ge, r_if_gt, r_icmp_gt, r_if_le, r_icmp_le, r_goto, r_switch, r_ireturn0, r_ireturn1, r_lreturn, r_areturn, r_return, r_inv0, r_inv1, r_inv2, r_inv3, r_inv4, r_inv5, r_min, r_max, r_acopy, onI_s, onL_s, onR_s, onO_s, fv0, fv1, fv2, fv3, fp1, fp20, fp21, fp3, tl_s, tl_n, lg0, lg1, lg2, lg3, lg4, lg5, lg6, lg7, lg8, lg9, lg10, lg11, lg12, lg13, lg14, lg15, lg16, lg17, ls0, ls1, ls2, ls3, ls4, ls5, ls6, ls7, ls8, ls9, ls10, ls11, ls12, ls13, ls14, ls15, ls16, ls17, lk0, lk1, lk2, lk3, lk4, lk5, lk6, lk7, lk8, lk9, lk10, lk11, lk12, lk13, lk14, lk15, lk16, lk17, kl_n, kl_i, kl_r, kl_l, Nat.reduceAdd, Nat.reduceLeDiff, not_false_eq_true, r_ins0, r_ins1, r_ins2, r_ins3, r_ins4, r_ins5]
          rw [inb_n (n := 24) rfl (by omega) (by omega), inb_n (n := 24) rfl (by omega) (by omega), inb_n (n := 24) rfl (by omega) (by omega)]
          have hN10 : ∀ j, N1 38 j = N 38 j := fun j => by rw [hF1 38 (by decide)]
          rw [sm_ne (show ¬ 38 = 50 by decide), sm_ne (show ¬ 38 = 48 by decide), sm_ne (show ¬ 38 = 49 by decide), hN10, r10 8 (by decide), hk]
          refine ⟨hw24, hw24, hw24, trivial, by simp, hw24, ?_⟩
          have hpost : ∀ N3 : Mem, (∀ c, c ≠ 52 → N3 c = stM (stM (stM N1 49 w (nI (wat I w))) 48 w (nI (icC (yr I (w + 1)).1))) 50 w (nI (shp (yr I (w + 1)).1 6)) c) → (1 = 1 → ∀ v, v < w + 1 → ∀ c, c < 6 → ∀ j, j < 6 → N3 52 (v * 36 + (c * 6 + j)) = nI (((yr I (v + 1)).1 c).getD j 0)) → RI 38 1 I M N3 (w + 1) 0 := by
            intro N3 h3 h14
            have g : ∀ c, c ≠ 52 → c ≠ 48 → c ≠ 49 → c ≠ 50 → N3 c = N1 c := fun c a1 a2 a3 a4 => by rw [h3 c a1, sm_ne a4, sm_ne a2, sm_ne a3]
            have hes : (yr I (w + 1)).2 = (ord ow oq w i (yr I w)).2 := by rw [yr_s, i2, i3, i4]
            refine ⟨fun c hc => ?_, fun c hc => ?_, ?_, ?_, ?_, fun j hj hj2 => ?_, ⟨sb, ?_, r8, fun j => ?_⟩, fun j hj => ?_, h14⟩
            · have n14 : c ≠ 52 := fun q => hc (by rw [q]; decide)
              have n10 : c ≠ 48 := fun q => hc (by rw [q]; decide)
              have n11 : c ≠ 49 := fun q => hc (by rw [q]; decide)
              have n12 : c ≠ 50 := fun q => hc (by rw [q]; decide)
              rw [g c n14 n10 n11 n12, hF1 c (fun q => hc (by simp only [List.mem_cons, List.not_mem_nil, or_false] at q ⊢; omega))]
              exact r1 c hc
            · rw [g 41 (by decide) (by decide) (by decide) (by decide), g 40 (by decide) (by decide) (by decide) (by decide)]
              exact hR1 c hc
            · rw [h3 48 (by decide), sm_ne (by decide), sm_eq, sm_ne (by decide), hF1 48 (by decide)]
              exact rec_s (g := fun v => icC (yr I (v + 1)).1) r3
            · rw [h3 49 (by decide), sm_ne (by decide), sm_ne (by decide), sm_eq, hF1 49 (by decide)]
              exact rec_s (g := fun v => wat I v) r4
            · rw [h3 50 (by decide), sm_eq, sm_ne (by decide), sm_ne (by decide), hF1 50 (by decide)]
              exact rec_s (g := fun v => shp (yr I (v + 1)).1 6) r5
            · rw [g 47 (by decide) (by decide) (by decide) (by decide), hF1 47 (by decide)]
              rw [i2] at hj
              rw [i3] at hj2
              have h9 := r6 j (by rw [i2]; exact hj) (by rw [i3]; omega)
              rw [i3, i4] at h9
              rw [h9]
              show _ = nI ((yr I (w + 1)).2 j)
              rw [hes]
            · rw [g 38 (by decide) (by decide) (by decide) (by decide), hN10]
              exact r7
            · rw [r9 j, i2, i3, i4]
              show _ = decide (j < i ∧ (ow j < w + 1 ∨ (ow j = w + 1 ∧ j < 0)) ∧ (yr I (w + 1)).2 j < oq j)
              rw [hes]
              apply decide_eq_decide.mpr
              constructor
              · rintro ⟨a1, a2, a3⟩; exact ⟨a1, by omega, a3⟩
              · rintro ⟨a1, a2, a3⟩; exact ⟨a1, by omega, a3⟩
            · rw [g 38 (by decide) (by decide) (by decide) (by decide), hN10]
              exact r10 j hj
          have hist : ∀ N3 : Mem, N3 52 = N 52 → ∀ v, v < w → 1 = 1 → ∀ c, c < 6 → ∀ j, j < 6 → N3 52 (v * 36 + (c * 6 + j)) = nI (((yr I (v + 1)).1 c).getD j 0) := fun N3 e v hv hk1 c hc j hj => by
            rw [e]
            exact r11 hk1 v hv c hc j hj
          have e14 : stM (stM (stM N1 49 w (nI (wat I w))) 48 w (nI (icC (yr I (w + 1)).1))) 50 w (nI (shp (yr I (w + 1)).1 6)) 52 = N 52 := by
            rw [sm_ne (by decide), sm_ne (by decide), sm_ne (by decide), hF1 52 (by decide)]
          rw [brc_neg (by rw [q_eq (by omega) (by omega)]; decide)]
          rw [q_mul, nI_clamp (show 0 < 2 ^ 31 by decide), nI_clamp (show 36 < 2 ^ 31 by decide), nI_clamp (show w * 36 < 2 ^ 31 by omega), q_lt (by omega) (by omega), q_lt (by omega) (by omega), q_lt (by omega) (by omega)]
          refine ⟨⟨by omega, by omega, by omega, by omega, by omega, by simp⟩, ?_⟩
          refine fin _ (hpost _ (fun c hc => by rw [cp_if, if_neg hc]) (fun h v hv c hc j hj => ?_))
          rw [cp_if, if_pos rfl]
          by_cases e : v = w
          · subst e
            rw [cpy_in (by omega) (by omega), sm_ne (by decide), sm_ne (by decide), sm_ne (by decide), show 0 + (v * 36 + (c * 6 + j) - v * 36) = c * 6 + j by omega]
            exact (hR1 c hc).2 j hj
          · rw [show va_cpy (stM (stM (stM N1 49 w (nI (wat I w))) 48 w (nI (icC (yr I (w + 1)).1))) 50 w (nI (shp (yr I (w + 1)).1 6)) 40) (stM (stM (stM N1 49 w (nI (wat I w))) 48 w (nI (icC (yr I (w + 1)).1))) 50 w (nI (shp (yr I (w + 1)).1 6)) 52) 0 (w * 36) 36 (v * 36 + (c * 6 + j)) = N 52 (v * 36 + (c * 6 + j)) by rw [pk_cpy_out (by omega), e14]]
            exact r11 rfl v (by omega) c hc j hj
        | succ k ihk =>
          intro i N hi hr
          obtain ⟨r1, r2, r3, r4, r5, r6, ⟨sb, r7, r8, r9⟩, r10, r11⟩ := id hr
          have hok := okt w i
          have hin : i < no := by omega
          have nx : ∀ (N' : Mem), RI 38 1 I M N' w (i + 1) → WP 42 [] 3 [some (.ref 38), some (.int (nI (icC (ord ow oq w (i + 1) (yr I w)).1))), some (.int (nI w)), some (.int (nI i))] [] N' Q := by
            intro N' hr'
            simp only [B_42_0, B_42_3, B_42_4, B_42_5, B_42_6, cP, cS, r_iconst_p, r_iconst_m, r_bipush_p, r_bipush_m, r_sipush_p, r_sipush_m, r_ldc_p, r_ldc_m, r_ldc_w_p, r_ldc_w_m, r_lconst_p, r_lconst_m, r_ldc2_w_p, r_ldc2_w_m, r_iload, r_iload_n, r_lload, r_lload_n, r_aload, r_aload_n, r_istore, r_istore_n, r_astore, r_astore_n, r_lstore, r_lstore_n, r_iinc_p, r_iinc_m, r_iadd, r_isub, r_imul, r_iand, r_ior, r_ixor, r_ishl, r_ishr, r_iushr, r_idiv, r_irem, r_ladd, r_lsub, r_lmul, r_ldiv, r_lrem, r_lshl, r_lcmp, r_i2l, r_i2b, r_i2s, r_dup_i, r_dup_r, r_dup2_ii, r_dup2_ir, r_dup2_l, r_pop, r_getfield, r_putfield, r_iaload, r_iastore, r_aaload, r_arraylength, r_if_eq, r_icmp_eq, r_if_ne, r_icmp_ne, r_if_lt, r_icmp_lt, r_if_ge, r_icmp_ge, r_if_gt, r_icmp_gt, r_if_le, r_icmp_le, r_goto, r_switch, r_ireturn0, r_ireturn1, r_lreturn, r_areturn, r_return, r_inv0, r_inv1, r_inv2, r_inv3, r_inv4, r_inv5, r_min, r_max, r_acopy, onI_s, onL_s, onR_s, onO_s, fv0, fv1, fv2, fv3, fp1, fp20, fp21, fp3, tl_s, tl_n, lg0, lg1, lg2, lg3, lg4, lg5, lg6, lg7, lg8, lg9, lg10, lg11, lg12, lg13, lg14, lg15, lg16, lg17, ls0, ls1, ls2, ls3, ls4, ls5, ls6, ls7, ls8, ls9, ls10, ls11, ls12, ls13, ls14, ls15, ls16, ls17, lk0, lk1, lk2, lk3, lk4, lk5, lk6, lk7, lk8, lk9, lk10, lk11, lk12, lk13, lk14, lk15, lk16, lk17, kl_n, kl_i, kl_r, kl_l, Nat.reduceAdd, Nat.reduceLeDiff, not_false_eq_true, r_ins0, r_ins1, r_ins2, r_ins3, r_ins4, r_ins5]
            rw [q_add]
            exact ihk (i + 1) N' (by omega) hr'
          rw [i3, i4] at r2
          have hq := (hO.2 i hin).2
          have hwq := (hO.2 i hin).1
          have hw1 := how i
          rw [B_42_2]
          simp only [B_42_0, B_42_4, B_42_5, B_42_6, cP, cS, r_iconst_p, r_iconst_m, r_bipush_p, r_bipush_m, r_sipush_p, r_sipush_m, r_ldc_p, r_ldc_m, r_ldc_w_p, r_ldc_w_m, r_lconst_p, r_lconst_m, r_ldc2_w_p, r_ldc2_w_m, r_iload, r_iload_n, r_lload, r_lload_n, r_aload, r_aload_n, r_istore, r_istore_n, r_astore, r_astore_n, r_lstore, r_lstore_n, r_iinc_p, r_iinc_m, r_iadd, r_isub, r_imul, r_iand, r_ior, r_ixor, r_ishl, r_ishr, r_iushr, r_idiv, r_irem, r_ladd, r_lsub, r_lmul, r_ldiv, r_lrem, r_lshl, r_lcmp, r_i2l, r_i2b, r_i2s, r_dup_i, r_dup_r, r_dup2_ii, r_dup2_ir, r_dup2_l, r_pop, r_getfield, r_putfield, r_iaload, r_iastore, r_aaload, r_arraylength, r_if_eq, r_icmp_eq, r_if_ne, r_icmp_ne, r_if_lt, r_icmp_lt, r_if_ge, r_icmp_ge, r_if_gt, r_icmp_gt, r_if_le, r_icmp_le, r_goto, r_switch, r_ireturn0, r_ireturn1, r_lreturn, r_areturn, r_return, r_inv0, r_inv1, r_inv2, r_inv3, r_inv4, r_inv5, r_min, r_max, r_acopy, onI_s, onL_s, onR_s, onO_s, fv0, fv1, fv2, fv3, fp1, fp20, fp21, fp3, tl_s, tl_n, lg0, lg1, lg2, lg3, lg4, lg5, lg6, lg7, lg8, lg9, lg10, lg11, lg12, lg13, lg14, lg15, lg16, lg17, ls0, ls1, ls2, ls3, ls4, ls5, ls6, ls7, ls8, ls9, ls10, ls11, ls12, ls13, ls14, ls15, ls16, ls17, lk0, lk1, lk2, lk3, lk4, lk5, lk6, lk7, lk8, lk9, lk10, lk11, lk12, lk13, lk14, lk15, lk16, lk17, kl_n, kl_i, kl_r, kl_l, Nat.reduceAdd, Nat.reduceLeDiff, not_false_eq_true, r_ins0, r_ins1, r_ins2, r_ins3, r_ins4, r_ins5]
          rw [show N 42 2 = nI no by rw [r1 42 (by decide)]; exact hO.1, brc_neg (nI_ge (by omega) (by omega)), inb_n (n := 12) rfl (by omega) (by omega), nI_clamp (by omega), r1 43 (by decide), hwq, q_eq (by omega) (by omega)]
          refine ⟨by omega, brc_i (fun hz => ?_) (fun hz => ?_)⟩
          · have e1 : ord ow oq w (i + 1) (yr I w) = ord ow oq w i (yr I w) := by rw [ord_s, if_neg hz]
            have h := nx N ⟨r1, by rw [i3, i4, e1]; exact r2, r3, r4, r5, fun j hj hj2 => ?_, ⟨sb, r7, r8, fun j => ?_⟩, r10, r11⟩
            · rw [e1] at h; exact h
            · have h9 := r6 j hj (by rw [i3] at hj2 ⊢; rcases hj2 with q | q
                                     · exact Or.inl q
                                     · exact Or.inr ⟨q.1, by rcases Nat.lt_or_ge j i with q2 | q2
                                                             · exact q2
                                                             · exact absurd (by rw [show i = j by omega]; exact q.1) hz⟩)
              rw [i3, i4] at h9 ⊢
              rw [e1]
              exact h9
            · rw [r9 j, i3, i4, e1]
              apply decide_eq_decide.mpr
              constructor
              · rintro ⟨a1, a2, a3⟩; exact ⟨a1, by omega, a3⟩
              · rintro ⟨a1, a2, a3⟩
                refine ⟨a1, ?_, a3⟩
                rcases a2 with q | q
                · exact Or.inl q
                · rcases Nat.lt_or_ge j i with q2 | q2
                  · exact Or.inr ⟨q.1, q2⟩
                  · exact absurd (by rw [show i = j by omega]; exact q.1) hz
          · have hz : ow i = w := Classical.not_not.mp hz
            have e1 : ord ow oq w (i + 1) (yr I w) = ((srv 36 (ord ow oq w i (yr I w)).1 0 (oq i)).1, fun j => if j = i then (srv 36 (ord ow oq w i (yr I w)).1 0 (oq i)).2 else (ord ow oq w i (yr I w)).2 j) := by rw [ord_s, if_pos hz]
            refine ⟨trivial, by simp, ?_⟩
            refine (s_serve_38 r2 hok.1 (by omega) (hoq i) (by rw [r1 44 (by decide)]; exact hq) r7).mono ?_
            rintro r N1 ⟨rfl, hF1, hR1, h9, h10⟩
            have h18 := (srv_ok 36 (h := 0) hok.1 (by omega) (hoq i)).2
            have hsum := icC_srv 36 (C := (ord ow oq w i (yr I w)).1) (h := 0) (w := oq i) hok.1
            have hic := icC_le hok.1
            simp only [B_42_0, B_42_4, B_42_5, B_42_6, cP, cS, r_iconst_p, r_iconst_m, r_bipush_p, r_bipush_m, r_sipush_p, r_sipush_m, r_ldc_p, r_ldc_m, r_ldc_w_p, r_ldc_w_m, r_lconst_p, r_lconst_m, r_ldc2_w_p, r_ldc2_w_m, r_iload, r_iload_n, r_lload, r_lload_n, r_aload, r_aload_n, r_istore, r_istore_n, r_astore, r_astore_n, r_lstore, r_lstore_n, r_iinc_p, r_iinc_m, r_iadd, r_isub, r_imul, r_iand, r_ior, r_ixor, r_ishl, r_ishr, r_iushr, r_idiv, r_irem, r_ladd, r_lsub, r_lmul, r_ldiv, r_lrem, r_lshl, r_lcmp, r_i2l, r_i2b, r_i2s, r_dup_i, r_dup_r, r_dup2_ii, r_dup2_ir, r_dup2_l, r_pop, r_getfield, r_putfield, r_iaload, r_iastore, r_aaload, r_arraylength, r_if_eq, r_icmp_eq, r_if_ne, r_icmp_ne, r_if_lt, r_icmp_lt, r_if_ge, r_icmp_ge, r_if_gt, r_icmp_gt, r_if_le, r_icmp_le, r_goto, r_switch, r_ireturn0, r_ireturn1, r_lreturn, r_areturn, r_return, r_inv0, r_inv1, r_inv2, r_inv3, r_inv4, r_inv5, r_min, r_max, r_acopy, onI_s, onL_s, onR_s, onO_s, fv0, fv1, fv2, fv3, fp1, fp20, fp21, fp3, tl_s, tl_n, lg0, lg1, lg2, lg3, lg4, lg5, lg6, lg7, lg8, lg9, lg10, lg11, lg12, lg13, lg14, lg15, lg16, lg17, ls0, ls1, ls2, ls3, ls4, ls5, ls6, ls7, ls8, ls9, ls10, ls11, ls12, ls13, ls14, ls15, ls16, ls17, lk0, lk1, lk2, lk3, lk4, lk5, lk6, lk7, lk8, lk9, lk10, lk11, lk12, lk13, lk14, lk15, lk16, lk17, kl_n, kl_i, kl_r, kl_l, Nat.reduceAdd, Nat.reduceLeDiff, not_false_eq_true, r_ins0, r_ins1, r_ins2, r_ins3, r_ins4, r_ins5]
            rw [inb_n (n := 12) rfl (by omega) (by omega), h9, u_eq, q_sub (by omega)]
            refine ⟨by omega, ?_⟩
            have h := nx N1 ⟨?_, by rw [i3, i4, e1]; exact hR1, ?_, ?_, ?_, fun j hj hj2 => ?_, ⟨_, by rw [h10, u_eq], ?_, fun j => ?_⟩, fun j hj => by rw [h10, u_ne hj]; exact r10 j hj, ?_⟩
            · rw [e1, show icC (srv 36 (ord ow oq w i (yr I w)).1 0 (oq i)).1 = icC (ord ow oq w i (yr I w)).1 - (srv 36 (ord ow oq w i (yr I w)).1 0 (oq i)).2 by omega] at h
              exact h
            · exact r1.tr hF1 (fun _ h => h) (by decide)
            · rw [hF1 48 (by decide)]; exact r3
            · rw [hF1 49 (by decide)]; exact r4
            · rw [hF1 50 (by decide)]; exact r5
            · rw [h9, u_if, i3, i4, e1]
              dsimp only
              by_cases e : j = i
              · rw [if_pos e, if_pos e]
              · rw [if_neg e, if_neg e]
                have h8 := r6 j hj (by rw [i3] at hj2 ⊢; omega)
                rw [i3, i4] at h8
                exact h8
            · split
              · exact Nat.or_lt_two_pow r8 (bit_lt (by omega))
              · exact r8
            · have hb : (if (srv 36 (ord ow oq w i (yr I w)).1 0 (oq i)).2 < oq i then sb ||| 1 <<< i else sb).testBit j = (sb.testBit j || decide (j = i ∧ (srv 36 (ord ow oq w i (yr I w)).1 0 (oq i)).2 < oq i)) := by
                split
                · rename_i hs
                  rw [Nat.testBit_or, Nat.one_shiftLeft, Nat.testBit_two_pow]
                  simp only [hs, and_true]
                  rw [show decide (i = j) = decide (j = i) from decide_eq_decide.mpr ⟨Eq.symm, Eq.symm⟩]
                · rename_i hs
                  simp [hs]
              rw [hb, r9 j, i2, i3, i4, e1, ← Bool.decide_or]
              dsimp only
              apply decide_eq_decide.mpr
              by_cases e : j = i
              · subst e
                rw [if_pos rfl]
                constructor
                · rintro (⟨a1, a2, a3⟩ | ⟨-, a3⟩)
                  · omega
                  · exact ⟨hin, Or.inr ⟨hz, by omega⟩, a3⟩
                · rintro ⟨a1, a2, a3⟩; exact Or.inr ⟨rfl, a3⟩
              · rw [if_neg e]
                constructor
                · rintro (⟨a1, a2, a3⟩ | ⟨a0, a3⟩)
                  · exact ⟨a1, by omega, a3⟩
                  · exact absurd a0 e
                · rintro ⟨a1, a2, a3⟩; exact Or.inl ⟨a1, by omega, a3⟩
            · intro hk1
              rw [hF1 52 (by decide)]
              exact r11 hk1
      rw [B_42_1]
      simp only [B_42_0, B_42_3, B_42_4, B_42_5, B_42_6, cP, cS, r_iconst_p, r_iconst_m, r_bipush_p, r_bipush_m, r_sipush_p, r_sipush_m, r_ldc_p, r_ldc_m, r_ldc_w_p, r_ldc_w_m, r_lconst_p, r_lconst_m, r_ldc2_w_p, r_ldc2_w_m, r_iload, r_iload_n, r_lload, r_lload_n, r_aload, r_aload_n, r_istore, r_istore_n, r_astore, r_astore_n, r_lstore, r_lstore_n, r_iinc_p, r_iinc_m, r_iadd, r_isub, r_imul, r_iand, r_ior, r_ixor, r_ishl, r_ishr, r_iushr, r_idiv, r_irem, r_ladd, r_lsub, r_lmul, r_ldiv, r_lrem, r_lshl, r_lcmp, r_i2l, r_i2b, r_i2s, r_dup_i, r_dup_r, r_dup2_ii, r_dup2_ir, r_dup2_l, r_pop, r_getfield, r_putfield, r_iaload, r_iastore, r_aaload, r_arraylength, r_if_eq, r_icmp_eq, r_if_ne, r_icmp_ne, r_if_lt, r_icmp_lt, r_if_ge, r_icmp_ge, r_if_gt, r_icmp_gt, r_if_le, r_icmp_le, r_goto, r_switch, r_ireturn0, r_ireturn1, r_lreturn, r_areturn, r_return, r_inv0, r_inv1, r_inv2, r_inv3, r_inv4, r_inv5, r_min, r_max, r_acopy, onI_s, onL_s, onR_s, onO_s, fv0, fv1, fv2, fv3, fp1, fp20, fp21, fp3, tl_s, tl_n, lg0, lg1, lg2, lg3, lg4, lg5, lg6, lg7, lg8, lg9, lg10, lg11, lg12, lg13, lg14, lg15, lg16, lg17, ls0, ls1, ls2, ls3, ls4, ls5, ls6, ls7, ls8, ls9, ls10, ls11, ls12, ls13, ls14, ls15, ls16, ls17, lk0, lk1, lk2, lk3, lk4, lk5, lk6, lk7, lk8, lk9, lk10, lk11, lk12, lk13, lk14, lk15, lk16, lk17, kl_n, kl_i, kl_r, kl_l, Nat.reduceAdd, Nat.reduceLeDiff, not_false_eq_true, r_ins0, r_ins1, r_ins2, r_ins3, r_ins4, r_ins5]
      rw [brc_neg (nI_ge (by omega) (by omega))]
      exact inner no 0 N (by omega) hr
  simp only [E_42, B_42_0, B_42_3, B_42_4, B_42_5, B_42_6, cP, cS, r_iconst_p, r_iconst_m, r_bipush_p, r_bipush_m, r_sipush_p, r_sipush_m, r_ldc_p, r_ldc_m, r_ldc_w_p, r_ldc_w_m, r_lconst_p, r_lconst_m, r_ldc2_w_p, r_ldc2_w_m, r_iload, r_iload_n, r_lload, r_lload_n, r_aload, r_aload_n, r_istore, r_istore_n, r_astore, r_astore_n, r_lstore, r_lstore_n, r_iinc_p, r_iinc_m, r_iadd, r_isub, r_imul, r_iand, r_ior, r_ixor, r_ishl, r_ishr, r_iushr, r_idiv, r_irem, r_ladd, r_lsub, r_lmul, r_ldiv, r_lrem, r_lshl, r_lcmp, r_i2l, r_i2b, r_i2s, r_dup_i, r_dup_r, r_dup2_ii, r_dup2_ir, r_dup2_l, r_pop, r_getfield, r_putfield, r_iaload, r_iastore, r_aaload, r_arraylength, r_if_eq, r_icmp_eq, r_if_ne, r_icmp_ne, r_if_lt, r_icmp_lt, r_if_ge, r_icmp_ge, r_if_gt, r_icmp_gt, r_if_le, r_icmp_le, r_goto, r_switch, r_ireturn0, r_ireturn1, r_lreturn, r_areturn, r_return, r_inv0, r_inv1, r_inv2, r_inv3, r_inv4, r_inv5, r_min, r_max, r_acopy, onI_s, onL_s, onR_s, onO_s, fv0, fv1, fv2, fv3, fp1, fp20, fp21, fp3, tl_s, tl_n, lg0, lg1, lg2, lg3, lg4, lg5, lg6, lg7, lg8, lg9, lg10, lg11, lg12, lg13, lg14, lg15, lg16, lg17, ls0, ls1, ls2, ls3, ls4, ls5, ls6, ls7, ls8, ls9, ls10, ls11, ls12, ls13, ls14, ls15, ls16, ls17, lk0, lk1, lk2, lk3, lk4, lk5, lk6, lk7, lk8, lk9, lk10, lk11, lk12, lk13, lk14, lk15, lk16, lk17, kl_n, kl_i, kl_r, kl_l, Nat.reduceAdd, Nat.reduceLeDiff, not_false_eq_true, r_ins0, r_ins1, r_ins2, r_ins3, r_ins4, r_ins5]
  have hR0 : RS (stM M 38 10 (nI 0)) 40 41 C := fun c hc => by
    rw [sm_ne (by decide), sm_ne (by decide)]
    exact hR c hc
  refine ⟨trivial, by simp, ?_⟩
  rw [(s_total_39 _).ct, RS_sum hR0 hI1]
  simp only [B_42_0, B_42_3, B_42_4, B_42_5, B_42_6, cP, cS, r_iconst_p, r_iconst_m, r_bipush_p, r_bipush_m, r_sipush_p, r_sipush_m, r_ldc_p, r_ldc_m, r_ldc_w_p, r_ldc_w_m, r_lconst_p, r_lconst_m, r_ldc2_w_p, r_ldc2_w_m, r_iload, r_iload_n, r_lload, r_lload_n, r_aload, r_aload_n, r_istore, r_istore_n, r_astore, r_astore_n, r_lstore, r_lstore_n, r_iinc_p, r_iinc_m, r_iadd, r_isub, r_imul, r_iand, r_ior, r_ixor, r_ishl, r_ishr, r_iushr, r_idiv, r_irem, r_ladd, r_lsub, r_lmul, r_ldiv, r_lrem, r_lshl, r_lcmp, r_i2l, r_i2b, r_i2s, r_dup_i, r_dup_r, r_dup2_ii, r_dup2_ir, r_dup2_l, r_pop, r_getfield, r_putfield, r_iaload, r_iastore, r_aaload, r_arraylength, r_if_eq, r_icmp_eq, r_if_ne, r_icmp_ne, r_if_lt, r_icmp_lt, r_if_ge, r_icmp_ge, r_if_gt, r_icmp_gt, r_if_le, r_icmp_le, r_goto, r_switch, r_ireturn0, r_ireturn1, r_lreturn, r_areturn, r_return, r_inv0, r_inv1, r_inv2, r_inv3, r_inv4, r_inv5, r_min, r_max, r_acopy, onI_s, onL_s, onR_s, onO_s, fv0, fv1, fv2, fv3, fp1, fp20, fp21, fp3, tl_s, tl_n, lg0, lg1, lg2, lg3, lg4, lg5, lg6, lg7, lg8, lg9, lg10, lg11, lg12, lg13, lg14, lg15, lg16, lg17, ls0, ls1, ls2, ls3, ls4, ls5, ls6, ls7, ls8, ls9, ls10, ls11, ls12, ls13, ls14, ls15, ls16, ls17, lk0, lk1, lk2, lk3, lk4, lk5, lk6, lk7, lk8, lk9, lk10, lk11, lk12, lk13, lk14, lk15, lk16, lk17, kl_n, kl_i, kl_r, kl_l, Nat.reduceAdd, Nat.reduceLeDiff, not_false_eq_true, r_ins0, r_ins1, r_ins2, r_ins3, r_ins4, r_ins5]
  have h := outer 24 0 (stM M 38 10 (nI 0)) none (by omega) ⟨Fr.rf.st (by decide), ?_, fun v hv => absurd hv (Nat.not_lt_zero v), fun v hv => absurd hv (Nat.not_lt_zero v), fun v hv => absurd hv (Nat.not_lt_zero v), fun j _ hj => by omega, ⟨0, by rw [sm_eq, u_eq], by decide, fun j => ?_⟩, fun j hj => by rw [sm_eq, u_ne hj], fun _ v hv => absurd hv (Nat.not_lt_zero v)⟩
  · rw [show (yr I 0).1 = C from i1] at h
    exact h
  · show RS _ _ _ (yr I 0).1
    rw [show (yr I 0).1 = C from i1]
    exact hR0
  · rw [Nat.zero_testBit]
    symm
    apply decide_eq_false
    omega
