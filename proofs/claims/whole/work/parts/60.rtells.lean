/-! the reference: write, digest -/
theorem mxd_f (h v : Int64) : lN 31 * h + v = mxd h v := rfl
section RW
variable {M N : Mem} {g : Sg}
set_option maxHeartbeats 1000000 in
theorem m_write (h : MJ M g) (c s : Int32) : Ct 190 [.ref 62, .int c, .int s] M (fun r N => r = some (.int (aWrite g c s)) ∧ MJ N (gWrite g c s) ∧ Lw M N) := by
  unfold aWrite gWrite
  simp only [E_190, B_190_0, B_190_1, B_190_2, B_190_3, B_190_5, cm, ct_isCol, ct_isSh, ct_finds, r_iconst_p, r_iconst_m, r_bipush_p, r_bipush_m, r_sipush_p, r_sipush_m, r_ldc_p, r_ldc_m, r_ldc_w_p, r_ldc_w_m, r_lconst_p, r_lconst_m, r_ldc2_w_p, r_ldc2_w_m, r_iload, r_iload_n, r_lload, r_lload_n, r_aload, r_aload_n, r_istore, r_istore_n, r_astore, r_astore_n, r_lstore, r_lstore_n, r_iinc_p, r_iinc_m, r_iadd, r_isub, r_imul, r_iand, r_ior, r_ixor, r_ishl, r_ishr, r_iushr, r_idiv, r_irem, r_ladd, r_lsub, r_lmul, r_ldiv, r_lrem, r_lshl, r_lcmp, r_i2l, r_i2b, r_i2s, r_dup_i, r_dup_r, r_dup2_ii, r_dup2_ir, r_dup2_l, r_pop, r_getfield, r_putfield, r_iaload, r_iastore, r_aaload, r_arraylength, r_if_eq, r_icmp_eq, r_if_ne, r_icmp_ne, r_if_lt, r_icmp_lt, r_if_ge, r_icmp_ge, r_if_gt, r_icmp_gt, r_if_le, r_icmp_le, r_goto, r_switch, r_ireturn0, r_ireturn1, r_lreturn, r_areturn, r_return, r_inv0, r_inv1, r_inv2, r_inv3, r_inv4, r_inv5, r_min, r_max, r_acopy, onI_s, onL_s, onR_s, onO_s, fv0, fv1, fv2, fv3, fp1, fp20, fp21, fp3, tl_s, tl_n, lg0, lg1, lg2, lg3, lg4, lg5, lg6, lg7, lg8, lg9, lg10, lg11, lg12, lg13, lg14, lg15, lg16, lg17, ls0, ls1, ls2, ls3, ls4, ls5, ls6, ls7, ls8, ls9, ls10, ls11, ls12, ls13, ls14, ls15, ls16, ls17, lk0, lk1, lk2, lk3, lk4, lk5, lk6, lk7, lk8, lk9, lk10, lk11, lk12, lk13, lk14, lk15, lk16, lk17, kl_n, kl_i, kl_r, kl_l, Nat.reduceAdd, Nat.reduceLeDiff, not_false_eq_true, r_ins0, r_ins1, r_ins2, r_ins3, r_ins4, r_ins5]
  refine ⟨by simp, ?_⟩
  cases hx : rg c 6 with
  | false => rw [rF', brc_pos rfl, if_neg (fun q => by cases q.1), if_neg (fun q => by cases q.1)]; exact ⟨rfl, h, Lw.rf⟩
  | true =>
    rw [rT', n10, brc_F]
    refine ⟨by simp, ?_⟩
    cases hf : rg s 4 with
    | false => rw [rF', brc_neg (fun q => q rfl), if_neg (fun q => by cases q.2), if_neg (fun q => by cases q.2)]; exact ⟨rfl, h, Lw.rf⟩
    | true =>
      obtain ⟨b1, e1⟩ := rg_T hx
      obtain ⟨b2, e2⟩ := rg_T hf
      have hz' : true = true ∧ true = true := ⟨rfl, rfl⟩
      rw [rT', n10, brc_nF, if_pos hz', if_pos hz']
      clear hz'
      generalize cl c = c' at *
      generalize cl s = s' at *
      subst e1
      subst e2
      obtain ⟨s1, s2, s3, s4, s5⟩ := h.2.2.2.2.1 s' b2
      rw [inb_n (n := 4) rfl (by omega) (by omega), nI_clamp (by omega), s1, ix_ge0 (by omega)]
      refine ⟨b2, brc_i (fun hz => ?_) (fun hz => ?_)⟩
      · rw [if_neg hz, if_neg hz]
        refine ⟨trivial, by simp, (m_find h).mono ?_⟩
        rintro r N ⟨rfl, hN, hL, hO⟩
        have hI : okI (I0 g) := hN.LV.I
        obtain ⟨w1, w2, w3, w4, w5⟩ := hN.1.2.2.2.2.1 s' b2
        have ef : ix (gfm g s') = nI (gfm g s' - 1) := by unfold ix; rw [if_neg hz]
        simp only [B_190_0, B_190_1, B_190_2, B_190_3, B_190_5, cm, nI_clamp (show s' < 2 ^ 31 by omega), w3, s_lesser (show gsz g s' < 2 ^ 31 by omega) (show 24 < 2 ^ 31 by omega), r_iconst_p, r_iconst_m, r_bipush_p, r_bipush_m, r_sipush_p, r_sipush_m, r_ldc_p, r_ldc_m, r_ldc_w_p, r_ldc_w_m, r_lconst_p, r_lconst_m, r_ldc2_w_p, r_ldc2_w_m, r_iload, r_iload_n, r_lload, r_lload_n, r_aload, r_aload_n, r_istore, r_istore_n, r_astore, r_astore_n, r_lstore, r_lstore_n, r_iinc_p, r_iinc_m, r_iadd, r_isub, r_imul, r_iand, r_ior, r_ixor, r_ishl, r_ishr, r_iushr, r_idiv, r_irem, r_ladd, r_lsub, r_lmul, r_ldiv, r_lrem, r_lshl, r_lcmp, r_i2l, r_i2b, r_i2s, r_dup_i, r_dup_r, r_dup2_ii, r_dup2_ir, r_dup2_l, r_pop, r_getfield, r_putfield, r_iaload, r_iastore, r_aaload, r_arraylength, r_if_eq, r_icmp_eq, r_if_ne, r_icmp_ne, r_if_lt, r_icmp_lt, r_if_ge, r_icmp_ge, r_if_gt, r_icmp_gt, r_if_le, r_icmp_le, r_goto, r_switch, r_ireturn0, r_ireturn1, r_lreturn, r_areturn, r_return, r_inv0, r_inv1, r_inv2, r_inv3, r_inv4, r_inv5, r_min, r_max, r_acopy, onI_s, onL_s, onR_s, onO_s, fv0, fv1, fv2, fv3, fp1, fp20, fp21, fp3, tl_s, tl_n, lg0, lg1, lg2, lg3, lg4, lg5, lg6, lg7, lg8, lg9, lg10, lg11, lg12, lg13, lg14, lg15, lg16, lg17, ls0, ls1, ls2, ls3, ls4, ls5, ls6, ls7, ls8, ls9, ls10, ls11, ls12, ls13, ls14, ls15, ls16, ls17, lk0, lk1, lk2, lk3, lk4, lk5, lk6, lk7, lk8, lk9, lk10, lk11, lk12, lk13, lk14, lk15, lk16, lk17, kl_n, kl_i, kl_r, kl_l, Nat.reduceAdd, Nat.reduceLeDiff, not_false_eq_true, r_ins0, r_ins1, r_ins2, r_ins3, r_ins4, r_ins5]
        rw [inb_n (n := 4) rfl (by omega) (by omega)]
        refine ⟨b2, by simp, ?_⟩
        have hm1 : min (gsz g s') 24 ≤ gsz g s' := Nat.min_le_left _ _
        have hm2 : min (gsz g s') 24 ≤ 24 := Nat.min_le_right _ _
        generalize min (gsz g s') 24 = m at *
        generalize hQ : (fun (r : Option Value) (P : Mem) => r = some (.int (nI m)) ∧ MJ P (setS g s' (gfm g s') (gsz g s') (itW g c' s' m)) ∧ Lw M P) = Q
        have key : ∀ n i (P : Mem), i + n = m → Fr [65] N P → (∀ q, q < 60 * s' ∨ 60 * s' + 60 ≤ q → P 65 q = N 65 q) → (∀ j, j < gsz g s' → P 65 (60 * s' + j) = itW g c' s' i j) → WP 190 [] 4 [some (.ref 62), some (.int (nI c')), some (.int (nI s')), some (.int (nI m)), some (.int (nI i))] [] P Q := by
          intro n
          induction n with
          | zero =>
            intro i P hi hF ho hd
            obtain rfl : i = m := by omega
            rw [B_190_4]
            simp only [B_190_0, B_190_1, B_190_2, B_190_3, B_190_5, cm, r_iconst_p, r_iconst_m, r_bipush_p, r_bipush_m, r_sipush_p, r_sipush_m, r_ldc_p, r_ldc_m, r_ldc_w_p, r_ldc_w_m, r_lconst_p, r_lconst_m, r_ldc2_w_p, r_ldc2_w_m, r_iload, r_iload_n, r_lload, r_lload_n, r_aload, r_aload_n, r_istore, r_istore_n, r_astore, r_astore_n, r_lstore, r_lstore_n, r_iinc_p, r_iinc_m, r_iadd, r_isub, r_imul, r_iand, r_ior, r_ixor, r_ishl, r_ishr, r_iushr, r_idiv, r_irem, r_ladd, r_lsub, r_lmul, r_ldiv, r_lrem, r_lshl, r_lcmp, r_i2l, r_i2b, r_i2s, r_dup_i, r_dup_r, r_dup2_ii, r_dup2_ir, r_dup2_l, r_pop, r_getfield, r_putfield, r_iaload, r_iastore, r_aaload, r_arraylength, r_if_eq, r_icmp_eq, r_if_ne, r_icmp_ne, r_if_lt, r_icmp_lt, r_if_ge, r_icmp_ge, r_if_gt, r_icmp_gt, r_if_le, r_icmp_le, r_goto, r_switch, r_ireturn0, r_ireturn1, r_lreturn, r_areturn, r_return, r_inv0, r_inv1, r_inv2, r_inv3, r_inv4, r_inv5, r_min, r_max, r_acopy, onI_s, onL_s, onR_s, onO_s, fv0, fv1, fv2, fv3, fp1, fp20, fp21, fp3, tl_s, tl_n, lg0, lg1, lg2, lg3, lg4, lg5, lg6, lg7, lg8, lg9, lg10, lg11, lg12, lg13, lg14, lg15, lg16, lg17, ls0, ls1, ls2, ls3, ls4, ls5, ls6, ls7, ls8, ls9, ls10, ls11, ls12, ls13, ls14, ls15, ls16, ls17, lk0, lk1, lk2, lk3, lk4, lk5, lk6, lk7, lk8, lk9, lk10, lk11, lk12, lk13, lk14, lk15, lk16, lk17, kl_n, kl_i, kl_r, kl_l, Nat.reduceAdd, Nat.reduceLeDiff, not_false_eq_true, r_ins0, r_ins1, r_ins2, r_ins3, r_ins4, r_ins5]
            rw [brc_pos (Int32.le_refl _), ← hQ]
            exact ⟨rfl, hN.1.sht (q := (un (gfm g) s' (gfm g s'), un (gsz g) s' (gsz g s'), ui (git g) s' (itW g c' s' i))) (fun c c1 c2 c3 => hF c (by simp only [List.mem_cons, List.not_mem_nil, or_false]; exact c3)) (hN.1.2.2.2.2.1.set (by rw [hF 63 (by decide), u_id w1]) w2 (by rw [hF 64 (by decide), u_id w3]) w4 ho hd), hL.tr (Lw.of hF (fun c hc => by simp only [List.mem_cons, List.not_mem_nil, or_false] at hc; omega))⟩
          | succ n ih =>
            intro i P hi hF ho hd
            have hO' : OcM (I0 g) P := by
              unfold OcM RG at hO ⊢
              rw [hF 77 (by decide), hF 78 (by decide), hF 79 (by decide), hF 76 (by decide), hF 73 (by decide), hF 74 (by decide)]
              exact hO
            rw [B_190_4]
            simp only [B_190_0, B_190_1, B_190_2, B_190_3, B_190_5, cm, q_mul, q_add, nI_clamp (show s' < 2 ^ 31 by omega), nI_clamp (show 60 * s' + i < 2 ^ 31 by omega), hF 63 (by decide), w1, ef, s_standsIn hO' hI (show i < 24 by omega) b1, s_cut (show gfm g s' - 1 < 3 by omega), r_iconst_p, r_iconst_m, r_bipush_p, r_bipush_m, r_sipush_p, r_sipush_m, r_ldc_p, r_ldc_m, r_ldc_w_p, r_ldc_w_m, r_lconst_p, r_lconst_m, r_ldc2_w_p, r_ldc2_w_m, r_iload, r_iload_n, r_lload, r_lload_n, r_aload, r_aload_n, r_istore, r_istore_n, r_astore, r_astore_n, r_lstore, r_lstore_n, r_iinc_p, r_iinc_m, r_iadd, r_isub, r_imul, r_iand, r_ior, r_ixor, r_ishl, r_ishr, r_iushr, r_idiv, r_irem, r_ladd, r_lsub, r_lmul, r_ldiv, r_lrem, r_lshl, r_lcmp, r_i2l, r_i2b, r_i2s, r_dup_i, r_dup_r, r_dup2_ii, r_dup2_ir, r_dup2_l, r_pop, r_getfield, r_putfield, r_iaload, r_iastore, r_aaload, r_arraylength, r_if_eq, r_icmp_eq, r_if_ne, r_icmp_ne, r_if_lt, r_icmp_lt, r_if_ge, r_icmp_ge, r_if_gt, r_icmp_gt, r_if_le, r_icmp_le, r_goto, r_switch, r_ireturn0, r_ireturn1, r_lreturn, r_areturn, r_return, r_inv0, r_inv1, r_inv2, r_inv3, r_inv4, r_inv5, r_min, r_max, r_acopy, onI_s, onL_s, onR_s, onO_s, fv0, fv1, fv2, fv3, fp1, fp20, fp21, fp3, tl_s, tl_n, lg0, lg1, lg2, lg3, lg4, lg5, lg6, lg7, lg8, lg9, lg10, lg11, lg12, lg13, lg14, lg15, lg16, lg17, ls0, ls1, ls2, ls3, ls4, ls5, ls6, ls7, ls8, ls9, ls10, ls11, ls12, ls13, ls14, ls15, ls16, ls17, lk0, lk1, lk2, lk3, lk4, lk5, lk6, lk7, lk8, lk9, lk10, lk11, lk12, lk13, lk14, lk15, lk16, lk17, kl_n, kl_i, kl_r, kl_l, Nat.reduceAdd, Nat.reduceLeDiff, not_false_eq_true, r_ins0, r_ins1, r_ins2, r_ins3, r_ins4, r_ins5]
            rw [brc_neg (nI_ge (by omega) (by omega)), inb_n (n := 4) rfl (by omega) (by omega), inb_n (n := 240) rfl (by omega) (by omega), show gfm g s' - 1 + 1 = gfm g s' by omega]
            refine ⟨b2, trivial, by simp, by simp, by omega, ih (i + 1) _ (by omega) (hF.st (by decide)) (fun q hq => by rw [sm_eq, u_ne (by omega)]; exact ho q hq) (fun j hj => ?_)⟩
            rw [sm_eq, u_if]
            unfold itW
            by_cases e : j = i
            · subst e; rw [if_pos (by omega), if_pos (by omega)]; rfl
            · rw [if_neg (by omega), hd j hj]
              unfold itW
              by_cases e2 : j < i
              · rw [if_pos e2, if_pos (by omega)]
              · rw [if_neg e2, if_neg (by omega)]
        exact key m 0 N (by omega) Fr.rf (fun _ _ => rfl) (fun j hj => by unfold itW; rw [if_neg (by omega)]; exact w5 j hj)
      · rw [if_pos (Classical.not_not.mp hz), if_pos (Classical.not_not.mp hz), m10 1 (by omega)]
        have F1 := h.fnd (n := 1) (by omega)
        exact ⟨trivial, by simp, rfl, F1.1, F1.2⟩
/-! answers at small numbers -/
theorem aBare_n {c : Nat} (hc : c < 6) : aBare g (nI c) = ix (frs (fun w => decide (((yr (I0 g) (w + 1)).1 c).length = 0)) 24) := by
  unfold aBare
  rw [rg_nI (by omega), decide_eq_true hc, if_pos rfl, cl_nI (by omega)]; rfl
theorem aTold_n {c j : Nat} (hc : c < 6) (hj : j < 6) : aTold g (nI c) (nI j) = nI ((gB g c).getD j 0) := by
  unfold aTold
  rw [rg_nI (by omega), rg_nI (by omega), decide_eq_true hc, decide_eq_true hj, if_pos ⟨rfl, rfl⟩, cl_nI (by omega), cl_nI (by omega)]
theorem aBlock_n {w c j : Nat} (hw : w < 24) (hc : c < 6) (hj : j < 6) : aBlock g (nI w) (nI c) (nI j) = nI (((yr (I0 g) (w + 1)).1 c).getD j 0) := by
  unfold aBlock
  rw [rg_nI (by omega), rg_nI (by omega), rg_nI (by omega), decide_eq_true hw, decide_eq_true hc, decide_eq_true hj, if_pos ⟨rfl, rfl, rfl⟩, cl_nI (by omega), cl_nI (by omega), cl_nI (by omega)]; rfl
theorem aColumn_n {w c k : Nat} (hw : w < 24) (hc : c < 6) (hk : k < 2) : aColumn g (nI w) (nI c) (nI k) = if k = 0 then nI ((yr (I0 g) (w + 1)).1 c).length else nI ((yr (I0 g) (w + 1)).1 c).sum := by
  unfold aColumn
  rw [rg_nI (by omega), rg_nI (by omega), rg_nI (by omega), decide_eq_true hw, decide_eq_true hc, decide_eq_true hk, if_pos ⟨rfl, rfl, rfl⟩, cl_nI (by omega), cl_nI (by omega), cl_nI (by omega)]; rfl
theorem aOrder_n {i k : Nat} (hi : i < gno g) (hn : gno g ≤ 12) (hk : k < 2) : aOrder g (nI i) (nI k) = if k = 0 then nI (gow g i) else nI (goq g i) := by
  unfold aOrder
  rw [rg_nI (by omega), rg_nI (by omega), decide_eq_true hi, decide_eq_true hk, if_pos ⟨rfl, rfl⟩, cl_nI (by omega), cl_nI (by omega)]
theorem aGot_n {i k : Nat} (hi : i < gno g) (hn : gno g ≤ 12) (hk : k < 2) : aGot g (nI i) (nI k) = if k = 0 then nI ((yr (I0 g) 24).2 i) else nI (if (yr (I0 g) 24).2 i < goq g i then 1 else 0) := by
  unfold aGot
  rw [rg_nI (by omega), rg_nI (by omega), decide_eq_true hi, decide_eq_true hk, if_pos ⟨rfl, rfl⟩, cl_nI (by omega), cl_nI (by omega)]; rfl
theorem aSum_n {k : Nat} (hk : k < 2) : aSum g (nI k) = if k = 0 then nI (smN (yr (I0 g) 24).2 (gno g)) else nI (shN (I0 g)) := by
  unfold aSum
  rw [rg_nI (by omega), decide_eq_true hk, if_pos rfl, cl_nI (by omega)]; rfl
theorem aDrain_n {k : Nat} (hk : k < 2) : aDrain g (nI k) = if k = 0 then nI (amx (wat (I0 g)) 24) else nI (wat (I0 g) (amx (wat (I0 g)) 24)) := by
  unfold aDrain
  rw [rg_nI (by omega), decide_eq_true hk, if_pos rfl, cl_nI (by omega)]
theorem aIce_n {w k : Nat} (hw : w < 24) (hk : k < 2) : aIce g (nI w) (nI k) = if k = 0 then nI (icC (yr (I0 g) (w + 1)).1) else nI (wat (I0 g) w) := by
  unfold aIce
  rw [rg_nI (by omega), rg_nI (by omega), decide_eq_true hw, decide_eq_true hk, if_pos ⟨rfl, rfl⟩, cl_nI (by omega), cl_nI (by omega)]
theorem aFault_n {k : Nat} (hk : k < 2) : aFault g (nI k) = if k = 0 then ix (pB (t0 g) (n0 g)).1 else ix (fO (t1 g) (n1 g)) := by
  unfold aFault
  rw [rg_nI (by omega), decide_eq_true hk, if_pos rfl, cl_nI (by omega)]
theorem if01 {α : Type} {a b : α} : (if (1 : Nat) = 0 then a else b) = b := rfl
theorem if00 {α : Type} {a b : α} : (if (0 : Nat) = 0 then a else b) = a := rfl
set_option maxHeartbeats 1000000 in
theorem m_tcol (h : MF M g) (b : Int64) {c : Nat} (hc : c < 6) : Ct 193 [.ref 62, .long b, .int (nI c)] M (fun r N => r = some (.long (dCol g b c)) ∧ MF N g ∧ Lw M N) := by
  have hI : okI (I0 g) := h.LV.I
  have hB := bkC_ok (t0 g) (n0 g)
  generalize hQ : (fun (r : Option Value) (N : Mem) => r = some (.long (dCol g b c)) ∧ MF N g ∧ Lw M N) = Q
  have key : ∀ (n j : Nat) (N : Mem), j + n = 6 → MF N g → Lw M N → WP 193 [] 1 [some (.ref 62), some (.long b), none, some (.int (nI c)), some (.long (fo (dC1 g c) (mz b (aBare g (nI c))) j)), none, some (.int (nI j))] [] N Q := by
    intro n
    induction n with
    | zero =>
      intro j N hj hN hw
      obtain rfl : j = 6 := by omega
      rw [B_193_1]
      simp only [B_193_0, B_193_2, B_193_3, cm, r_iconst_p, r_iconst_m, r_bipush_p, r_bipush_m, r_sipush_p, r_sipush_m, r_ldc_p, r_ldc_m, r_ldc_w_p, r_ldc_w_m, r_lconst_p, r_lconst_m, r_ldc2_w_p, r_ldc2_w_m, r_iload, r_iload_n, r_lload, r_lload_n, r_aload, r_aload_n, r_istore, r_istore_n, r_astore, r_astore_n, r_lstore, r_lstore_n, r_iinc_p, r_iinc_m, r_iadd, r_isub, r_imul, r_iand, r_ior, r_ixor, r_ishl, r_ishr, r_iushr, r_idiv, r_irem, r_ladd, r_lsub, r_lmul, r_ldiv, r_lrem, r_lshl, r_lcmp, r_i2l, r_i2b, r_i2s, r_dup_i, r_dup_r, r_dup2_ii, r_dup2_ir, r_dup2_l, r_pop, r_getfield, r_putfield, r_iaload, r_iastore, r_aaload, r_arraylength, r_if_eq, r_icmp_eq, r_if_ne, r_icmp_ne, r_if_lt, r_icmp_lt, r_if_ge, r_icmp_ge, r_if_gt, r_icmp_gt, r_if_le, r_icmp_le, r_goto, r_switch, r_ireturn0, r_ireturn1, r_lreturn, r_areturn, r_return, r_inv0, r_inv1, r_inv2, r_inv3, r_inv4, r_inv5, r_min, r_max, r_acopy, onI_s, onL_s, onR_s, onO_s, fv0, fv1, fv2, fv3, fp1, fp20, fp21, fp3, tl_s, tl_n, lg0, lg1, lg2, lg3, lg4, lg5, lg6, lg7, lg8, lg9, lg10, lg11, lg12, lg13, lg14, lg15, lg16, lg17, ls0, ls1, ls2, ls3, ls4, ls5, ls6, ls7, ls8, ls9, ls10, ls11, ls12, ls13, ls14, ls15, ls16, ls17, lk0, lk1, lk2, lk3, lk4, lk5, lk6, lk7, lk8, lk9, lk10, lk11, lk12, lk13, lk14, lk15, lk16, lk17, kl_n, kl_i, kl_r, kl_l, Nat.reduceAdd, Nat.reduceLeDiff, not_false_eq_true, r_ins0, r_ins1, r_ins2, r_ins3, r_ins4, r_ins5]
      rw [brc_pos (Int32.le_refl _)]
      refine ⟨trivial, by simp, (m_lives hN).mono ?_⟩
      rintro r P ⟨rfl, hP, w1, hO⟩
      simp only [B_193_0, B_193_2, B_193_3, cm, s_columnBy hO hI (show 11 < 24 by omega) hc (show 0 < 2 by omega), s_columnBy hO hI (show 11 < 24 by omega) hc (show 1 < 2 by omega), mxd_f, r_iconst_p, r_iconst_m, r_bipush_p, r_bipush_m, r_sipush_p, r_sipush_m, r_ldc_p, r_ldc_m, r_ldc_w_p, r_ldc_w_m, r_lconst_p, r_lconst_m, r_ldc2_w_p, r_ldc2_w_m, r_iload, r_iload_n, r_lload, r_lload_n, r_aload, r_aload_n, r_istore, r_istore_n, r_astore, r_astore_n, r_lstore, r_lstore_n, r_iinc_p, r_iinc_m, r_iadd, r_isub, r_imul, r_iand, r_ior, r_ixor, r_ishl, r_ishr, r_iushr, r_idiv, r_irem, r_ladd, r_lsub, r_lmul, r_ldiv, r_lrem, r_lshl, r_lcmp, r_i2l, r_i2b, r_i2s, r_dup_i, r_dup_r, r_dup2_ii, r_dup2_ir, r_dup2_l, r_pop, r_getfield, r_putfield, r_iaload, r_iastore, r_aaload, r_arraylength, r_if_eq, r_icmp_eq, r_if_ne, r_icmp_ne, r_if_lt, r_icmp_lt, r_if_ge, r_icmp_ge, r_if_gt, r_icmp_gt, r_if_le, r_icmp_le, r_goto, r_switch, r_ireturn0, r_ireturn1, r_lreturn, r_areturn, r_return, r_inv0, r_inv1, r_inv2, r_inv3, r_inv4, r_inv5, r_min, r_max, r_acopy, onI_s, onL_s, onR_s, onO_s, fv0, fv1, fv2, fv3, fp1, fp20, fp21, fp3, tl_s, tl_n, lg0, lg1, lg2, lg3, lg4, lg5, lg6, lg7, lg8, lg9, lg10, lg11, lg12, lg13, lg14, lg15, lg16, lg17, ls0, ls1, ls2, ls3, ls4, ls5, ls6, ls7, ls8, ls9, ls10, ls11, ls12, ls13, ls14, ls15, ls16, ls17, lk0, lk1, lk2, lk3, lk4, lk5, lk6, lk7, lk8, lk9, lk10, lk11, lk12, lk13, lk14, lk15, lk16, lk17, kl_n, kl_i, kl_r, kl_l, Nat.reduceAdd, Nat.reduceLeDiff, not_false_eq_true, r_ins0, r_ins1, r_ins2, r_ins3, r_ins4, r_ins5]
      rw [← hQ]
      refine ⟨trivial, by simp, trivial, by simp, ?_, hP, hw.tr w1⟩
      unfold dCol
      rw [aColumn_n (by omega) hc (by omega), aColumn_n (by omega) hc (by omega)]
      simp only [if_true, if01]
    | succ n ih =>
      intro j N hj hN hw
      have hj6 : j < 6 := by omega
      have hv9 : (gB g c).getD j 0 ≤ 9 := getD_le (hB c).2 j
      have nx : ∀ (P : Mem), MF P g → Lw M P → WP 193 [] 2 [some (.ref 62), some (.long b), none, some (.int (nI c)), some (.long (fo (dC1 g c) (mz b (aBare g (nI c))) (j + 1))), none, some (.int (nI j))] [] P Q := by
        intro P hP w1
        simp only [B_193_0, B_193_2, B_193_3, cm, q_add, r_iconst_p, r_iconst_m, r_bipush_p, r_bipush_m, r_sipush_p, r_sipush_m, r_ldc_p, r_ldc_m, r_ldc_w_p, r_ldc_w_m, r_lconst_p, r_lconst_m, r_ldc2_w_p, r_ldc2_w_m, r_iload, r_iload_n, r_lload, r_lload_n, r_aload, r_aload_n, r_istore, r_istore_n, r_astore, r_astore_n, r_lstore, r_lstore_n, r_iinc_p, r_iinc_m, r_iadd, r_isub, r_imul, r_iand, r_ior, r_ixor, r_ishl, r_ishr, r_iushr, r_idiv, r_irem, r_ladd, r_lsub, r_lmul, r_ldiv, r_lrem, r_lshl, r_lcmp, r_i2l, r_i2b, r_i2s, r_dup_i, r_dup_r, r_dup2_ii, r_dup2_ir, r_dup2_l, r_pop, r_getfield, r_putfield, r_iaload, r_iastore, r_aaload, r_arraylength, r_if_eq, r_icmp_eq, r_if_ne, r_icmp_ne, r_if_lt, r_icmp_lt, r_if_ge, r_icmp_ge, r_if_gt, r_icmp_gt, r_if_le, r_icmp_le, r_goto, r_switch, r_ireturn0, r_ireturn1, r_lreturn, r_areturn, r_return, r_inv0, r_inv1, r_inv2, r_inv3, r_inv4, r_inv5, r_min, r_max, r_acopy, onI_s, onL_s, onR_s, onO_s, fv0, fv1, fv2, fv3, fp1, fp20, fp21, fp3, tl_s, tl_n, lg0, lg1, lg2, lg3, lg4, lg5, lg6, lg7, lg8, lg9, lg10, lg11, lg12, lg13, lg14, lg15, lg16, lg17, ls0, ls1, ls2, ls3, ls4, ls5, ls6, ls7, ls8, ls9, ls10, ls11, ls12, ls13, ls14, ls15, ls16, ls17, lk0, lk1, lk2, lk3, lk4, lk5, lk6, lk7, lk8, lk9, lk10, lk11, lk12, lk13, lk14, lk15, lk16, lk17, kl_n, kl_i, kl_r, kl_l, Nat.reduceAdd, Nat.reduceLeDiff, not_false_eq_true, r_ins0, r_ins1, r_ins2, r_ins3, r_ins4, r_ins5]
        exact ih (j + 1) P (by omega) hP w1
      have ef : fo (dC1 g c) (mz b (aBare g (nI c))) (j + 1) = dC1 g c (fo (dC1 g c) (mz b (aBare g (nI c))) j) j := rfl
      rw [ef] at nx
      generalize fo (dC1 g c) (mz b (aBare g (nI c))) j = y at *
      unfold dC1 at nx
      rw [aTold_n hc hj6, aBlock_n (by omega) hc hj6] at nx
      rw [B_193_1]
      simp only [B_193_0, cm, r_iconst_p, r_iconst_m, r_bipush_p, r_bipush_m, r_sipush_p, r_sipush_m, r_ldc_p, r_ldc_m, r_ldc_w_p, r_ldc_w_m, r_lconst_p, r_lconst_m, r_ldc2_w_p, r_ldc2_w_m, r_iload, r_iload_n, r_lload, r_lload_n, r_aload, r_aload_n, r_istore, r_istore_n, r_astore, r_astore_n, r_lstore, r_lstore_n, r_iinc_p, r_iinc_m, r_iadd, r_isub, r_imul, r_iand, r_ior, r_ixor, r_ishl, r_ishr, r_iushr, r_idiv, r_irem, r_ladd, r_lsub, r_lmul, r_ldiv, r_lrem, r_lshl, r_lcmp, r_i2l, r_i2b, r_i2s, r_dup_i, r_dup_r, r_dup2_ii, r_dup2_ir, r_dup2_l, r_pop, r_getfield, r_putfield, r_iaload, r_iastore, r_aaload, r_arraylength, r_if_eq, r_icmp_eq, r_if_ne, r_icmp_ne, r_if_lt, r_icmp_lt, r_if_ge, r_icmp_ge, r_if_gt, r_icmp_gt, r_if_le, r_icmp_le, r_goto, r_switch, r_ireturn0, r_ireturn1, r_lreturn, r_areturn, r_return, r_inv0, r_inv1, r_inv2, r_inv3, r_inv4, r_inv5, r_min, r_max, r_acopy, onI_s, onL_s, onR_s, onO_s, fv0, fv1, fv2, fv3, fp1, fp20, fp21, fp3, tl_s, tl_n, lg0, lg1, lg2, lg3, lg4, lg5, lg6, lg7, lg8, lg9, lg10, lg11, lg12, lg13, lg14, lg15, lg16, lg17, ls0, ls1, ls2, ls3, ls4, ls5, ls6, ls7, ls8, ls9, ls10, ls11, ls12, ls13, ls14, ls15, ls16, ls17, lk0, lk1, lk2, lk3, lk4, lk5, lk6, lk7, lk8, lk9, lk10, lk11, lk12, lk13, lk14, lk15, lk16, lk17, kl_n, kl_i, kl_r, kl_l, Nat.reduceAdd, Nat.reduceLeDiff, not_false_eq_true, r_ins0, r_ins1, r_ins2, r_ins3, r_ins4, r_ins5]
      rw [brc_neg (nI_ge (by omega) (by omega))]
      refine ⟨trivial, by simp, (m_lives hN).mono ?_⟩
      rintro r P ⟨rfl, hP, w1, hO⟩
      have hbk : P 78 (144 + 6 * c + j) = nI (((yr (I0 g) (4 + 1)).1 c).getD j 0) := by
        have := hO.2.1 (144 + 6 * c + j) (by omega)
        rw [show (144 + 6 * c + j) / 36 = 4 by omega, show (144 + 6 * c + j) / 6 % 6 = c by omega, show (144 + 6 * c + j) % 6 = j by omega] at this
        exact this
      simp only [B_193_0, cm, s_toldAt hP.2.1 hB hc hj6, q_mul, q_add, nI_clamp (show 144 + 6 * c + j < 2 ^ 31 by omega), hbk, mxd_f, r_iconst_p, r_iconst_m, r_bipush_p, r_bipush_m, r_sipush_p, r_sipush_m, r_ldc_p, r_ldc_m, r_ldc_w_p, r_ldc_w_m, r_lconst_p, r_lconst_m, r_ldc2_w_p, r_ldc2_w_m, r_iload, r_iload_n, r_lload, r_lload_n, r_aload, r_aload_n, r_istore, r_istore_n, r_astore, r_astore_n, r_lstore, r_lstore_n, r_iinc_p, r_iinc_m, r_iadd, r_isub, r_imul, r_iand, r_ior, r_ixor, r_ishl, r_ishr, r_iushr, r_idiv, r_irem, r_ladd, r_lsub, r_lmul, r_ldiv, r_lrem, r_lshl, r_lcmp, r_i2l, r_i2b, r_i2s, r_dup_i, r_dup_r, r_dup2_ii, r_dup2_ir, r_dup2_l, r_pop, r_getfield, r_putfield, r_iaload, r_iastore, r_aaload, r_arraylength, r_if_eq, r_icmp_eq, r_if_ne, r_icmp_ne, r_if_lt, r_icmp_lt, r_if_ge, r_icmp_ge, r_if_gt, r_icmp_gt, r_if_le, r_icmp_le, r_goto, r_switch, r_ireturn0, r_ireturn1, r_lreturn, r_areturn, r_return, r_inv0, r_inv1, r_inv2, r_inv3, r_inv4, r_inv5, r_min, r_max, r_acopy, onI_s, onL_s, onR_s, onO_s, fv0, fv1, fv2, fv3, fp1, fp20, fp21, fp3, tl_s, tl_n, lg0, lg1, lg2, lg3, lg4, lg5, lg6, lg7, lg8, lg9, lg10, lg11, lg12, lg13, lg14, lg15, lg16, lg17, ls0, ls1, ls2, ls3, ls4, ls5, ls6, ls7, ls8, ls9, ls10, ls11, ls12, ls13, ls14, ls15, ls16, ls17, lk0, lk1, lk2, lk3, lk4, lk5, lk6, lk7, lk8, lk9, lk10, lk11, lk12, lk13, lk14, lk15, lk16, lk17, kl_n, kl_i, kl_r, kl_l, Nat.reduceAdd, Nat.reduceLeDiff, not_false_eq_true, r_ins0, r_ins1, r_ins2, r_ins3, r_ins4, r_ins5]
      rw [inb_n (n := 864) rfl (by omega) (by omega), q_le (by omega) (by omega)]
      refine ⟨trivial, by simp, by omega, trivial, by simp, ?_⟩
      by_cases hb : j < (gB g c).length
      · have hp : 1 ≤ (gB g c).getD j 0 := getD_pos (hB c).2 hb
        rw [brc_neg (by omega)]
        rw [if_pos hb] at nx
        refine ⟨trivial, by simp, (m_sizeOf hP hc hb).mono ?_⟩
        rintro r P2 ⟨rfl, hP2, w2, -⟩
        simp only [B_193_0, cm, mxd_f, r_iconst_p, r_iconst_m, r_bipush_p, r_bipush_m, r_sipush_p, r_sipush_m, r_ldc_p, r_ldc_m, r_ldc_w_p, r_ldc_w_m, r_lconst_p, r_lconst_m, r_ldc2_w_p, r_ldc2_w_m, r_iload, r_iload_n, r_lload, r_lload_n, r_aload, r_aload_n, r_istore, r_istore_n, r_astore, r_astore_n, r_lstore, r_lstore_n, r_iinc_p, r_iinc_m, r_iadd, r_isub, r_imul, r_iand, r_ior, r_ixor, r_ishl, r_ishr, r_iushr, r_idiv, r_irem, r_ladd, r_lsub, r_lmul, r_ldiv, r_lrem, r_lshl, r_lcmp, r_i2l, r_i2b, r_i2s, r_dup_i, r_dup_r, r_dup2_ii, r_dup2_ir, r_dup2_l, r_pop, r_getfield, r_putfield, r_iaload, r_iastore, r_aaload, r_arraylength, r_if_eq, r_icmp_eq, r_if_ne, r_icmp_ne, r_if_lt, r_icmp_lt, r_if_ge, r_icmp_ge, r_if_gt, r_icmp_gt, r_if_le, r_icmp_le, r_goto, r_switch, r_ireturn0, r_ireturn1, r_lreturn, r_areturn, r_return, r_inv0, r_inv1, r_inv2, r_inv3, r_inv4, r_inv5, r_min, r_max, r_acopy, onI_s, onL_s, onR_s, onO_s, fv0, fv1, fv2, fv3, fp1, fp20, fp21, fp3, tl_s, tl_n, lg0, lg1, lg2, lg3, lg4, lg5, lg6, lg7, lg8, lg9, lg10, lg11, lg12, lg13, lg14, lg15, lg16, lg17, ls0, ls1, ls2, ls3, ls4, ls5, ls6, ls7, ls8, ls9, ls10, ls11, ls12, ls13, ls14, ls15, ls16, ls17, lk0, lk1, lk2, lk3, lk4, lk5, lk6, lk7, lk8, lk9, lk10, lk11, lk12, lk13, lk14, lk15, lk16, lk17, kl_n, kl_i, kl_r, kl_l, Nat.reduceAdd, Nat.reduceLeDiff, not_false_eq_true, r_ins0, r_ins1, r_ins2, r_ins3, r_ins4, r_ins5]
        refine ⟨trivial, by simp, (m_askOf hP2 hc hb).mono ?_⟩
        rintro r P3 ⟨rfl, hP3, w3⟩
        simp only [B_193_0, cm, mxd_f, r_iconst_p, r_iconst_m, r_bipush_p, r_bipush_m, r_sipush_p, r_sipush_m, r_ldc_p, r_ldc_m, r_ldc_w_p, r_ldc_w_m, r_lconst_p, r_lconst_m, r_ldc2_w_p, r_ldc2_w_m, r_iload, r_iload_n, r_lload, r_lload_n, r_aload, r_aload_n, r_istore, r_istore_n, r_astore, r_astore_n, r_lstore, r_lstore_n, r_iinc_p, r_iinc_m, r_iadd, r_isub, r_imul, r_iand, r_ior, r_ixor, r_ishl, r_ishr, r_iushr, r_idiv, r_irem, r_ladd, r_lsub, r_lmul, r_ldiv, r_lrem, r_lshl, r_lcmp, r_i2l, r_i2b, r_i2s, r_dup_i, r_dup_r, r_dup2_ii, r_dup2_ir, r_dup2_l, r_pop, r_getfield, r_putfield, r_iaload, r_iastore, r_aaload, r_arraylength, r_if_eq, r_icmp_eq, r_if_ne, r_icmp_ne, r_if_lt, r_icmp_lt, r_if_ge, r_icmp_ge, r_if_gt, r_icmp_gt, r_if_le, r_icmp_le, r_goto, r_switch, r_ireturn0, r_ireturn1, r_lreturn, r_areturn, r_return, r_inv0, r_inv1, r_inv2, r_inv3, r_inv4, r_inv5, r_min, r_max, r_acopy, onI_s, onL_s, onR_s, onO_s, fv0, fv1, fv2, fv3, fp1, fp20, fp21, fp3, tl_s, tl_n, lg0, lg1, lg2, lg3, lg4, lg5, lg6, lg7, lg8, lg9, lg10, lg11, lg12, lg13, lg14, lg15, lg16, lg17, ls0, ls1, ls2, ls3, ls4, ls5, ls6, ls7, ls8, ls9, ls10, ls11, ls12, ls13, ls14, ls15, ls16, ls17, lk0, lk1, lk2, lk3, lk4, lk5, lk6, lk7, lk8, lk9, lk10, lk11, lk12, lk13, lk14, lk15, lk16, lk17, kl_n, kl_i, kl_r, kl_l, Nat.reduceAdd, Nat.reduceLeDiff, not_false_eq_true, r_ins0, r_ins1, r_ins2, r_ins3, r_ins4, r_ins5]
        exact nx P3 hP3 (((hw.tr w1).tr w2).tr w3)
      · have hp : (gB g c).getD j 0 = 0 := by rw [List.getD_eq_getElem?_getD, List.getElem?_eq_none (by omega)]; rfl
        rw [brc_pos (by omega)]
        rw [if_neg hb] at nx
        exact nx P hP (hw.tr w1)
  simp only [E_193, B_193_0, B_193_2, B_193_3, cm, r_iconst_p, r_iconst_m, r_bipush_p, r_bipush_m, r_sipush_p, r_sipush_m, r_ldc_p, r_ldc_m, r_ldc_w_p, r_ldc_w_m, r_lconst_p, r_lconst_m, r_ldc2_w_p, r_ldc2_w_m, r_iload, r_iload_n, r_lload, r_lload_n, r_aload, r_aload_n, r_istore, r_istore_n, r_astore, r_astore_n, r_lstore, r_lstore_n, r_iinc_p, r_iinc_m, r_iadd, r_isub, r_imul, r_iand, r_ior, r_ixor, r_ishl, r_ishr, r_iushr, r_idiv, r_irem, r_ladd, r_lsub, r_lmul, r_ldiv, r_lrem, r_lshl, r_lcmp, r_i2l, r_i2b, r_i2s, r_dup_i, r_dup_r, r_dup2_ii, r_dup2_ir, r_dup2_l, r_pop, r_getfield, r_putfield, r_iaload, r_iastore, r_aaload, r_arraylength, r_if_eq, r_icmp_eq, r_if_ne, r_icmp_ne, r_if_lt, r_icmp_lt, r_if_ge, r_icmp_ge, r_if_gt, r_icmp_gt, r_if_le, r_icmp_le, r_goto, r_switch, r_ireturn0, r_ireturn1, r_lreturn, r_areturn, r_return, r_inv0, r_inv1, r_inv2, r_inv3, r_inv4, r_inv5, r_min, r_max, r_acopy, onI_s, onL_s, onR_s, onO_s, fv0, fv1, fv2, fv3, fp1, fp20, fp21, fp3, tl_s, tl_n, lg0, lg1, lg2, lg3, lg4, lg5, lg6, lg7, lg8, lg9, lg10, lg11, lg12, lg13, lg14, lg15, lg16, lg17, ls0, ls1, ls2, ls3, ls4, ls5, ls6, ls7, ls8, ls9, ls10, ls11, ls12, ls13, ls14, ls15, ls16, ls17, lk0, lk1, lk2, lk3, lk4, lk5, lk6, lk7, lk8, lk9, lk10, lk11, lk12, lk13, lk14, lk15, lk16, lk17, kl_n, kl_i, kl_r, kl_l, Nat.reduceAdd, Nat.reduceLeDiff, not_false_eq_true, r_ins0, r_ins1, r_ins2, r_ins3, r_ins4, r_ins5]
  refine ⟨trivial, by simp, (m_lives h).mono ?_⟩
  rintro r N ⟨rfl, hN, hw, hO⟩
  simp only [B_193_0, B_193_2, B_193_3, cm, s_bareOf hO hI hc, mxd_f, r_iconst_p, r_iconst_m, r_bipush_p, r_bipush_m, r_sipush_p, r_sipush_m, r_ldc_p, r_ldc_m, r_ldc_w_p, r_ldc_w_m, r_lconst_p, r_lconst_m, r_ldc2_w_p, r_ldc2_w_m, r_iload, r_iload_n, r_lload, r_lload_n, r_aload, r_aload_n, r_istore, r_istore_n, r_astore, r_astore_n, r_lstore, r_lstore_n, r_iinc_p, r_iinc_m, r_iadd, r_isub, r_imul, r_iand, r_ior, r_ixor, r_ishl, r_ishr, r_iushr, r_idiv, r_irem, r_ladd, r_lsub, r_lmul, r_ldiv, r_lrem, r_lshl, r_lcmp, r_i2l, r_i2b, r_i2s, r_dup_i, r_dup_r, r_dup2_ii, r_dup2_ir, r_dup2_l, r_pop, r_getfield, r_putfield, r_iaload, r_iastore, r_aaload, r_arraylength, r_if_eq, r_icmp_eq, r_if_ne, r_icmp_ne, r_if_lt, r_icmp_lt, r_if_ge, r_icmp_ge, r_if_gt, r_icmp_gt, r_if_le, r_icmp_le, r_goto, r_switch, r_ireturn0, r_ireturn1, r_lreturn, r_areturn, r_return, r_inv0, r_inv1, r_inv2, r_inv3, r_inv4, r_inv5, r_min, r_max, r_acopy, onI_s, onL_s, onR_s, onO_s, fv0, fv1, fv2, fv3, fp1, fp20, fp21, fp3, tl_s, tl_n, lg0, lg1, lg2, lg3, lg4, lg5, lg6, lg7, lg8, lg9, lg10, lg11, lg12, lg13, lg14, lg15, lg16, lg17, ls0, ls1, ls2, ls3, ls4, ls5, ls6, ls7, ls8, ls9, ls10, ls11, ls12, ls13, ls14, ls15, ls16, ls17, lk0, lk1, lk2, lk3, lk4, lk5, lk6, lk7, lk8, lk9, lk10, lk11, lk12, lk13, lk14, lk15, lk16, lk17, kl_n, kl_i, kl_r, kl_l, Nat.reduceAdd, Nat.reduceLeDiff, not_false_eq_true, r_ins0, r_ins1, r_ins2, r_ins3, r_ins4, r_ins5]
  have e := key 6 0 N (by omega) hN hw
  rw [fo_0, aBare_n hc] at e
  exact ⟨trivial, by simp, e⟩
set_option maxHeartbeats 1000000 in
theorem m_tord (h : MF M g) (b : Int64) {i : Nat} (hi : i < gno g) : Ct 194 [.ref 62, .long b, .int (nI i)] M (fun r N => r = some (.long (dOrd g b i)) ∧ MF N g ∧ Lw M N) := by
  have hI : okI (I0 g) := h.LV.I
  have hno := h.LV.2.2.2.1
  simp only [E_194, B_194_0, cm, r_iconst_p, r_iconst_m, r_bipush_p, r_bipush_m, r_sipush_p, r_sipush_m, r_ldc_p, r_ldc_m, r_ldc_w_p, r_ldc_w_m, r_lconst_p, r_lconst_m, r_ldc2_w_p, r_ldc2_w_m, r_iload, r_iload_n, r_lload, r_lload_n, r_aload, r_aload_n, r_istore, r_istore_n, r_astore, r_astore_n, r_lstore, r_lstore_n, r_iinc_p, r_iinc_m, r_iadd, r_isub, r_imul, r_iand, r_ior, r_ixor, r_ishl, r_ishr, r_iushr, r_idiv, r_irem, r_ladd, r_lsub, r_lmul, r_ldiv, r_lrem, r_lshl, r_lcmp, r_i2l, r_i2b, r_i2s, r_dup_i, r_dup_r, r_dup2_ii, r_dup2_ir, r_dup2_l, r_pop, r_getfield, r_putfield, r_iaload, r_iastore, r_aaload, r_arraylength, r_if_eq, r_icmp_eq, r_if_ne, r_icmp_ne, r_if_lt, r_icmp_lt, r_if_ge, r_icmp_ge, r_if_gt, r_icmp_gt, r_if_le, r_icmp_le, r_goto, r_switch, r_ireturn0, r_ireturn1, r_lreturn, r_areturn, r_return, r_inv0, r_inv1, r_inv2, r_inv3, r_inv4, r_inv5, r_min, r_max, r_acopy, onI_s, onL_s, onR_s, onO_s, fv0, fv1, fv2, fv3, fp1, fp20, fp21, fp3, tl_s, tl_n, lg0, lg1, lg2, lg3, lg4, lg5, lg6, lg7, lg8, lg9, lg10, lg11, lg12, lg13, lg14, lg15, lg16, lg17, ls0, ls1, ls2, ls3, ls4, ls5, ls6, ls7, ls8, ls9, ls10, ls11, ls12, ls13, ls14, ls15, ls16, ls17, lk0, lk1, lk2, lk3, lk4, lk5, lk6, lk7, lk8, lk9, lk10, lk11, lk12, lk13, lk14, lk15, lk16, lk17, kl_n, kl_i, kl_r, kl_l, Nat.reduceAdd, Nat.reduceLeDiff, not_false_eq_true, r_ins0, r_ins1, r_ins2, r_ins3, r_ins4, r_ins5]
  refine ⟨trivial, by simp, (m_lives h).mono ?_⟩
  rintro r N ⟨rfl, hN, w1, hO⟩
  have hR := hN.2.2
  have o1 := (hR.2 i hi).1
  have o2 := (hR.2 i hi).2
  simp only [B_194_0, cm, q_mul, q_add, nI_clamp (show 2 * i < 2 ^ 31 by omega), nI_clamp (show 2 * i + 1 < 2 ^ 31 by omega), o1, o2, s_gotBy hO hI hR rfl hi hno (show 0 < 2 by omega), s_gotBy hO hI hR rfl hi hno (show 1 < 2 by omega), mxd_f, r_iconst_p, r_iconst_m, r_bipush_p, r_bipush_m, r_sipush_p, r_sipush_m, r_ldc_p, r_ldc_m, r_ldc_w_p, r_ldc_w_m, r_lconst_p, r_lconst_m, r_ldc2_w_p, r_ldc2_w_m, r_iload, r_iload_n, r_lload, r_lload_n, r_aload, r_aload_n, r_istore, r_istore_n, r_astore, r_astore_n, r_lstore, r_lstore_n, r_iinc_p, r_iinc_m, r_iadd, r_isub, r_imul, r_iand, r_ior, r_ixor, r_ishl, r_ishr, r_iushr, r_idiv, r_irem, r_ladd, r_lsub, r_lmul, r_ldiv, r_lrem, r_lshl, r_lcmp, r_i2l, r_i2b, r_i2s, r_dup_i, r_dup_r, r_dup2_ii, r_dup2_ir, r_dup2_l, r_pop, r_getfield, r_putfield, r_iaload, r_iastore, r_aaload, r_arraylength, r_if_eq, r_icmp_eq, r_if_ne, r_icmp_ne, r_if_lt, r_icmp_lt, r_if_ge, r_icmp_ge, r_if_gt, r_icmp_gt, r_if_le, r_icmp_le, r_goto, r_switch, r_ireturn0, r_ireturn1, r_lreturn, r_areturn, r_return, r_inv0, r_inv1, r_inv2, r_inv3, r_inv4, r_inv5, r_min, r_max, r_acopy, onI_s, onL_s, onR_s, onO_s, fv0, fv1, fv2, fv3, fp1, fp20, fp21, fp3, tl_s, tl_n, lg0, lg1, lg2, lg3, lg4, lg5, lg6, lg7, lg8, lg9, lg10, lg11, lg12, lg13, lg14, lg15, lg16, lg17, ls0, ls1, ls2, ls3, ls4, ls5, ls6, ls7, ls8, ls9, ls10, ls11, ls12, ls13, ls14, ls15, ls16, ls17, lk0, lk1, lk2, lk3, lk4, lk5, lk6, lk7, lk8, lk9, lk10, lk11, lk12, lk13, lk14, lk15, lk16, lk17, kl_n, kl_i, kl_r, kl_l, Nat.reduceAdd, Nat.reduceLeDiff, not_false_eq_true, r_ins0, r_ins1, r_ins2, r_ins3, r_ins4, r_ins5]
  rw [inb_n (n := 24) rfl (by omega) (by omega), inb_n (n := 24) rfl (by omega) (by omega)]
  refine ⟨by omega, by omega, trivial, by simp, trivial, by simp, trivial, by simp, (m_laterOf hN hi (show 0 < 2 by omega)).mono ?_⟩
  rintro r N2 ⟨rfl, h2, w2⟩
  simp only [B_194_0, cm, mxd_f, r_iconst_p, r_iconst_m, r_bipush_p, r_bipush_m, r_sipush_p, r_sipush_m, r_ldc_p, r_ldc_m, r_ldc_w_p, r_ldc_w_m, r_lconst_p, r_lconst_m, r_ldc2_w_p, r_ldc2_w_m, r_iload, r_iload_n, r_lload, r_lload_n, r_aload, r_aload_n, r_istore, r_istore_n, r_astore, r_astore_n, r_lstore, r_lstore_n, r_iinc_p, r_iinc_m, r_iadd, r_isub, r_imul, r_iand, r_ior, r_ixor, r_ishl, r_ishr, r_iushr, r_idiv, r_irem, r_ladd, r_lsub, r_lmul, r_ldiv, r_lrem, r_lshl, r_lcmp, r_i2l, r_i2b, r_i2s, r_dup_i, r_dup_r, r_dup2_ii, r_dup2_ir, r_dup2_l, r_pop, r_getfield, r_putfield, r_iaload, r_iastore, r_aaload, r_arraylength, r_if_eq, r_icmp_eq, r_if_ne, r_icmp_ne, r_if_lt, r_icmp_lt, r_if_ge, r_icmp_ge, r_if_gt, r_icmp_gt, r_if_le, r_icmp_le, r_goto, r_switch, r_ireturn0, r_ireturn1, r_lreturn, r_areturn, r_return, r_inv0, r_inv1, r_inv2, r_inv3, r_inv4, r_inv5, r_min, r_max, r_acopy, onI_s, onL_s, onR_s, onO_s, fv0, fv1, fv2, fv3, fp1, fp20, fp21, fp3, tl_s, tl_n, lg0, lg1, lg2, lg3, lg4, lg5, lg6, lg7, lg8, lg9, lg10, lg11, lg12, lg13, lg14, lg15, lg16, lg17, ls0, ls1, ls2, ls3, ls4, ls5, ls6, ls7, ls8, ls9, ls10, ls11, ls12, ls13, ls14, ls15, ls16, ls17, lk0, lk1, lk2, lk3, lk4, lk5, lk6, lk7, lk8, lk9, lk10, lk11, lk12, lk13, lk14, lk15, lk16, lk17, kl_n, kl_i, kl_r, kl_l, Nat.reduceAdd, Nat.reduceLeDiff, not_false_eq_true, r_ins0, r_ins1, r_ins2, r_ins3, r_ins4, r_ins5]
  refine ⟨trivial, by simp, (m_laterOf h2 hi (show 1 < 2 by omega)).mono ?_⟩
  rintro r N3 ⟨rfl, h3, w3⟩
  simp only [B_194_0, cm, mxd_f, r_iconst_p, r_iconst_m, r_bipush_p, r_bipush_m, r_sipush_p, r_sipush_m, r_ldc_p, r_ldc_m, r_ldc_w_p, r_ldc_w_m, r_lconst_p, r_lconst_m, r_ldc2_w_p, r_ldc2_w_m, r_iload, r_iload_n, r_lload, r_lload_n, r_aload, r_aload_n, r_istore, r_istore_n, r_astore, r_astore_n, r_lstore, r_lstore_n, r_iinc_p, r_iinc_m, r_iadd, r_isub, r_imul, r_iand, r_ior, r_ixor, r_ishl, r_ishr, r_iushr, r_idiv, r_irem, r_ladd, r_lsub, r_lmul, r_ldiv, r_lrem, r_lshl, r_lcmp, r_i2l, r_i2b, r_i2s, r_dup_i, r_dup_r, r_dup2_ii, r_dup2_ir, r_dup2_l, r_pop, r_getfield, r_putfield, r_iaload, r_iastore, r_aaload, r_arraylength, r_if_eq, r_icmp_eq, r_if_ne, r_icmp_ne, r_if_lt, r_icmp_lt, r_if_ge, r_icmp_ge, r_if_gt, r_icmp_gt, r_if_le, r_icmp_le, r_goto, r_switch, r_ireturn0, r_ireturn1, r_lreturn, r_areturn, r_return, r_inv0, r_inv1, r_inv2, r_inv3, r_inv4, r_inv5, r_min, r_max, r_acopy, onI_s, onL_s, onR_s, onO_s, fv0, fv1, fv2, fv3, fp1, fp20, fp21, fp3, tl_s, tl_n, lg0, lg1, lg2, lg3, lg4, lg5, lg6, lg7, lg8, lg9, lg10, lg11, lg12, lg13, lg14, lg15, lg16, lg17, ls0, ls1, ls2, ls3, ls4, ls5, ls6, ls7, ls8, ls9, ls10, ls11, ls12, ls13, ls14, ls15, ls16, ls17, lk0, lk1, lk2, lk3, lk4, lk5, lk6, lk7, lk8, lk9, lk10, lk11, lk12, lk13, lk14, lk15, lk16, lk17, kl_n, kl_i, kl_r, kl_l, Nat.reduceAdd, Nat.reduceLeDiff, not_false_eq_true, r_ins0, r_ins1, r_ins2, r_ins3, r_ins4, r_ins5]
  refine ⟨trivial, by simp, (m_chanceOf h3 (show 5 ≤ 16 by omega) hi (show 0 < 2 by omega)).mono ?_⟩
  rintro r N4 ⟨rfl, h4, w4⟩
  simp only [B_194_0, cm, mxd_f, r_iconst_p, r_iconst_m, r_bipush_p, r_bipush_m, r_sipush_p, r_sipush_m, r_ldc_p, r_ldc_m, r_ldc_w_p, r_ldc_w_m, r_lconst_p, r_lconst_m, r_ldc2_w_p, r_ldc2_w_m, r_iload, r_iload_n, r_lload, r_lload_n, r_aload, r_aload_n, r_istore, r_istore_n, r_astore, r_astore_n, r_lstore, r_lstore_n, r_iinc_p, r_iinc_m, r_iadd, r_isub, r_imul, r_iand, r_ior, r_ixor, r_ishl, r_ishr, r_iushr, r_idiv, r_irem, r_ladd, r_lsub, r_lmul, r_ldiv, r_lrem, r_lshl, r_lcmp, r_i2l, r_i2b, r_i2s, r_dup_i, r_dup_r, r_dup2_ii, r_dup2_ir, r_dup2_l, r_pop, r_getfield, r_putfield, r_iaload, r_iastore, r_aaload, r_arraylength, r_if_eq, r_icmp_eq, r_if_ne, r_icmp_ne, r_if_lt, r_icmp_lt, r_if_ge, r_icmp_ge, r_if_gt, r_icmp_gt, r_if_le, r_icmp_le, r_goto, r_switch, r_ireturn0, r_ireturn1, r_lreturn, r_areturn, r_return, r_inv0, r_inv1, r_inv2, r_inv3, r_inv4, r_inv5, r_min, r_max, r_acopy, onI_s, onL_s, onR_s, onO_s, fv0, fv1, fv2, fv3, fp1, fp20, fp21, fp3, tl_s, tl_n, lg0, lg1, lg2, lg3, lg4, lg5, lg6, lg7, lg8, lg9, lg10, lg11, lg12, lg13, lg14, lg15, lg16, lg17, ls0, ls1, ls2, ls3, ls4, ls5, ls6, ls7, ls8, ls9, ls10, ls11, ls12, ls13, ls14, ls15, ls16, ls17, lk0, lk1, lk2, lk3, lk4, lk5, lk6, lk7, lk8, lk9, lk10, lk11, lk12, lk13, lk14, lk15, lk16, lk17, kl_n, kl_i, kl_r, kl_l, Nat.reduceAdd, Nat.reduceLeDiff, not_false_eq_true, r_ins0, r_ins1, r_ins2, r_ins3, r_ins4, r_ins5]
  refine ⟨trivial, by simp, (m_chanceOf h4 (show 5 ≤ 16 by omega) hi (show 1 < 2 by omega)).mono ?_⟩
  rintro r N5 ⟨rfl, h5, w5⟩
  simp only [B_194_0, cm, mxd_f, r_iconst_p, r_iconst_m, r_bipush_p, r_bipush_m, r_sipush_p, r_sipush_m, r_ldc_p, r_ldc_m, r_ldc_w_p, r_ldc_w_m, r_lconst_p, r_lconst_m, r_ldc2_w_p, r_ldc2_w_m, r_iload, r_iload_n, r_lload, r_lload_n, r_aload, r_aload_n, r_istore, r_istore_n, r_astore, r_astore_n, r_lstore, r_lstore_n, r_iinc_p, r_iinc_m, r_iadd, r_isub, r_imul, r_iand, r_ior, r_ixor, r_ishl, r_ishr, r_iushr, r_idiv, r_irem, r_ladd, r_lsub, r_lmul, r_ldiv, r_lrem, r_lshl, r_lcmp, r_i2l, r_i2b, r_i2s, r_dup_i, r_dup_r, r_dup2_ii, r_dup2_ir, r_dup2_l, r_pop, r_getfield, r_putfield, r_iaload, r_iastore, r_aaload, r_arraylength, r_if_eq, r_icmp_eq, r_if_ne, r_icmp_ne, r_if_lt, r_icmp_lt, r_if_ge, r_icmp_ge, r_if_gt, r_icmp_gt, r_if_le, r_icmp_le, r_goto, r_switch, r_ireturn0, r_ireturn1, r_lreturn, r_areturn, r_return, r_inv0, r_inv1, r_inv2, r_inv3, r_inv4, r_inv5, r_min, r_max, r_acopy, onI_s, onL_s, onR_s, onO_s, fv0, fv1, fv2, fv3, fp1, fp20, fp21, fp3, tl_s, tl_n, lg0, lg1, lg2, lg3, lg4, lg5, lg6, lg7, lg8, lg9, lg10, lg11, lg12, lg13, lg14, lg15, lg16, lg17, ls0, ls1, ls2, ls3, ls4, ls5, ls6, ls7, ls8, ls9, ls10, ls11, ls12, ls13, ls14, ls15, ls16, ls17, lk0, lk1, lk2, lk3, lk4, lk5, lk6, lk7, lk8, lk9, lk10, lk11, lk12, lk13, lk14, lk15, lk16, lk17, kl_n, kl_i, kl_r, kl_l, Nat.reduceAdd, Nat.reduceLeDiff, not_false_eq_true, r_ins0, r_ins1, r_ins2, r_ins3, r_ins4, r_ins5]
  refine ⟨?_, h5, (((w1.tr w2).tr w3).tr w4).tr w5⟩
  unfold dOrd
  rw [aOrder_n hi hno (by omega), aOrder_n hi hno (by omega), aGot_n hi hno (by omega), aGot_n hi hno (by omega)]
  simp only [if_true, if01]
end RW
