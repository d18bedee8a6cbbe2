/-! Plans: sizes, ask -/
def setb (B : Col) (c h v : Nat) : Col := setc B c ((B c).set h v)
theorem setb_ok {B : Col} (hB : okC6 B) (c : Nat) {h v : Nat} (hv : 1 ≤ v ∧ v ≤ 9) : okC6 (setb B c h v) := by
  refine okC6_set hB ⟨by rw [List.length_set]; exact (hB c).1, fun x hx => ?_⟩
  rcases List.mem_or_eq_of_mem_set hx with q | q
  · exact (hB c).2 x q
  · exact q ▸ hv
theorem RS_setb {N : Mem} {B : Col} {c h v : Nat} (H : RS N 23 24 B) (hc : c < 6) (hh : h < (B c).length) (h6 : h < 6) : RS (stM N 23 (c * 6 + h) (nI v)) 23 24 (setb B c h v) := by
  intro d hd
  rw [sm_ne (show ¬ 24 = 23 by decide), sm_eq]
  unfold setb setc
  by_cases e : d = c
  · subst e
    rw [if_pos rfl]
    refine ⟨by rw [List.length_set]; exact (H d hd).1, fun j hj => ?_⟩
    rw [u_if, List.getD_eq_getElem?_getD, List.getElem?_set]
    by_cases e2 : j = h
    · subst e2
      rw [if_pos rfl, if_pos rfl, if_pos hh]
      rfl
    · rw [if_neg (by omega), if_neg (by omega), ← List.getD_eq_getElem?_getD]
      exact (H d hd).2 j hj
  · rw [if_neg e]
    refine ⟨(H d hd).1, fun j hj => ?_⟩
    rw [u_ne (by omega)]
    exact (H d hd).2 j hj
def InS (B : Col) (no : Nat) (ow oq : Nat → Nat) (ne : Nat) (ek ew ec : Nat → Nat) (c h v : Nat) : Inp := InW (setb B c h v) no ow oq (evw ek ew ec 255 ne)
def szB (ft : Nat → Bool) : Nat → Nat
  | 0 => 0
  | n + 1 => if ft (n + 1) = true then szB ft n ||| 1 <<< (n + 1) else szB ft n
theorem szB_s (ft : Nat → Bool) (n : Nat) : szB ft (n + 1) = if ft (n + 1) = true then szB ft n ||| 1 <<< (n + 1) else szB ft n := rfl
theorem szB_lt {ft : Nat → Bool} : ∀ n, szB ft n < 2 ^ (n + 1)
  | 0 => Nat.lt_of_lt_of_le Nat.zero_lt_one (by decide)
  | n + 1 => by
    have ih := szB_lt (ft := ft) n
    have h2 : 2 ^ (n + 1) ≤ 2 ^ (n + 1 + 1) := Nat.pow_le_pow_right (by decide) (by omega)
    rw [szB_s]
    split
    · exact Nat.or_lt_two_pow (by omega) (bit_lt (by omega))
    · omega
def TrQ : List Nat := [20, 21, 23, 24, 25, 26, 27, 28, 29, 30, 31, 32, 33, 34, 35, 37]
section CT
variable {M : Mem} {B : Col} {no ne : Nat} {ow oq ek ew ec : Nat → Nat} {ns : Nat} {nw nc nv : Nat → Nat}
theorem t_prepQ {N : Mem} {e : Nat} (HN : RT N B no ow oq ne ek ew ec) (he : e < 2 ^ 31) : Ct 41 [.ref 21, .ref 1, .int (nI e)] N (fun r N1 => r = none ∧ Fr Trl N N1 ∧ RS N1 23 24 B ∧ ROr N1 25 no ow oq ∧ RWt N1 28 (evw ek ew ec e ne) ∧ N1 21 = N 21) := by
  refine (s_prep_21 HN.1 HN.2.1 HN.2.2.2.2.1 HN.2.2.1 he).mono ?_
  rintro r N1 ⟨rfl, F1, R1, O1, W1⟩
  exact ⟨rfl, F1.sub (by decide), R1, O1, W1, F1 21 (by decide)⟩
set_option maxHeartbeats 4000000 in
theorem s_findSizes (H : RT M B no ow oq ne ek ew ec) (hS : RSn M ns nw nc nv) (hk : M 21 8 = nI 0) {c h : Nat} (hc : c < 6) (hh : h < (B c).length) : Ct 16 [.ref 20, .int (nI c), .int (nI h)] M (fun r N => r = some (.int (nI (szB (fun v => fit (InS B no ow oq ne ek ew ec c h v) nw nc nv ns) 9))) ∧ Fr TrQ M N ∧ N 20 = M 20 ∧ (∀ j, j ≠ 10 → N 21 j = M 21 j) ∧ ∀ v, 1 ≤ v → v ≤ 9 → ∀ w, w < 24 → N 37 ((v - 1) * 24 + w) = nI (shp (yr (InS B no ow oq ne ek ew ec c h v) (w + 1)).1 6)) := by
  have h6 : h < 6 := Nat.lt_of_lt_of_le hh (H.2.2.2.1 c).1
  generalize hf : (fun v => fit (InS B no ow oq ne ek ew ec c h v) nw nc nv ns) = ft
  simp only [E_16, B_16_0, B_16_2, B_16_3, cP, cB, r_iconst_p, r_iconst_m, r_bipush_p, r_bipush_m, r_sipush_p, r_sipush_m, r_ldc_p, r_ldc_m, r_ldc_w_p, r_ldc_w_m, r_lconst_p, r_lconst_m, r_ldc2_w_p, r_ldc2_w_m, r_iload, r_iload_n, r_lload, r_lload_n, r_aload, r_aload_n, r_istore, r_istore_n, r_astore, r_astore_n, r_lstore, r_lstore_n, r_iinc_p, r_iinc_m, r_iadd, r_isub, r_imul, r_iand, r_ior, r_ixor, r_ishl, r_ishr, r_iushr, r_idiv, r_irem, r_ladd, r_lsub, r_lmul, r_ldiv, r_lrem, r_lshl, r_lcmp, r_i2l, r_i2b, r_i2s, r_dup_i, r_dup_r, r_dup2_ii, r_dup2_ir, r_dup2_l, r_pop, r_getfield, r_putfield, r_iaload, r_iastore, r_aaload, r_arraylength, r_if_eq, r_icmp_eq, r_if_ne, r_icmp_ne, r_if_lt, r_icmp_lt, r_if_ge, r_icmp_ge, r_if_gt, r_icmp_gt, r_if_le, r_icmp_le, r_goto, r_switch, r_ireturn0, r_ireturn1, r_lreturn, r_areturn, r_return, r_inv0, r_inv1, r_inv2, r_inv3, r_inv4, r_inv5, r_min, r_max, r_acopy, onI_s, onL_s, onR_s, onO_s, fv0, fv1, fv2, fv3, fp1, fp20, fp21, fp3, tl_s, tl_n, lg0, lg1, lg2, lg3, lg4, lg5, lg6, lg7, lg8, lg9, lg10, lg11, lg12, lg13, lg14, lg15, lg16, lg17, ls0, ls1, ls2, ls3, ls4, ls5, ls6, ls7, ls8, ls9, ls10, ls11, ls12, ls13, ls14, ls15, ls16, ls17, lk0, lk1, lk2, lk3, lk4, lk5, lk6, lk7, lk8, lk9, lk10, lk11, lk12, lk13, lk14, lk15, lk16, lk17, kl_n, kl_i, kl_r, kl_l, Nat.reduceAdd, Nat.reduceLeDiff, not_false_eq_true, r_ins0, r_ins1, r_ins2, r_ins3, r_ins4, r_ins5]
  have key : ∀ (n i : Nat) (N : Mem), i + n = 9 → Fr TrQ M N → N 20 = M 20 → (∀ j, j ≠ 10 → N 21 j = M 21 j) → (∀ v, 1 ≤ v → v ≤ i → ∀ w, w < 24 → N 37 ((v - 1) * 24 + w) = nI (shp (yr (InS B no ow oq ne ek ew ec c h v) (w + 1)).1 6)) → WP 16 [] 1 [some (.ref 20), some (.int (nI c)), some (.int (nI h)), some (.int (nI (szB ft i))), some (.int (nI (i + 1)))] [] N (fun r N => r = some (.int (nI (szB ft 9))) ∧ Fr TrQ M N ∧ N 20 = M 20 ∧ (∀ j, j ≠ 10 → N 21 j = M 21 j) ∧ ∀ v, 1 ≤ v → v ≤ 9 → ∀ w, w < 24 → N 37 ((v - 1) * 24 + w) = nI (shp (yr (InS B no ow oq ne ek ew ec c h v) (w + 1)).1 6)) := by
    intro n
    induction n with
    | zero =>
      intro i N hi hF h20 h21 h37
      obtain rfl : i = 9 := by omega
      rw [B_16_1]
      simp only [B_16_0, B_16_2, B_16_3, cP, cB, r_iconst_p, r_iconst_m, r_bipush_p, r_bipush_m, r_sipush_p, r_sipush_m, r_ldc_p, r_ldc_m, r_ldc_w_p, r_ldc_w_m, r_lconst_p, r_lconst_m, r_ldc2_w_p, r_ldc2_w_m, r_iload, r_iload_n, r_lload, r_lload_n, r_aload, r_aload_n, r_istore, r_istore_n, r_astore, r_astore_n, r_lstore, r_lstore_n, r_iinc_p, r_iinc_m, r_iadd, r_isub, r_imul, r_iand, r_ior, r_ixor, r_ishl, r_ishr, r_iushr, r_idiv, r_irem, r_ladd, r_lsub, r_lmul, r_ldiv, r_lrem, r_lshl, r_lcmp, r_i2l, r_i2b, r_i2s, r_dup_i, r_dup_r, r_dup2_ii, r_dup2_ir, r_dup2_l, r_pop, r_getfield, r_putfield, r_iaload, r_iastore, r_aaload, r_arraylength, r_if_eq, r_icmp_eq, r_if_ne, r_icmp_ne, r_if_lt, r_icmp_lt, r_if_ge, r_icmp_ge, r_if_gt, r_icmp_gt, r_if_le, r_icmp_le, r_goto, r_switch, r_ireturn0, r_ireturn1, r_lreturn, r_areturn, r_return, r_inv0, r_inv1, r_inv2, r_inv3, r_inv4, r_inv5, r_min, r_max, r_acopy, onI_s, onL_s, onR_s, onO_s, fv0, fv1, fv2, fv3, fp1, fp20, fp21, fp3, tl_s, tl_n, lg0, lg1, lg2, lg3, lg4, lg5, lg6, lg7, lg8, lg9, lg10, lg11, lg12, lg13, lg14, lg15, lg16, lg17, ls0, ls1, ls2, ls3, ls4, ls5, ls6, ls7, ls8, ls9, ls10, ls11, ls12, ls13, ls14, ls15, ls16, ls17, lk0, lk1, lk2, lk3, lk4, lk5, lk6, lk7, lk8, lk9, lk10, lk11, lk12, lk13, lk14, lk15, lk16, lk17, kl_n, kl_i, kl_r, kl_l, Nat.reduceAdd, Nat.reduceLeDiff, not_false_eq_true, r_ins0, r_ins1, r_ins2, r_ins3, r_ins4, r_ins5]
      rw [brc_pos (by rw [q_lt (by omega) (by omega)]; omega)]
      exact ⟨trivial, hF, h20, h21, h37⟩
    | succ n ih =>
      intro i N hi hF h20 h21 h37
      have HN : RT N B no ow oq ne ek ew ec := H.fr hF (by unfold TrQ; intro c h1 h2 q; simp only [List.mem_cons, List.not_mem_nil, or_false] at q; omega)
      rw [B_16_1]
      simp only [B_16_0, B_16_3, cP, cB, r_iconst_p, r_iconst_m, r_bipush_p, r_bipush_m, r_sipush_p, r_sipush_m, r_ldc_p, r_ldc_m, r_ldc_w_p, r_ldc_w_m, r_lconst_p, r_lconst_m, r_ldc2_w_p, r_ldc2_w_m, r_iload, r_iload_n, r_lload, r_lload_n, r_aload, r_aload_n, r_istore, r_istore_n, r_astore, r_astore_n, r_lstore, r_lstore_n, r_iinc_p, r_iinc_m, r_iadd, r_isub, r_imul, r_iand, r_ior, r_ixor, r_ishl, r_ishr, r_iushr, r_idiv, r_irem, r_ladd, r_lsub, r_lmul, r_ldiv, r_lrem, r_lshl, r_lcmp, r_i2l, r_i2b, r_i2s, r_dup_i, r_dup_r, r_dup2_ii, r_dup2_ir, r_dup2_l, r_pop, r_getfield, r_putfield, r_iaload, r_iastore, r_aaload, r_arraylength, r_if_eq, r_icmp_eq, r_if_ne, r_icmp_ne, r_if_lt, r_icmp_lt, r_if_ge, r_icmp_ge, r_if_gt, r_icmp_gt, r_if_le, r_icmp_le, r_goto, r_switch, r_ireturn0, r_ireturn1, r_lreturn, r_areturn, r_return, r_inv0, r_inv1, r_inv2, r_inv3, r_inv4, r_inv5, r_min, r_max, r_acopy, onI_s, onL_s, onR_s, onO_s, fv0, fv1, fv2, fv3, fp1, fp20, fp21, fp3, tl_s, tl_n, lg0, lg1, lg2, lg3, lg4, lg5, lg6, lg7, lg8, lg9, lg10, lg11, lg12, lg13, lg14, lg15, lg16, lg17, ls0, ls1, ls2, ls3, ls4, ls5, ls6, ls7, ls8, ls9, ls10, ls11, ls12, ls13, ls14, ls15, ls16, ls17, lk0, lk1, lk2, lk3, lk4, lk5, lk6, lk7, lk8, lk9, lk10, lk11, lk12, lk13, lk14, lk15, lk16, lk17, kl_n, kl_i, kl_r, kl_l, Nat.reduceAdd, Nat.reduceLeDiff, not_false_eq_true, r_ins0, r_ins1, r_ins2, r_ins3, r_ins4, r_ins5]
      rw [brc_neg (by rw [q_lt (by omega) (by omega)]; omega)]
      refine ⟨trivial, by simp, ?_⟩
      refine (t_prepQ HN (by omega)).mono ?_
      rintro r N1 ⟨rfl, F1, R1, O1, W1, K1⟩
      simp only [B_16_0, B_16_3, cP, cB, q_mul, q_add, r_iconst_p, r_iconst_m, r_bipush_p, r_bipush_m, r_sipush_p, r_sipush_m, r_ldc_p, r_ldc_m, r_ldc_w_p, r_ldc_w_m, r_lconst_p, r_lconst_m, r_ldc2_w_p, r_ldc2_w_m, r_iload, r_iload_n, r_lload, r_lload_n, r_aload, r_aload_n, r_istore, r_istore_n, r_astore, r_astore_n, r_lstore, r_lstore_n, r_iinc_p, r_iinc_m, r_iadd, r_isub, r_imul, r_iand, r_ior, r_ixor, r_ishl, r_ishr, r_iushr, r_idiv, r_irem, r_ladd, r_lsub, r_lmul, r_ldiv, r_lrem, r_lshl, r_lcmp, r_i2l, r_i2b, r_i2s, r_dup_i, r_dup_r, r_dup2_ii, r_dup2_ir, r_dup2_l, r_pop, r_getfield, r_putfield, r_iaload, r_iastore, r_aaload, r_arraylength, r_if_eq, r_icmp_eq, r_if_ne, r_icmp_ne, r_if_lt, r_icmp_lt, r_if_ge, r_icmp_ge, r_if_gt, r_icmp_gt, r_if_le, r_icmp_le, r_goto, r_switch, r_ireturn0, r_ireturn1, r_lreturn, r_areturn, r_return, r_inv0, r_inv1, r_inv2, r_inv3, r_inv4, r_inv5, r_min, r_max, r_acopy, onI_s, onL_s, onR_s, onO_s, fv0, fv1, fv2, fv3, fp1, fp20, fp21, fp3, tl_s, tl_n, lg0, lg1, lg2, lg3, lg4, lg5, lg6, lg7, lg8, lg9, lg10, lg11, lg12, lg13, lg14, lg15, lg16, lg17, ls0, ls1, ls2, ls3, ls4, ls5, ls6, ls7, ls8, ls9, ls10, ls11, ls12, ls13, ls14, ls15, ls16, ls17, lk0, lk1, lk2, lk3, lk4, lk5, lk6, lk7, lk8, lk9, lk10, lk11, lk12, lk13, lk14, lk15, lk16, lk17, kl_n, kl_i, kl_r, kl_l, Nat.reduceAdd, Nat.reduceLeDiff, not_false_eq_true, r_ins0, r_ins1, r_ins2, r_ins3, r_ins4, r_ins5]
      rw [inb_n (n := 36) rfl (by omega) (by omega), nI_clamp (by omega)]
      refine ⟨by omega, trivial, by simp, ?_⟩
      have okI' : okI (InS B no ow oq ne ek ew ec c h (i + 1)) := ⟨setb_ok H.2.2.2.1 _ (by omega), H.2.2.2.2.1, H.2.2.2.2.2.1, H.2.2.2.2.2.2⟩
      refine (s_run_21 (RS_setb R1 hc hh h6) (by unfold ROr; rw [sm_ne (by decide), sm_ne (by decide), sm_ne (by decide)]; exact O1) (by unfold RWt; rw [sm_ne (by decide), sm_ne (by decide)]; exact W1) okI' (evw_okH H _ _) (by rw [sm_ne (by decide), K1, h21 8 (by decide)]; exact hk)).mono ?_
      rintro r N3 ⟨rfl, F3, Oc3, K3⟩
      simp only [B_16_0, B_16_3, cP, cB, r_iconst_p, r_iconst_m, r_bipush_p, r_bipush_m, r_sipush_p, r_sipush_m, r_ldc_p, r_ldc_m, r_ldc_w_p, r_ldc_w_m, r_lconst_p, r_lconst_m, r_ldc2_w_p, r_ldc2_w_m, r_iload, r_iload_n, r_lload, r_lload_n, r_aload, r_aload_n, r_istore, r_istore_n, r_astore, r_astore_n, r_lstore, r_lstore_n, r_iinc_p, r_iinc_m, r_iadd, r_isub, r_imul, r_iand, r_ior, r_ixor, r_ishl, r_ishr, r_iushr, r_idiv, r_irem, r_ladd, r_lsub, r_lmul, r_ldiv, r_lrem, r_lshl, r_lcmp, r_i2l, r_i2b, r_i2s, r_dup_i, r_dup_r, r_dup2_ii, r_dup2_ir, r_dup2_l, r_pop, r_getfield, r_putfield, r_iaload, r_iastore, r_aaload, r_arraylength, r_if_eq, r_icmp_eq, r_if_ne, r_icmp_ne, r_if_lt, r_icmp_lt, r_if_ge, r_icmp_ge, r_if_gt, r_icmp_gt, r_if_le, r_icmp_le, r_goto, r_switch, r_ireturn0, r_ireturn1, r_lreturn, r_areturn, r_return, r_inv0, r_inv1, r_inv2, r_inv3, r_inv4, r_inv5, r_min, r_max, r_acopy, onI_s, onL_s, onR_s, onO_s, fv0, fv1, fv2, fv3, fp1, fp20, fp21, fp3, tl_s, tl_n, lg0, lg1, lg2, lg3, lg4, lg5, lg6, lg7, lg8, lg9, lg10, lg11, lg12, lg13, lg14, lg15, lg16, lg17, ls0, ls1, ls2, ls3, ls4, ls5, ls6, ls7, ls8, ls9, ls10, ls11, ls12, ls13, ls14, ls15, ls16, ls17, lk0, lk1, lk2, lk3, lk4, lk5, lk6, lk7, lk8, lk9, lk10, lk11, lk12, lk13, lk14, lk15, lk16, lk17, kl_n, kl_i, kl_r, kl_l, Nat.reduceAdd, Nat.reduceLeDiff, not_false_eq_true, r_ins0, r_ins1, r_ins2, r_ins3, r_ins4, r_ins5]
      rw [q_sub (by omega), q_mul, nI_clamp (show 0 < 2 ^ 31 by omega), nI_clamp (show 24 < 2 ^ 31 by omega), nI_clamp (by omega), q_lt (by omega) (by omega), q_lt (by omega) (by omega), q_lt (by omega) (by omega), Nat.add_sub_cancel]
      refine ⟨⟨by omega, by omega, by omega, by omega, by omega, by simp⟩, trivial, by simp, ?_⟩
      have g20 : N3 20 = M 20 := by rw [F3 20 (by decide), sm_ne (by decide), F1 20 (by decide), h20]
      have gF : Fr TrQ M N3 := ((hF.tr F1 (l := TrQ) (fun _ h => h) (by decide)).st (by decide)).tr F3 (fun _ h => h) (by decide)
      have g21 : ∀ j, j ≠ 10 → N3 21 j = M 21 j := fun j hj => by rw [K3 j hj, sm_ne (by decide), K1]; exact h21 j hj
      have Oc4 : Oc 21 0 (InS B no ow oq ne ek ew ec c h (i + 1)) (cpyM N3 33 37 0 (i * 24) 24) := by
        unfold Oc
        simp only [cp_if]
        exact Oc3
      have gF4 : Fr TrQ M (cpyM N3 33 37 0 (i * 24) 24) := fun d hd => by
        rw [cp_if, if_neg (fun q => hd (by rw [q]; decide))]
        exact gF d hd
      have hS4 : RSn (cpyM N3 33 37 0 (i * 24) 24) ns nw nc nv := hS.fr gF4 (by decide) (by decide) (by decide) (by decide)
      rw [(s_fits okI' Oc4 hS4).ct]
      have e1 : fit (InS B no ow oq ne ek ew ec c h (i + 1)) nw nc nv ns = ft (i + 1) := by rw [← hf]
      rw [e1]
      simp only [B_16_0, B_16_2, B_16_3, cP, cB, shl1 (show i + 1 < 31 by omega), q_or, q_add, r_iconst_p, r_iconst_m, r_bipush_p, r_bipush_m, r_sipush_p, r_sipush_m, r_ldc_p, r_ldc_m, r_ldc_w_p, r_ldc_w_m, r_lconst_p, r_lconst_m, r_ldc2_w_p, r_ldc2_w_m, r_iload, r_iload_n, r_lload, r_lload_n, r_aload, r_aload_n, r_istore, r_istore_n, r_astore, r_astore_n, r_lstore, r_lstore_n, r_iinc_p, r_iinc_m, r_iadd, r_isub, r_imul, r_iand, r_ior, r_ixor, r_ishl, r_ishr, r_iushr, r_idiv, r_irem, r_ladd, r_lsub, r_lmul, r_ldiv, r_lrem, r_lshl, r_lcmp, r_i2l, r_i2b, r_i2s, r_dup_i, r_dup_r, r_dup2_ii, r_dup2_ir, r_dup2_l, r_pop, r_getfield, r_putfield, r_iaload, r_iastore, r_aaload, r_arraylength, r_if_eq, r_icmp_eq, r_if_ne, r_icmp_ne, r_if_lt, r_icmp_lt, r_if_ge, r_icmp_ge, r_if_gt, r_icmp_gt, r_if_le, r_icmp_le, r_goto, r_switch, r_ireturn0, r_ireturn1, r_lreturn, r_areturn, r_return, r_inv0, r_inv1, r_inv2, r_inv3, r_inv4, r_inv5, r_min, r_max, r_acopy, onI_s, onL_s, onR_s, onO_s, fv0, fv1, fv2, fv3, fp1, fp20, fp21, fp3, tl_s, tl_n, lg0, lg1, lg2, lg3, lg4, lg5, lg6, lg7, lg8, lg9, lg10, lg11, lg12, lg13, lg14, lg15, lg16, lg17, ls0, ls1, ls2, ls3, ls4, ls5, ls6, ls7, ls8, ls9, ls10, ls11, ls12, ls13, ls14, ls15, ls16, ls17, lk0, lk1, lk2, lk3, lk4, lk5, lk6, lk7, lk8, lk9, lk10, lk11, lk12, lk13, lk14, lk15, lk16, lk17, kl_n, kl_i, kl_r, kl_l, Nat.reduceAdd, Nat.reduceLeDiff, not_false_eq_true, r_ins0, r_ins1, r_ins2, r_ins3, r_ins4, r_ins5]
      have h2 := ih (i + 1) (cpyM N3 33 37 0 (i * 24) 24) (by omega) gF4 (by simp only [cp_if]; exact g20) (by simp only [cp_if]; exact g21) (by
        intro v h1 h2 w hw
        rw [cp_if, if_pos rfl]
        by_cases e : v = i + 1
        · subst e
          rw [Nat.add_sub_cancel, cpy_in (by omega) (by omega), show 0 + (i * 24 + w - i * 24) = w by omega]
          exact Oc3.2.2.1 w hw
        · rw [pk_cpy_out (by omega), F3 37 (by decide), sm_ne (by decide), F1 37 (by decide)]
          exact h37 v h1 (by omega) w hw)
      rw [szB_s] at h2
      cases hz : ft (i + 1) with
      | false =>
        rw [brc_pos (show nI (false).toNat = nI 0 from rfl)]
        rw [hz, if_neg (by decide)] at h2
        exact h2
      | true =>
        rw [brc_neg (by rw [show (true).toNat = 1 from rfl, q_eq (by omega) (by omega)]; decide)]
        rw [if_pos hz] at h2
        exact h2
  exact key 9 0 M (by omega) Fr.rf rfl (fun _ _ => rfl) (fun v h1 h2 => by omega)
end CT
/-- how many are alike -/
def cnt (s : Nat) (g : Nat → Nat) (a n : Nat) : Nat := smN (fun j => if s.testBit a = true ∧ s.testBit (j + 1) = true ∧ g a = g (j + 1) then 1 else 0) n
def mal (s : Nat) (g : Nat → Nat) : Nat → Nat
  | 0 => 0
  | n + 1 => max (mal s g n) (cnt s g (n + 1) 9)
theorem cnt_le (s : Nat) (g : Nat → Nat) (a n : Nat) : cnt s g a n ≤ n := by
  have := smN_le (f := fun j => if s.testBit a = true ∧ s.testBit (j + 1) = true ∧ g a = g (j + 1) then 1 else 0) (k := 1) n (fun j _ => by split <;> omega)
  unfold cnt
  omega
theorem mal_le (s : Nat) (g : Nat → Nat) : ∀ n, mal s g n ≤ 9
  | 0 => Nat.zero_le _
  | n + 1 => by
    have := mal_le s g n
    have := cnt_le s g (n + 1) 9
    unfold mal
    omega
theorem and_bits (s a b : Nat) : (s >>> a &&& s >>> b) &&& 1 = (s.testBit a && s.testBit b).toNat := by
  rw [Nat.and_assoc, show s >>> b &&& 1 = (s.testBit b).toNat from bit1 s b]
  cases hb : s.testBit b with
  | false => simp
  | true => simp only [Bool.and_true]; exact bit1 s a
set_option maxHeartbeats 4000000 in
theorem s_mostAlike {M : Mem} {s w : Nat} {g : Nat → Nat} (hs : s < 2 ^ 10) (hw : w < 24) (hg : ∀ v, 1 ≤ v → v ≤ 9 → M 37 ((v - 1) * 24 + w) = nI (g v)) (hgl : ∀ v, g v < 2 ^ 31) : Ev 18 [.ref 20, .int (nI s), .int (nI w)] M (some (.int (nI (mal s g 9)))) M := by
  apply Ev.of
  simp only [E_18, B_18_0, B_18_3, B_18_4, B_18_5, cP, r_iconst_p, r_iconst_m, r_bipush_p, r_bipush_m, r_sipush_p, r_sipush_m, r_ldc_p, r_ldc_m, r_ldc_w_p, r_ldc_w_m, r_lconst_p, r_lconst_m, r_ldc2_w_p, r_ldc2_w_m, r_iload, r_iload_n, r_lload, r_lload_n, r_aload, r_aload_n, r_istore, r_istore_n, r_astore, r_astore_n, r_lstore, r_lstore_n, r_iinc_p, r_iinc_m, r_iadd, r_isub, r_imul, r_iand, r_ior, r_ixor, r_ishl, r_ishr, r_iushr, r_idiv, r_irem, r_ladd, r_lsub, r_lmul, r_ldiv, r_lrem, r_lshl, r_lcmp, r_i2l, r_i2b, r_i2s, r_dup_i, r_dup_r, r_dup2_ii, r_dup2_ir, r_dup2_l, r_pop, r_getfield, r_putfield, r_iaload, r_iastore, r_aaload, r_arraylength, r_if_eq, r_icmp_eq, r_if_ne, r_icmp_ne, r_if_lt, r_icmp_lt, r_if_ge, r_icmp_ge, r_if_gt, r_icmp_gt, r_if_le, r_icmp_le, r_goto, r_switch, r_ireturn0, r_ireturn1, r_lreturn, r_areturn, r_return, r_inv0, r_inv1, r_inv2, r_inv3, r_inv4, r_inv5, r_min, r_max, r_acopy, onI_s, onL_s, onR_s, onO_s, fv0, fv1, fv2, fv3, fp1, fp20, fp21, fp3, tl_s, tl_n, lg0, lg1, lg2, lg3, lg4, lg5, lg6, lg7, lg8, lg9, lg10, lg11, lg12, lg13, lg14, lg15, lg16, lg17, ls0, ls1, ls2, ls3, ls4, ls5, ls6, ls7, ls8, ls9, ls10, ls11, ls12, ls13, ls14, ls15, ls16, ls17, lk0, lk1, lk2, lk3, lk4, lk5, lk6, lk7, lk8, lk9, lk10, lk11, lk12, lk13, lk14, lk15, lk16, lk17, kl_n, kl_i, kl_r, kl_l, Nat.reduceAdd, Nat.reduceLeDiff, not_false_eq_true, r_ins0, r_ins1, r_ins2, r_ins3, r_ins4, r_ins5]
  generalize hQ : (fun (v : Option Value) (N : Mem) => v = some (.int (nI (mal s g 9))) ∧ N = M) = Q
  have key : ∀ (n i : Nat) (u v : Option Value), i + n = 9 → WP 18 [] 1 [some (.ref 20), some (.int (nI s)), some (.int (nI w)), some (.int (nI (mal s g i))), some (.int (nI (i + 1))), u, v] [] M Q := by
    intro n
    induction n with
    | zero =>
      intro i u v hi
      obtain rfl : i = 9 := by omega
      rw [B_18_1]
      simp only [B_18_0, B_18_3, B_18_4, B_18_5, cP, r_iconst_p, r_iconst_m, r_bipush_p, r_bipush_m, r_sipush_p, r_sipush_m, r_ldc_p, r_ldc_m, r_ldc_w_p, r_ldc_w_m, r_lconst_p, r_lconst_m, r_ldc2_w_p, r_ldc2_w_m, r_iload, r_iload_n, r_lload, r_lload_n, r_aload, r_aload_n, r_istore, r_istore_n, r_astore, r_astore_n, r_lstore, r_lstore_n, r_iinc_p, r_iinc_m, r_iadd, r_isub, r_imul, r_iand, r_ior, r_ixor, r_ishl, r_ishr, r_iushr, r_idiv, r_irem, r_ladd, r_lsub, r_lmul, r_ldiv, r_lrem, r_lshl, r_lcmp, r_i2l, r_i2b, r_i2s, r_dup_i, r_dup_r, r_dup2_ii, r_dup2_ir, r_dup2_l, r_pop, r_getfield, r_putfield, r_iaload, r_iastore, r_aaload, r_arraylength, r_if_eq, r_icmp_eq, r_if_ne, r_icmp_ne, r_if_lt, r_icmp_lt, r_if_ge, r_icmp_ge, r_if_gt, r_icmp_gt, r_if_le, r_icmp_le, r_goto, r_switch, r_ireturn0, r_ireturn1, r_lreturn, r_areturn, r_return, r_inv0, r_inv1, r_inv2, r_inv3, r_inv4, r_inv5, r_min, r_max, r_acopy, onI_s, onL_s, onR_s, onO_s, fv0, fv1, fv2, fv3, fp1, fp20, fp21, fp3, tl_s, tl_n, lg0, lg1, lg2, lg3, lg4, lg5, lg6, lg7, lg8, lg9, lg10, lg11, lg12, lg13, lg14, lg15, lg16, lg17, ls0, ls1, ls2, ls3, ls4, ls5, ls6, ls7, ls8, ls9, ls10, ls11, ls12, ls13, ls14, ls15, ls16, ls17, lk0, lk1, lk2, lk3, lk4, lk5, lk6, lk7, lk8, lk9, lk10, lk11, lk12, lk13, lk14, lk15, lk16, lk17, kl_n, kl_i, kl_r, kl_l, Nat.reduceAdd, Nat.reduceLeDiff, not_false_eq_true, r_ins0, r_ins1, r_ins2, r_ins3, r_ins4, r_ins5]
      rw [brc_pos (by rw [q_lt (by omega) (by omega)]; omega), ← hQ]
      exact ⟨rfl, rfl⟩
    | succ n ih =>
      intro i u v hi
      have inner : ∀ (m j : Nat), j + m = 9 → WP 18 [] 2 [some (.ref 20), some (.int (nI s)), some (.int (nI w)), some (.int (nI (mal s g i))), some (.int (nI (i + 1))), some (.int (nI (cnt s g (i + 1) j))), some (.int (nI (j + 1)))] [] M Q := by
        intro m
        induction m with
        | zero =>
          intro j hj
          obtain rfl : j = 9 := by omega
          have hm := mal_le s g i
          have hc := cnt_le s g (i + 1) 9
          rw [B_18_2]
          simp only [B_18_0, B_18_3, B_18_4, B_18_5, cP, r_iconst_p, r_iconst_m, r_bipush_p, r_bipush_m, r_sipush_p, r_sipush_m, r_ldc_p, r_ldc_m, r_ldc_w_p, r_ldc_w_m, r_lconst_p, r_lconst_m, r_ldc2_w_p, r_ldc2_w_m, r_iload, r_iload_n, r_lload, r_lload_n, r_aload, r_aload_n, r_istore, r_istore_n, r_astore, r_astore_n, r_lstore, r_lstore_n, r_iinc_p, r_iinc_m, r_iadd, r_isub, r_imul, r_iand, r_ior, r_ixor, r_ishl, r_ishr, r_iushr, r_idiv, r_irem, r_ladd, r_lsub, r_lmul, r_ldiv, r_lrem, r_lshl, r_lcmp, r_i2l, r_i2b, r_i2s, r_dup_i, r_dup_r, r_dup2_ii, r_dup2_ir, r_dup2_l, r_pop, r_getfield, r_putfield, r_iaload, r_iastore, r_aaload, r_arraylength, r_if_eq, r_icmp_eq, r_if_ne, r_icmp_ne, r_if_lt, r_icmp_lt, r_if_ge, r_icmp_ge, r_if_gt, r_icmp_gt, r_if_le, r_icmp_le, r_goto, r_switch, r_ireturn0, r_ireturn1, r_lreturn, r_areturn, r_return, r_inv0, r_inv1, r_inv2, r_inv3, r_inv4, r_inv5, r_min, r_max, r_acopy, onI_s, onL_s, onR_s, onO_s, fv0, fv1, fv2, fv3, fp1, fp20, fp21, fp3, tl_s, tl_n, lg0, lg1, lg2, lg3, lg4, lg5, lg6, lg7, lg8, lg9, lg10, lg11, lg12, lg13, lg14, lg15, lg16, lg17, ls0, ls1, ls2, ls3, ls4, ls5, ls6, ls7, ls8, ls9, ls10, ls11, ls12, ls13, ls14, ls15, ls16, ls17, lk0, lk1, lk2, lk3, lk4, lk5, lk6, lk7, lk8, lk9, lk10, lk11, lk12, lk13, lk14, lk15, lk16, lk17, kl_n, kl_i, kl_r, kl_l, Nat.reduceAdd, Nat.reduceLeDiff, not_false_eq_true, r_ins0, r_ins1, r_ins2, r_ins3, r_ins4, r_ins5]
          rw [brc_pos (by rw [q_lt (by omega) (by omega)]; omega), q_add]
          refine ⟨by simp, ?_⟩
          have h := ih (i + 1) (some (.int (nI (cnt s g (i + 1) 9)))) (some (.int (nI (9 + 1)))) (by omega)
          have e : (if nI (mal s g i) < nI (cnt s g (i + 1) 9) then nI (cnt s g (i + 1) 9) else nI (mal s g i)) = nI (mal s g (i + 1)) := by
            rw [← apply_ite nI, ite_congr (q_lt (by omega) (by omega)) (fun _ => rfl) (fun _ => rfl)]
            congr 1
            show _ = max (mal s g i) (cnt s g (i + 1) 9)
            split <;> omega
          rw [e]
          exact h
        | succ m ihm =>
          intro j hj
          rw [B_18_2]
          simp only [B_18_0, B_18_3, B_18_4, B_18_5, cP, r_iconst_p, r_iconst_m, r_bipush_p, r_bipush_m, r_sipush_p, r_sipush_m, r_ldc_p, r_ldc_m, r_ldc_w_p, r_ldc_w_m, r_lconst_p, r_lconst_m, r_ldc2_w_p, r_ldc2_w_m, r_iload, r_iload_n, r_lload, r_lload_n, r_aload, r_aload_n, r_istore, r_istore_n, r_astore, r_astore_n, r_lstore, r_lstore_n, r_iinc_p, r_iinc_m, r_iadd, r_isub, r_imul, r_iand, r_ior, r_ixor, r_ishl, r_ishr, r_iushr, r_idiv, r_irem, r_ladd, r_lsub, r_lmul, r_ldiv, r_lrem, r_lshl, r_lcmp, r_i2l, r_i2b, r_i2s, r_dup_i, r_dup_r, r_dup2_ii, r_dup2_ir, r_dup2_l, r_pop, r_getfield, r_putfield, r_iaload, r_iastore, r_aaload, r_arraylength, r_if_eq, r_icmp_eq, r_if_ne, r_icmp_ne, r_if_lt, r_icmp_lt, r_if_ge, r_icmp_ge, r_if_gt, r_icmp_gt, r_if_le, r_icmp_le, r_goto, r_switch, r_ireturn0, r_ireturn1, r_lreturn, r_areturn, r_return, r_inv0, r_inv1, r_inv2, r_inv3, r_inv4, r_inv5, r_min, r_max, r_acopy, onI_s, onL_s, onR_s, onO_s, fv0, fv1, fv2, fv3, fp1, fp20, fp21, fp3, tl_s, tl_n, lg0, lg1, lg2, lg3, lg4, lg5, lg6, lg7, lg8, lg9, lg10, lg11, lg12, lg13, lg14, lg15, lg16, lg17, ls0, ls1, ls2, ls3, ls4, ls5, ls6, ls7, ls8, ls9, ls10, ls11, ls12, ls13, ls14, ls15, ls16, ls17, lk0, lk1, lk2, lk3, lk4, lk5, lk6, lk7, lk8, lk9, lk10, lk11, lk12, lk13, lk14, lk15, lk16, lk17, kl_n, kl_i, kl_r, kl_l, Nat.reduceAdd, Nat.reduceLeDiff, not_false_eq_true, r_ins0, r_ins1, r_ins2, r_ins3, r_ins4, r_ins5]
          have h := ihm (j + 1) (by omega)
          have ec : cnt s g (i + 1) (j + 1) = cnt s g (i + 1) j + if s.testBit (i + 1) = true ∧ s.testBit (j + 1) = true ∧ g (i + 1) = g (j + 1) then 1 else 0 := rfl
          rw [ec] at h
          have g1 := hgl (i + 1)
          have g2 := hgl (j + 1)
          rw [brc_neg (by rw [q_lt (by omega) (by omega)]; omega), shr_nI (by omega) (by omega), shr_nI (by omega) (by omega), q_and, q_and, and_bits, q_sub (by omega), q_sub (by omega)]
          simp only [q_mul, q_add]
          rw [inb_n (n := 216) rfl (by omega) (by omega), inb_n (n := 216) rfl (by omega) (by omega), nI_clamp (by omega), nI_clamp (by omega), hg (i + 1) (by omega) (by omega), hg (j + 1) (by omega) (by omega), q_eq g1 g2]
          cases hb : s.testBit (i + 1) && s.testBit (j + 1) with
          | false =>
            rw [brc_pos (by rw [show (false).toNat = 0 from rfl, q_eq (by omega) (by omega)]; decide)]
            rw [if_neg (fun q => by rw [q.1, q.2.1] at hb; cases hb)] at h
            exact h
          | true =>
            rw [Bool.and_eq_true] at hb
            rw [brc_neg (fun q => q rfl)]
            refine ⟨by omega, by omega, brc_i (fun hz => ?_) (fun hz => ?_)⟩
            · rw [if_neg (fun q => hz q.2.2)] at h
              exact h
            · rw [if_pos ⟨hb.1, hb.2, Classical.not_not.mp hz⟩] at h
              exact h
      rw [B_18_1]
      simp only [B_18_0, B_18_3, B_18_4, B_18_5, cP, r_iconst_p, r_iconst_m, r_bipush_p, r_bipush_m, r_sipush_p, r_sipush_m, r_ldc_p, r_ldc_m, r_ldc_w_p, r_ldc_w_m, r_lconst_p, r_lconst_m, r_ldc2_w_p, r_ldc2_w_m, r_iload, r_iload_n, r_lload, r_lload_n, r_aload, r_aload_n, r_istore, r_istore_n, r_astore, r_astore_n, r_lstore, r_lstore_n, r_iinc_p, r_iinc_m, r_iadd, r_isub, r_imul, r_iand, r_ior, r_ixor, r_ishl, r_ishr, r_iushr, r_idiv, r_irem, r_ladd, r_lsub, r_lmul, r_ldiv, r_lrem, r_lshl, r_lcmp, r_i2l, r_i2b, r_i2s, r_dup_i, r_dup_r, r_dup2_ii, r_dup2_ir, r_dup2_l, r_pop, r_getfield, r_putfield, r_iaload, r_iastore, r_aaload, r_arraylength, r_if_eq, r_icmp_eq, r_if_ne, r_icmp_ne, r_if_lt, r_icmp_lt, r_if_ge, r_icmp_ge, r_if_gt, r_icmp_gt, r_if_le, r_icmp_le, r_goto, r_switch, r_ireturn0, r_ireturn1, r_lreturn, r_areturn, r_return, r_inv0, r_inv1, r_inv2, r_inv3, r_inv4, r_inv5, r_min, r_max, r_acopy, onI_s, onL_s, onR_s, onO_s, fv0, fv1, fv2, fv3, fp1, fp20, fp21, fp3, tl_s, tl_n, lg0, lg1, lg2, lg3, lg4, lg5, lg6, lg7, lg8, lg9, lg10, lg11, lg12, lg13, lg14, lg15, lg16, lg17, ls0, ls1, ls2, ls3, ls4, ls5, ls6, ls7, ls8, ls9, ls10, ls11, ls12, ls13, ls14, ls15, ls16, ls17, lk0, lk1, lk2, lk3, lk4, lk5, lk6, lk7, lk8, lk9, lk10, lk11, lk12, lk13, lk14, lk15, lk16, lk17, kl_n, kl_i, kl_r, kl_l, Nat.reduceAdd, Nat.reduceLeDiff, not_false_eq_true, r_ins0, r_ins1, r_ins2, r_ins3, r_ins4, r_ins5]
      rw [brc_neg (by rw [q_lt (by omega) (by omega)]; omega)]
      exact inner 9 0 (by omega)
  exact key 9 0 none none (by omega)
set_option maxHeartbeats 4000000 in
theorem s_findAsk {M : Mem} {s : Nat} {g : Nat → Nat → Nat} (hs : s < 2 ^ 10) (hg : ∀ w, w < 24 → ∀ v, 1 ≤ v → v ≤ 9 → M 37 ((v - 1) * 24 + w) = nI (g w v)) (hgl : ∀ w v, g w v < 2 ^ 31) : Ev 17 [.ref 20, .int (nI s)] M (some (.int (ix (mnf 10 (fun w => mal s (g w) 9) 24).1))) M := by
  apply Ev.of
  simp only [E_17, B_17_0, B_17_2, B_17_3, cP, r_iconst_p, r_iconst_m, r_bipush_p, r_bipush_m, r_sipush_p, r_sipush_m, r_ldc_p, r_ldc_m, r_ldc_w_p, r_ldc_w_m, r_lconst_p, r_lconst_m, r_ldc2_w_p, r_ldc2_w_m, r_iload, r_iload_n, r_lload, r_lload_n, r_aload, r_aload_n, r_istore, r_istore_n, r_astore, r_astore_n, r_lstore, r_lstore_n, r_iinc_p, r_iinc_m, r_iadd, r_isub, r_imul, r_iand, r_ior, r_ixor, r_ishl, r_ishr, r_iushr, r_idiv, r_irem, r_ladd, r_lsub, r_lmul, r_ldiv, r_lrem, r_lshl, r_lcmp, r_i2l, r_i2b, r_i2s, r_dup_i, r_dup_r, r_dup2_ii, r_dup2_ir, r_dup2_l, r_pop, r_getfield, r_putfield, r_iaload, r_iastore, r_aaload, r_arraylength, r_if_eq, r_icmp_eq, r_if_ne, r_icmp_ne, r_if_lt, r_icmp_lt, r_if_ge, r_icmp_ge, r_if_gt, r_icmp_gt, r_if_le, r_icmp_le, r_goto, r_switch, r_ireturn0, r_ireturn1, r_lreturn, r_areturn, r_return, r_inv0, r_inv1, r_inv2, r_inv3, r_inv4, r_inv5, r_min, r_max, r_acopy, onI_s, onL_s, onR_s, onO_s, fv0, fv1, fv2, fv3, fp1, fp20, fp21, fp3, tl_s, tl_n, lg0, lg1, lg2, lg3, lg4, lg5, lg6, lg7, lg8, lg9, lg10, lg11, lg12, lg13, lg14, lg15, lg16, lg17, ls0, ls1, ls2, ls3, ls4, ls5, ls6, ls7, ls8, ls9, ls10, ls11, ls12, ls13, ls14, ls15, ls16, ls17, lk0, lk1, lk2, lk3, lk4, lk5, lk6, lk7, lk8, lk9, lk10, lk11, lk12, lk13, lk14, lk15, lk16, lk17, kl_n, kl_i, kl_r, kl_l, Nat.reduceAdd, Nat.reduceLeDiff, not_false_eq_true, r_ins0, r_ins1, r_ins2, r_ins3, r_ins4, r_ins5]
  generalize hf : (fun w => mal s (g w) 9) = f
  have hfl : ∀ w, f w ≤ 9 := fun w => by rw [← hf]; exact mal_le _ _ _
  have key : ∀ (n i : Nat) (u : Option Value), i + n = 24 → WP 17 [] 1 [some (.ref 20), some (.int (nI s)), some (.int (ix (mnf 10 f i).1)), some (.int (nI (mnf 10 f i).2)), some (.int (nI i)), u] [] M (fun (v : Option Value) (N : Mem) => v = some (.int (ix (mnf 10 f 24).1)) ∧ N = M) := by
    intro n
    induction n with
    | zero =>
      intro i u hi
      obtain rfl : i = 24 := by omega
      rw [B_17_1]
      simp only [B_17_0, B_17_2, B_17_3, cP, r_iconst_p, r_iconst_m, r_bipush_p, r_bipush_m, r_sipush_p, r_sipush_m, r_ldc_p, r_ldc_m, r_ldc_w_p, r_ldc_w_m, r_lconst_p, r_lconst_m, r_ldc2_w_p, r_ldc2_w_m, r_iload, r_iload_n, r_lload, r_lload_n, r_aload, r_aload_n, r_istore, r_istore_n, r_astore, r_astore_n, r_lstore, r_lstore_n, r_iinc_p, r_iinc_m, r_iadd, r_isub, r_imul, r_iand, r_ior, r_ixor, r_ishl, r_ishr, r_iushr, r_idiv, r_irem, r_ladd, r_lsub, r_lmul, r_ldiv, r_lrem, r_lshl, r_lcmp, r_i2l, r_i2b, r_i2s, r_dup_i, r_dup_r, r_dup2_ii, r_dup2_ir, r_dup2_l, r_pop, r_getfield, r_putfield, r_iaload, r_iastore, r_aaload, r_arraylength, r_if_eq, r_icmp_eq, r_if_ne, r_icmp_ne, r_if_lt, r_icmp_lt, r_if_ge, r_icmp_ge, r_if_gt, r_icmp_gt, r_if_le, r_icmp_le, r_goto, r_switch, r_ireturn0, r_ireturn1, r_lreturn, r_areturn, r_return, r_inv0, r_inv1, r_inv2, r_inv3, r_inv4, r_inv5, r_min, r_max, r_acopy, onI_s, onL_s, onR_s, onO_s, fv0, fv1, fv2, fv3, fp1, fp20, fp21, fp3, tl_s, tl_n, lg0, lg1, lg2, lg3, lg4, lg5, lg6, lg7, lg8, lg9, lg10, lg11, lg12, lg13, lg14, lg15, lg16, lg17, ls0, ls1, ls2, ls3, ls4, ls5, ls6, ls7, ls8, ls9, ls10, ls11, ls12, ls13, ls14, ls15, ls16, ls17, lk0, lk1, lk2, lk3, lk4, lk5, lk6, lk7, lk8, lk9, lk10, lk11, lk12, lk13, lk14, lk15, lk16, lk17, kl_n, kl_i, kl_r, kl_l, Nat.reduceAdd, Nat.reduceLeDiff, not_false_eq_true, r_ins0, r_ins1, r_ins2, r_ins3, r_ins4, r_ins5]
      rw [brc_pos (Int32.le_refl _)]
      simp
    | succ n ih =>
      intro i u hi
      have e0 := s_mostAlike hs (show i < 24 by omega) (hg i (by omega)) (hgl i)
      have e1 : mal s (g i) 9 = f i := by rw [← hf]
      rw [e1] at e0
      have hm := (mnf_le (K := 10) (f := f) i).2
      have hfi := hfl i
      rw [B_17_1]
      simp only [B_17_0, B_17_2, B_17_3, cP, e0.ct, r_iconst_p, r_iconst_m, r_bipush_p, r_bipush_m, r_sipush_p, r_sipush_m, r_ldc_p, r_ldc_m, r_ldc_w_p, r_ldc_w_m, r_lconst_p, r_lconst_m, r_ldc2_w_p, r_ldc2_w_m, r_iload, r_iload_n, r_lload, r_lload_n, r_aload, r_aload_n, r_istore, r_istore_n, r_astore, r_astore_n, r_lstore, r_lstore_n, r_iinc_p, r_iinc_m, r_iadd, r_isub, r_imul, r_iand, r_ior, r_ixor, r_ishl, r_ishr, r_iushr, r_idiv, r_irem, r_ladd, r_lsub, r_lmul, r_ldiv, r_lrem, r_lshl, r_lcmp, r_i2l, r_i2b, r_i2s, r_dup_i, r_dup_r, r_dup2_ii, r_dup2_ir, r_dup2_l, r_pop, r_getfield, r_putfield, r_iaload, r_iastore, r_aaload, r_arraylength, r_if_eq, r_icmp_eq, r_if_ne, r_icmp_ne, r_if_lt, r_icmp_lt, r_if_ge, r_icmp_ge, r_if_gt, r_icmp_gt, r_if_le, r_icmp_le, r_goto, r_switch, r_ireturn0, r_ireturn1, r_lreturn, r_areturn, r_return, r_inv0, r_inv1, r_inv2, r_inv3, r_inv4, r_inv5, r_min, r_max, r_acopy, onI_s, onL_s, onR_s, onO_s, fv0, fv1, fv2, fv3, fp1, fp20, fp21, fp3, tl_s, tl_n, lg0, lg1, lg2, lg3, lg4, lg5, lg6, lg7, lg8, lg9, lg10, lg11, lg12, lg13, lg14, lg15, lg16, lg17, ls0, ls1, ls2, ls3, ls4, ls5, ls6, ls7, ls8, ls9, ls10, ls11, ls12, ls13, ls14, ls15, ls16, ls17, lk0, lk1, lk2, lk3, lk4, lk5, lk6, lk7, lk8, lk9, lk10, lk11, lk12, lk13, lk14, lk15, lk16, lk17, kl_n, kl_i, kl_r, kl_l, Nat.reduceAdd, Nat.reduceLeDiff, not_false_eq_true, r_ins0, r_ins1, r_ins2, r_ins3, r_ins4, r_ins5]
      rw [brc_neg (nI_ge (by omega) (by omega)), q_le (by omega) (by omega), q_add]
      have h := ih (i + 1) (some (.int (nI (f i)))) (by omega)
      refine ⟨trivial, by simp, brc_i (fun hz => ?_) (fun hz => ?_)⟩
      · have e2 : mnf 10 f (i + 1) = mnf 10 f i := by
          show (if _ then _ else _) = _
          rw [if_neg (by omega)]
        rw [e2] at h
        exact h
      · have e2 : mnf 10 f (i + 1) = (i + 1, f i) := by
          show (if _ then _ else _) = _
          rw [if_pos (by omega)]
        rw [e2, ix_s] at h
        exact h
  exact key 24 0 none (by omega)
