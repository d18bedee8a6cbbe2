/-! Plans: cover, swap, wait -/
def RT (M : Mem) (B : Col) (no : Nat) (ow oq : Nat → Nat) (ne : Nat) (ek ew ec : Nat → Nat) : Prop := RS M 7 8 B ∧ ROr M 9 no ow oq ∧ REv M ne ek ew ec ∧ okC6 B ∧ no ≤ 12 ∧ (∀ i, ow i ≤ 23) ∧ ∀ i, oq i ≤ 9
theorem RT.fr {l : List Nat} {M N : Mem} (h : Fr l M N) (hd : ∀ c, 7 ≤ c → c ≤ 15 → c ∉ l) {B : Col} {no ne : Nat} {ow oq ek ew ec : Nat → Nat} (H : RT M B no ow oq ne ek ew ec) : RT N B no ow oq ne ek ew ec := by
  obtain ⟨h1, h2, h3, h4⟩ := H
  refine ⟨h1.fr h (hd 7 (by omega) (by omega)) (hd 8 (by omega) (by omega)), ?_, h3.fr h (hd 12 (by omega) (by omega)) (hd 13 (by omega) (by omega)) (hd 14 (by omega) (by omega)) (hd 15 (by omega) (by omega)), h4⟩
  unfold ROr
  rw [h 9 (hd 9 (by omega) (by omega)), h 10 (hd 10 (by omega) (by omega)), h 11 (hd 11 (by omega) (by omega))]
  exact h2
theorem RT.ok {M : Mem} {B : Col} {no ne : Nat} {ow oq ek ew ec : Nat → Nat} (H : RT M B no ow oq ne ek ew ec) (x : Wth) : okI (InW B no ow oq x) := ⟨H.2.2.2.1, H.2.2.2.2.1, H.2.2.2.2.2.1, H.2.2.2.2.2.2⟩
/-- the greatest of the first n: its number and 1, its value and 1 -/
def mx (f : Nat → Nat) : Nat → Nat × Nat
  | 0 => (0, 0)
  | n + 1 => if (mx f n).2 < f n + 1 then (n + 1, f n + 1) else mx f n
theorem mx_le {f : Nat → Nat} {k : Nat} (h : ∀ i, f i ≤ k) : ∀ n, (mx f n).1 ≤ n ∧ (mx f n).2 ≤ k + 1
  | 0 => ⟨Nat.le_refl _, Nat.zero_le _⟩
  | n + 1 => by
    have ih := mx_le h n
    have := h n
    unfold mx
    split
    · exact ⟨Nat.le_refl _, by simp only; omega⟩
    · exact ⟨by omega, ih.2⟩
theorem ix_s (k : Nat) : ix (k + 1) = nI k := if_neg (by omega)
theorem ix_le {a : Nat} {k : Nat} (ha : a < 2 ^ 30) (hk : k < 2 ^ 30) : (nI a ≤ ix k) = (a + 1 ≤ k) := by
  unfold ix
  by_cases h : k = 0
  · rw [if_pos h, q_nle (by omega) (by omega) (by omega)]
    exact propext ⟨False.elim, fun q => by omega⟩
  · rw [if_neg h, q_le (by omega) (by omega)]
    exact propext ⟨fun q => by omega, fun q => by omega⟩
/-- a trial changes its own cells alone -/
def Trl : List Nat := [21, 23, 24, 25, 26, 27, 28, 29, 30, 31, 32, 33, 34, 35]
def TrP : List Nat := [20, 21, 23, 24, 25, 26, 27, 28, 29, 30, 31, 32, 33, 34, 35]
def covF (B : Col) (no : Nat) (ow oq : Nat → Nat) (ne : Nat) (ek ew ec : Nat → Nat) (c : Nat) : Nat := icC (yr (InW B no ow oq (hap 2 0 c (evw ek ew ec 255 ne))) 24).1
section CT
variable {M : Mem} {B : Col} {no ne : Nat} {ow oq ek ew ec : Nat → Nat}
set_option maxHeartbeats 4000000 in
theorem s_findCover (H : RT M B no ow oq ne ek ew ec) (hk : M 21 8 = nI 0) : Ct 9 [.ref 20] M (fun r N => r = none ∧ Fr TrP M N ∧ N 20 5 = ix (mx (covF B no ow oq ne ek ew ec) 6).1 ∧ N 20 7 = ix (mx (covF B no ow oq ne ek ew ec) 6).2 ∧ (∀ j, j ≠ 5 → j ≠ 7 → N 20 j = M 20 j) ∧ ∀ j, j ≠ 10 → N 21 j = M 21 j) := by
  generalize hf : covF B no ow oq ne ek ew ec = f
  have hfl : ∀ c, f c ≤ 324 := fun c => by rw [← hf]; exact icC_le (yr_ok (H.ok _) 24).1
  simp only [E_9, B_9_0, B_9_2, B_9_3, cP, r_iconst_p, r_iconst_m, r_bipush_p, r_bipush_m, r_sipush_p, r_sipush_m, r_ldc_p, r_ldc_m, r_ldc_w_p, r_ldc_w_m, r_lconst_p, r_lconst_m, r_ldc2_w_p, r_ldc2_w_m, r_iload, r_iload_n, r_lload, r_lload_n, r_aload, r_aload_n, r_istore, r_istore_n, r_astore, r_astore_n, r_lstore, r_lstore_n, r_iinc_p, r_iinc_m, r_iadd, r_isub, r_imul, r_iand, r_ior, r_ixor, r_ishl, r_ishr, r_iushr, r_idiv, r_irem, r_ladd, r_lsub, r_lmul, r_ldiv, r_lrem, r_lshl, r_lcmp, r_i2l, r_i2b, r_i2s, r_dup_i, r_dup_r, r_dup2_ii, r_dup2_ir, r_dup2_l, r_pop, r_getfield, r_putfield, r_iaload, r_iastore, r_aaload, r_arraylength, r_if_eq, r_icmp_eq, r_if_ne, r_icmp_ne, r_if_lt, r_icmp_lt, r_if_ge, r_icmp_ge, r_if_gt, r_icmp_gt, r_if_le, r_icmp_le, r_goto, r_switch, r_ireturn0, r_ireturn1, r_lreturn, r_areturn, r_return, r_inv0, r_inv1, r_inv2, r_inv3, r_inv4, r_inv5, r_min, r_max, r_acopy, onI_s, onL_s, onR_s, onO_s, fv0, fv1, fv2, fv3, fp1, fp20, fp21, fp3, tl_s, tl_n, lg0, lg1, lg2, lg3, lg4, lg5, lg6, lg7, lg8, lg9, lg10, lg11, lg12, lg13, lg14, lg15, lg16, lg17, ls0, ls1, ls2, ls3, ls4, ls5, ls6, ls7, ls8, ls9, ls10, ls11, ls12, ls13, ls14, ls15, ls16, ls17, lk0, lk1, lk2, lk3, lk4, lk5, lk6, lk7, lk8, lk9, lk10, lk11, lk12, lk13, lk14, lk15, lk16, lk17, kl_n, kl_i, kl_r, kl_l, Nat.reduceAdd, Nat.reduceLeDiff, not_false_eq_true, r_ins0, r_ins1, r_ins2, r_ins3, r_ins4, r_ins5]
  have key : ∀ (n c : Nat) (N : Mem) (v : Option Value), c + n = 6 → Fr TrP M N → N 20 5 = ix (mx f c).1 → N 20 7 = ix (mx f c).2 → (∀ j, j ≠ 5 → j ≠ 7 → N 20 j = M 20 j) → (∀ j, j ≠ 10 → N 21 j = M 21 j) → WP 9 [] 1 [some (.ref 20), some (.int (nI c)), v] [] N (fun r N => r = none ∧ Fr TrP M N ∧ N 20 5 = ix (mx f 6).1 ∧ N 20 7 = ix (mx f 6).2 ∧ (∀ j, j ≠ 5 → j ≠ 7 → N 20 j = M 20 j) ∧ ∀ j, j ≠ 10 → N 21 j = M 21 j) := by
    intro n
    induction n with
    | zero =>
      intro c N v hc hF h5 h7 h20 h21
      obtain rfl : c = 6 := by omega
      rw [B_9_1]
      simp only [B_9_0, B_9_2, B_9_3, cP, r_iconst_p, r_iconst_m, r_bipush_p, r_bipush_m, r_sipush_p, r_sipush_m, r_ldc_p, r_ldc_m, r_ldc_w_p, r_ldc_w_m, r_lconst_p, r_lconst_m, r_ldc2_w_p, r_ldc2_w_m, r_iload, r_iload_n, r_lload, r_lload_n, r_aload, r_aload_n, r_istore, r_istore_n, r_astore, r_astore_n, r_lstore, r_lstore_n, r_iinc_p, r_iinc_m, r_iadd, r_isub, r_imul, r_iand, r_ior, r_ixor, r_ishl, r_ishr, r_iushr, r_idiv, r_irem, r_ladd, r_lsub, r_lmul, r_ldiv, r_lrem, r_lshl, r_lcmp, r_i2l, r_i2b, r_i2s, r_dup_i, r_dup_r, r_dup2_ii, r_dup2_ir, r_dup2_l, r_pop, r_getfield, r_putfield, r_iaload, r_iastore, r_aaload, r_arraylength, r_if_eq, r_icmp_eq, r_if_ne, r_icmp_ne, r_if_lt, r_icmp_lt, r_if_ge, r_icmp_ge, r_if_gt, r_icmp_gt, r_if_le, r_icmp_le, r_goto, r_switch, r_ireturn0, r_ireturn1, r_lreturn, r_areturn, r_return, r_inv0, r_inv1, r_inv2, r_inv3, r_inv4, r_inv5, r_min, r_max, r_acopy, onI_s, onL_s, onR_s, onO_s, fv0, fv1, fv2, fv3, fp1, fp20, fp21, fp3, tl_s, tl_n, lg0, lg1, lg2, lg3, lg4, lg5, lg6, lg7, lg8, lg9, lg10, lg11, lg12, lg13, lg14, lg15, lg16, lg17, ls0, ls1, ls2, ls3, ls4, ls5, ls6, ls7, ls8, ls9, ls10, ls11, ls12, ls13, ls14, ls15, ls16, ls17, lk0, lk1, lk2, lk3, lk4, lk5, lk6, lk7, lk8, lk9, lk10, lk11, lk12, lk13, lk14, lk15, lk16, lk17, kl_n, kl_i, kl_r, kl_l, Nat.reduceAdd, Nat.reduceLeDiff, not_false_eq_true, r_ins0, r_ins1, r_ins2, r_ins3, r_ins4, r_ins5]
      rw [brc_pos (Int32.le_refl _)]
      exact ⟨trivial, hF, h5, h7, h20, h21⟩
    | succ n ih =>
      intro c N v hc hF h5 h7 h20 h21
      have HN : RT N B no ow oq ne ek ew ec := H.fr hF (by unfold TrP; intro c h1 h2 q; simp only [List.mem_cons, List.not_mem_nil, or_false] at q; omega)
      rw [B_9_1]
      simp only [B_9_0, B_9_3, cP, r_iconst_p, r_iconst_m, r_bipush_p, r_bipush_m, r_sipush_p, r_sipush_m, r_ldc_p, r_ldc_m, r_ldc_w_p, r_ldc_w_m, r_lconst_p, r_lconst_m, r_ldc2_w_p, r_ldc2_w_m, r_iload, r_iload_n, r_lload, r_lload_n, r_aload, r_aload_n, r_istore, r_istore_n, r_astore, r_astore_n, r_lstore, r_lstore_n, r_iinc_p, r_iinc_m, r_iadd, r_isub, r_imul, r_iand, r_ior, r_ixor, r_ishl, r_ishr, r_iushr, r_idiv, r_irem, r_ladd, r_lsub, r_lmul, r_ldiv, r_lrem, r_lshl, r_lcmp, r_i2l, r_i2b, r_i2s, r_dup_i, r_dup_r, r_dup2_ii, r_dup2_ir, r_dup2_l, r_pop, r_getfield, r_putfield, r_iaload, r_iastore, r_aaload, r_arraylength, r_if_eq, r_icmp_eq, r_if_ne, r_icmp_ne, r_if_lt, r_icmp_lt, r_if_ge, r_icmp_ge, r_if_gt, r_icmp_gt, r_if_le, r_icmp_le, r_goto, r_switch, r_ireturn0, r_ireturn1, r_lreturn, r_areturn, r_return, r_inv0, r_inv1, r_inv2, r_inv3, r_inv4, r_inv5, r_min, r_max, r_acopy, onI_s, onL_s, onR_s, onO_s, fv0, fv1, fv2, fv3, fp1, fp20, fp21, fp3, tl_s, tl_n, lg0, lg1, lg2, lg3, lg4, lg5, lg6, lg7, lg8, lg9, lg10, lg11, lg12, lg13, lg14, lg15, lg16, lg17, ls0, ls1, ls2, ls3, ls4, ls5, ls6, ls7, ls8, ls9, ls10, ls11, ls12, ls13, ls14, ls15, ls16, ls17, lk0, lk1, lk2, lk3, lk4, lk5, lk6, lk7, lk8, lk9, lk10, lk11, lk12, lk13, lk14, lk15, lk16, lk17, kl_n, kl_i, kl_r, kl_l, Nat.reduceAdd, Nat.reduceLeDiff, not_false_eq_true, r_ins0, r_ins1, r_ins2, r_ins3, r_ins4, r_ins5]
      rw [brc_neg (nI_ge (by omega) (by omega))]
      refine ⟨trivial, by simp, ?_⟩
      refine (s_prep_21 HN.1 HN.2.1 HN.2.2.2.2.1 HN.2.2.1 (by omega)).mono ?_
      rintro r N1 ⟨rfl, F1, R1, O1, W1⟩
      simp only [B_9_0, B_9_3, cP, r_iconst_p, r_iconst_m, r_bipush_p, r_bipush_m, r_sipush_p, r_sipush_m, r_ldc_p, r_ldc_m, r_ldc_w_p, r_ldc_w_m, r_lconst_p, r_lconst_m, r_ldc2_w_p, r_ldc2_w_m, r_iload, r_iload_n, r_lload, r_lload_n, r_aload, r_aload_n, r_istore, r_istore_n, r_astore, r_astore_n, r_lstore, r_lstore_n, r_iinc_p, r_iinc_m, r_iadd, r_isub, r_imul, r_iand, r_ior, r_ixor, r_ishl, r_ishr, r_iushr, r_idiv, r_irem, r_ladd, r_lsub, r_lmul, r_ldiv, r_lrem, r_lshl, r_lcmp, r_i2l, r_i2b, r_i2s, r_dup_i, r_dup_r, r_dup2_ii, r_dup2_ir, r_dup2_l, r_pop, r_getfield, r_putfield, r_iaload, r_iastore, r_aaload, r_arraylength, r_if_eq, r_icmp_eq, r_if_ne, r_icmp_ne, r_if_lt, r_icmp_lt, r_if_ge, r_icmp_ge, r_if_gt, r_icmp_gt, r_if_le, r_icmp_le, r_goto, r_switch, r_ireturn0, r_ireturn1, r_lreturn, r_areturn, r_return, r_inv0, r_inv1, r_inv2, r_inv3, r_inv4, r_inv5, r_min, r_max, r_acopy, onI_s, onL_s, onR_s, onO_s, fv0, fv1, fv2, fv3, fp1, fp20, fp21, fp3, tl_s, tl_n, lg0, lg1, lg2, lg3, lg4, lg5, lg6, lg7, lg8, lg9, lg10, lg11, lg12, lg13, lg14, lg15, lg16, lg17, ls0, ls1, ls2, ls3, ls4, ls5, ls6, ls7, ls8, ls9, ls10, ls11, ls12, ls13, ls14, ls15, ls16, ls17, lk0, lk1, lk2, lk3, lk4, lk5, lk6, lk7, lk8, lk9, lk10, lk11, lk12, lk13, lk14, lk15, lk16, lk17, kl_n, kl_i, kl_r, kl_l, Nat.reduceAdd, Nat.reduceLeDiff, not_false_eq_true, r_ins0, r_ins1, r_ins2, r_ins3, r_ins4, r_ins5]
      refine ⟨trivial, by simp, ?_⟩
      have okw := evw_ok (ek := ek) (ec := ec) (e := 255) (fun j => (H.2.2.1.2.2.2 j).2.1) ne
      refine (s_happen_28 (by omega) (by omega) (by omega) W1 okw).mono ?_
      rintro r N2 ⟨rfl, F2, W2⟩
      simp only [B_9_0, B_9_3, cP, r_iconst_p, r_iconst_m, r_bipush_p, r_bipush_m, r_sipush_p, r_sipush_m, r_ldc_p, r_ldc_m, r_ldc_w_p, r_ldc_w_m, r_lconst_p, r_lconst_m, r_ldc2_w_p, r_ldc2_w_m, r_iload, r_iload_n, r_lload, r_lload_n, r_aload, r_aload_n, r_istore, r_istore_n, r_astore, r_astore_n, r_lstore, r_lstore_n, r_iinc_p, r_iinc_m, r_iadd, r_isub, r_imul, r_iand, r_ior, r_ixor, r_ishl, r_ishr, r_iushr, r_idiv, r_irem, r_ladd, r_lsub, r_lmul, r_ldiv, r_lrem, r_lshl, r_lcmp, r_i2l, r_i2b, r_i2s, r_dup_i, r_dup_r, r_dup2_ii, r_dup2_ir, r_dup2_l, r_pop, r_getfield, r_putfield, r_iaload, r_iastore, r_aaload, r_arraylength, r_if_eq, r_icmp_eq, r_if_ne, r_icmp_ne, r_if_lt, r_icmp_lt, r_if_ge, r_icmp_ge, r_if_gt, r_icmp_gt, r_if_le, r_icmp_le, r_goto, r_switch, r_ireturn0, r_ireturn1, r_lreturn, r_areturn, r_return, r_inv0, r_inv1, r_inv2, r_inv3, r_inv4, r_inv5, r_min, r_max, r_acopy, onI_s, onL_s, onR_s, onO_s, fv0, fv1, fv2, fv3, fp1, fp20, fp21, fp3, tl_s, tl_n, lg0, lg1, lg2, lg3, lg4, lg5, lg6, lg7, lg8, lg9, lg10, lg11, lg12, lg13, lg14, lg15, lg16, lg17, ls0, ls1, ls2, ls3, ls4, ls5, ls6, ls7, ls8, ls9, ls10, ls11, ls12, ls13, ls14, ls15, ls16, ls17, lk0, lk1, lk2, lk3, lk4, lk5, lk6, lk7, lk8, lk9, lk10, lk11, lk12, lk13, lk14, lk15, lk16, lk17, kl_n, kl_i, kl_r, kl_l, Nat.reduceAdd, Nat.reduceLeDiff, not_false_eq_true, r_ins0, r_ins1, r_ins2, r_ins3, r_ins4, r_ins5]
      refine ⟨trivial, by simp, ?_⟩
      refine (s_run_21 (R1.fr F2 (by decide) (by decide)) (by unfold ROr; rw [F2 25 (by decide), F2 26 (by decide), F2 27 (by decide)]; exact O1) W2 (H.ok _) (hap_ok okw (by omega)) (by rw [F2 21 (by decide), F1 21 (by decide), h21 8 (by decide)]; exact hk)).mono ?_
      rintro r N3 ⟨rfl, F3, Oc3, K3⟩
      simp only [B_9_0, B_9_3, cP, r_iconst_p, r_iconst_m, r_bipush_p, r_bipush_m, r_sipush_p, r_sipush_m, r_ldc_p, r_ldc_m, r_ldc_w_p, r_ldc_w_m, r_lconst_p, r_lconst_m, r_ldc2_w_p, r_ldc2_w_m, r_iload, r_iload_n, r_lload, r_lload_n, r_aload, r_aload_n, r_istore, r_istore_n, r_astore, r_astore_n, r_lstore, r_lstore_n, r_iinc_p, r_iinc_m, r_iadd, r_isub, r_imul, r_iand, r_ior, r_ixor, r_ishl, r_ishr, r_iushr, r_idiv, r_irem, r_ladd, r_lsub, r_lmul, r_ldiv, r_lrem, r_lshl, r_lcmp, r_i2l, r_i2b, r_i2s, r_dup_i, r_dup_r, r_dup2_ii, r_dup2_ir, r_dup2_l, r_pop, r_getfield, r_putfield, r_iaload, r_iastore, r_aaload, r_arraylength, r_if_eq, r_icmp_eq, r_if_ne, r_icmp_ne, r_if_lt, r_icmp_lt, r_if_ge, r_icmp_ge, r_if_gt, r_icmp_gt, r_if_le, r_icmp_le, r_goto, r_switch, r_ireturn0, r_ireturn1, r_lreturn, r_areturn, r_return, r_inv0, r_inv1, r_inv2, r_inv3, r_inv4, r_inv5, r_min, r_max, r_acopy, onI_s, onL_s, onR_s, onO_s, fv0, fv1, fv2, fv3, fp1, fp20, fp21, fp3, tl_s, tl_n, lg0, lg1, lg2, lg3, lg4, lg5, lg6, lg7, lg8, lg9, lg10, lg11, lg12, lg13, lg14, lg15, lg16, lg17, ls0, ls1, ls2, ls3, ls4, ls5, ls6, ls7, ls8, ls9, ls10, ls11, ls12, ls13, ls14, ls15, ls16, ls17, lk0, lk1, lk2, lk3, lk4, lk5, lk6, lk7, lk8, lk9, lk10, lk11, lk12, lk13, lk14, lk15, lk16, lk17, kl_n, kl_i, kl_r, kl_l, Nat.reduceAdd, Nat.reduceLeDiff, not_false_eq_true, r_ins0, r_ins1, r_ins2, r_ins3, r_ins4, r_ins5]
      have e3 : N3 31 23 = nI (f c) := by rw [Oc3.1 23 (by omega), ← hf]; rfl
      have g20 : N3 20 = N 20 := by rw [F3 20 (by decide), F2 20 (by decide), F1 20 (by decide)]
      have g21 : ∀ j, j ≠ 10 → N3 21 j = M 21 j := fun j hj => by rw [K3 j hj, F2 21 (by decide), F1 21 (by decide)]; exact h21 j hj
      have gF : Fr TrP M N3 := ((hF.tr F1 (l := TrP) (fun _ h => h) (by decide)).tr F2 (l := TrP) (fun _ h => h) (by decide)).tr F3 (fun _ h => h) (by decide)
      have hm := (mx_le hfl c).2
      have hfc := hfl c
      rw [inb_n (n := 24) rfl (by omega) (by omega), nI_clamp (by omega), e3, g20, h7, ix_le (by omega) (by omega)]
      refine ⟨by omega, brc_i (fun hz => ?_) (fun hz => ?_)⟩
      · simp only [B_9_0, B_9_2, B_9_3, cP, r_iconst_p, r_iconst_m, r_bipush_p, r_bipush_m, r_sipush_p, r_sipush_m, r_ldc_p, r_ldc_m, r_ldc_w_p, r_ldc_w_m, r_lconst_p, r_lconst_m, r_ldc2_w_p, r_ldc2_w_m, r_iload, r_iload_n, r_lload, r_lload_n, r_aload, r_aload_n, r_istore, r_istore_n, r_astore, r_astore_n, r_lstore, r_lstore_n, r_iinc_p, r_iinc_m, r_iadd, r_isub, r_imul, r_iand, r_ior, r_ixor, r_ishl, r_ishr, r_iushr, r_idiv, r_irem, r_ladd, r_lsub, r_lmul, r_ldiv, r_lrem, r_lshl, r_lcmp, r_i2l, r_i2b, r_i2s, r_dup_i, r_dup_r, r_dup2_ii, r_dup2_ir, r_dup2_l, r_pop, r_getfield, r_putfield, r_iaload, r_iastore, r_aaload, r_arraylength, r_if_eq, r_icmp_eq, r_if_ne, r_icmp_ne, r_if_lt, r_icmp_lt, r_if_ge, r_icmp_ge, r_if_gt, r_icmp_gt, r_if_le, r_icmp_le, r_goto, r_switch, r_ireturn0, r_ireturn1, r_lreturn, r_areturn, r_return, r_inv0, r_inv1, r_inv2, r_inv3, r_inv4, r_inv5, r_min, r_max, r_acopy, onI_s, onL_s, onR_s, onO_s, fv0, fv1, fv2, fv3, fp1, fp20, fp21, fp3, tl_s, tl_n, lg0, lg1, lg2, lg3, lg4, lg5, lg6, lg7, lg8, lg9, lg10, lg11, lg12, lg13, lg14, lg15, lg16, lg17, ls0, ls1, ls2, ls3, ls4, ls5, ls6, ls7, ls8, ls9, ls10, ls11, ls12, ls13, ls14, ls15, ls16, ls17, lk0, lk1, lk2, lk3, lk4, lk5, lk6, lk7, lk8, lk9, lk10, lk11, lk12, lk13, lk14, lk15, lk16, lk17, kl_n, kl_i, kl_r, kl_l, Nat.reduceAdd, Nat.reduceLeDiff, not_false_eq_true, r_ins0, r_ins1, r_ins2, r_ins3, r_ins4, r_ins5]
        have e1 : mx f (c + 1) = mx f c := by
          show (if _ then _ else _) = _
          rw [if_neg (by omega)]
        rw [q_add]
        exact ih (c + 1) N3 _ (by omega) gF (by rw [e1, g20]; exact h5) (by rw [e1, g20]; exact h7) (by rw [g20]; exact h20) g21
      · simp only [B_9_0, B_9_2, B_9_3, cP, r_iconst_p, r_iconst_m, r_bipush_p, r_bipush_m, r_sipush_p, r_sipush_m, r_ldc_p, r_ldc_m, r_ldc_w_p, r_ldc_w_m, r_lconst_p, r_lconst_m, r_ldc2_w_p, r_ldc2_w_m, r_iload, r_iload_n, r_lload, r_lload_n, r_aload, r_aload_n, r_istore, r_istore_n, r_astore, r_astore_n, r_lstore, r_lstore_n, r_iinc_p, r_iinc_m, r_iadd, r_isub, r_imul, r_iand, r_ior, r_ixor, r_ishl, r_ishr, r_iushr, r_idiv, r_irem, r_ladd, r_lsub, r_lmul, r_ldiv, r_lrem, r_lshl, r_lcmp, r_i2l, r_i2b, r_i2s, r_dup_i, r_dup_r, r_dup2_ii, r_dup2_ir, r_dup2_l, r_pop, r_getfield, r_putfield, r_iaload, r_iastore, r_aaload, r_arraylength, r_if_eq, r_icmp_eq, r_if_ne, r_icmp_ne, r_if_lt, r_icmp_lt, r_if_ge, r_icmp_ge, r_if_gt, r_icmp_gt, r_if_le, r_icmp_le, r_goto, r_switch, r_ireturn0, r_ireturn1, r_lreturn, r_areturn, r_return, r_inv0, r_inv1, r_inv2, r_inv3, r_inv4, r_inv5, r_min, r_max, r_acopy, onI_s, onL_s, onR_s, onO_s, fv0, fv1, fv2, fv3, fp1, fp20, fp21, fp3, tl_s, tl_n, lg0, lg1, lg2, lg3, lg4, lg5, lg6, lg7, lg8, lg9, lg10, lg11, lg12, lg13, lg14, lg15, lg16, lg17, ls0, ls1, ls2, ls3, ls4, ls5, ls6, ls7, ls8, ls9, ls10, ls11, ls12, ls13, ls14, ls15, ls16, ls17, lk0, lk1, lk2, lk3, lk4, lk5, lk6, lk7, lk8, lk9, lk10, lk11, lk12, lk13, lk14, lk15, lk16, lk17, kl_n, kl_i, kl_r, kl_l, Nat.reduceAdd, Nat.reduceLeDiff, not_false_eq_true, r_ins0, r_ins1, r_ins2, r_ins3, r_ins4, r_ins5]
        have e1 : mx f (c + 1) = (c + 1, f c + 1) := by
          show (if _ then _ else _) = _
          rw [if_pos (by omega)]
        rw [q_add]
        refine ih (c + 1) _ _ (by omega) ((gF.st (by decide)).st (by decide)) ?_ ?_ ?_ ?_
        · rw [e1, ix_s, sm_eq, u_eq]
        · rw [e1, ix_s, sm_eq, u_ne (by decide), sm_eq, u_eq]
        · intro j a1 a2
          rw [sm_eq, u_ne a1, sm_eq, u_ne a2, g20]
          exact h20 j a1 a2
        · intro j hj
          rw [sm_ne (by decide), sm_ne (by decide)]
          exact g21 j hj
  refine key 6 0 _ _ (by omega) ((Fr.rf.st (by decide)).st (by decide)) ?_ ?_ ?_ ?_
  · rw [sm_eq, u_ne (by decide), sm_eq, u_eq]; rfl
  · rw [sm_eq, u_eq]; rfl
  · intro j a1 a2
    rw [sm_eq, u_ne a2, sm_eq, u_ne a1]
  · intro j _
    rw [sm_ne (by decide), sm_ne (by decide)]
end CT
