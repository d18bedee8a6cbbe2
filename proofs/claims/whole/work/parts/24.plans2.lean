/-! Plans: exchange, swap, wait -/
def swp (C : Col) (a b : Nat) : Col := fun d => if d = a then C b else if d = b then C a else C d
theorem swp_ok {C : Col} (h : okC6 C) (a b : Nat) : okC6 (swp C a b) := by
  intro d
  unfold swp
  split
  · exact h b
  · split
    · exact h a
    · exact h d
set_option maxHeartbeats 4000000 in
theorem s_exchange {M : Mem} {C : Col} {a b : Nat} (H : RS M 23 24 C) (ha : a < b) (hb : b < 6) : Ct 36 [.ref 22, .int (nI a), .int (nI b)] M (fun r N => r = none ∧ Fr [23, 24] M N ∧ RS N 23 24 (swp C a b)) := by
  simp only [E_36, B_36_0, B_36_2, cP, r_iconst_p, r_iconst_m, r_bipush_p, r_bipush_m, r_sipush_p, r_sipush_m, r_ldc_p, r_ldc_m, r_ldc_w_p, r_ldc_w_m, r_lconst_p, r_lconst_m, r_ldc2_w_p, r_ldc2_w_m, r_iload, r_iload_n, r_lload, r_lload_n, r_aload, r_aload_n, r_istore, r_istore_n, r_astore, r_astore_n, r_lstore, r_lstore_n, r_iinc_p, r_iinc_m, r_iadd, r_isub, r_imul, r_iand, r_ior, r_ixor, r_ishl, r_ishr, r_iushr, r_idiv, r_irem, r_ladd, r_lsub, r_lmul, r_ldiv, r_lrem, r_lshl, r_lcmp, r_i2l, r_i2b, r_i2s, r_dup_i, r_dup_r, r_dup2_ii, r_dup2_ir, r_dup2_l, r_pop, r_getfield, r_putfield, r_iaload, r_iastore, r_aaload, r_arraylength, r_if_eq, r_icmp_eq, r_if_ne, r_icmp_ne, r_if_lt, r_icmp_lt, r_if_ge, r_icmp_ge, r_if_gt, r_icmp_gt, r_if_le, r_icmp_le, r_goto, r_switch, r_ireturn0, r_ireturn1, r_lreturn, r_areturn, r_return, r_inv0, r_inv1, r_inv2, r_inv3, r_inv4, r_inv5, r_min, r_max, r_acopy, onI_s, onL_s, onR_s, onO_s, fv0, fv1, fv2, fv3, fp1, fp20, fp21, fp3, tl_s, tl_n, lg0, lg1, lg2, lg3, lg4, lg5, lg6, lg7, lg8, lg9, lg10, lg11, lg12, lg13, lg14, lg15, lg16, lg17, ls0, ls1, ls2, ls3, ls4, ls5, ls6, ls7, ls8, ls9, ls10, ls11, ls12, ls13, ls14, ls15, ls16, ls17, lk0, lk1, lk2, lk3, lk4, lk5, lk6, lk7, lk8, lk9, lk10, lk11, lk12, lk13, lk14, lk15, lk16, lk17, kl_n, kl_i, kl_r, kl_l, Nat.reduceAdd, Nat.reduceLeDiff, not_false_eq_true, r_ins0, r_ins1, r_ins2, r_ins3, r_ins4, r_ins5]
  have key : ∀ (n i : Nat) (N : Mem) (v : Option Value), i + n = 6 → Fr [23] M N → (∀ j, j < 6 → N 23 (a * 6 + j) = nI (if j < i then (C b).getD j 0 else (C a).getD j 0)) → (∀ j, j < 6 → N 23 (b * 6 + j) = nI (if j < i then (C a).getD j 0 else (C b).getD j 0)) → (∀ d, d < 6 → d ≠ a → d ≠ b → ∀ j, j < 6 → N 23 (d * 6 + j) = nI ((C d).getD j 0)) → WP 36 [] 1 [some (.ref 22), some (.int (nI a)), some (.int (nI b)), some (.int (nI i)), v] [] N (fun r N => r = none ∧ Fr [23, 24] M N ∧ RS N 23 24 (swp C a b)) := by
    intro n
    induction n with
    | zero =>
      intro i N v hi hF h1 h2 h3
      obtain rfl : i = 6 := by omega
      have e24 : N 24 = M 24 := hF 24 (by decide)
      rw [B_36_1]
      simp only [B_36_0, B_36_2, cP, nI_clamp (show a < 2 ^ 31 by omega), nI_clamp (show b < 2 ^ 31 by omega), r_iconst_p, r_iconst_m, r_bipush_p, r_bipush_m, r_sipush_p, r_sipush_m, r_ldc_p, r_ldc_m, r_ldc_w_p, r_ldc_w_m, r_lconst_p, r_lconst_m, r_ldc2_w_p, r_ldc2_w_m, r_iload, r_iload_n, r_lload, r_lload_n, r_aload, r_aload_n, r_istore, r_istore_n, r_astore, r_astore_n, r_lstore, r_lstore_n, r_iinc_p, r_iinc_m, r_iadd, r_isub, r_imul, r_iand, r_ior, r_ixor, r_ishl, r_ishr, r_iushr, r_idiv, r_irem, r_ladd, r_lsub, r_lmul, r_ldiv, r_lrem, r_lshl, r_lcmp, r_i2l, r_i2b, r_i2s, r_dup_i, r_dup_r, r_dup2_ii, r_dup2_ir, r_dup2_l, r_pop, r_getfield, r_putfield, r_iaload, r_iastore, r_aaload, r_arraylength, r_if_eq, r_icmp_eq, r_if_ne, r_icmp_ne, r_if_lt, r_icmp_lt, r_if_ge, r_icmp_ge, r_if_gt, r_icmp_gt, r_if_le, r_icmp_le, r_goto, r_switch, r_ireturn0, r_ireturn1, r_lreturn, r_areturn, r_return, r_inv0, r_inv1, r_inv2, r_inv3, r_inv4, r_inv5, r_min, r_max, r_acopy, onI_s, onL_s, onR_s, onO_s, fv0, fv1, fv2, fv3, fp1, fp20, fp21, fp3, tl_s, tl_n, lg0, lg1, lg2, lg3, lg4, lg5, lg6, lg7, lg8, lg9, lg10, lg11, lg12, lg13, lg14, lg15, lg16, lg17, ls0, ls1, ls2, ls3, ls4, ls5, ls6, ls7, ls8, ls9, ls10, ls11, ls12, ls13, ls14, ls15, ls16, ls17, lk0, lk1, lk2, lk3, lk4, lk5, lk6, lk7, lk8, lk9, lk10, lk11, lk12, lk13, lk14, lk15, lk16, lk17, kl_n, kl_i, kl_r, kl_l, Nat.reduceAdd, Nat.reduceLeDiff, not_false_eq_true, r_ins0, r_ins1, r_ins2, r_ins3, r_ins4, r_ins5]
      rw [brc_pos (Int32.le_refl _), inb_n (n := 6) rfl (by omega) (by omega), inb_n (n := 6) rfl (by omega) (by omega)]
      refine ⟨by omega, by omega, by omega, by omega, trivial, ((hF.sub (by decide)).st (by decide)).st (by decide), ?_⟩
      intro d hd
      rw [sm_eq, sm_eq, sm_ne (show ¬ 23 = 24 by decide), sm_ne (show ¬ 23 = 24 by decide), e24]
      unfold swp
      by_cases e1 : d = a
      · subst e1
        rw [if_pos rfl, u_ne (by omega), u_eq]
        exact ⟨(H b hb).1, fun j hj => by rw [h1 j hj, if_pos hj]⟩
      · rw [if_neg e1]
        by_cases e2 : d = b
        · subst e2
          rw [if_pos rfl, u_eq]
          exact ⟨(H a (by omega)).1, fun j hj => by rw [h2 j hj, if_pos hj]⟩
        · rw [if_neg e2, u_ne e2, u_ne e1]
          exact ⟨(H d hd).1, fun j hj => h3 d hd e1 e2 j hj⟩
    | succ n ih =>
      intro i N v hi hF h1 h2 h3
      rw [B_36_1]
      simp only [B_36_0, B_36_2, cP, q_mul, q_add, nI_clamp (show a * 6 + i < 2 ^ 31 by omega), nI_clamp (show b * 6 + i < 2 ^ 31 by omega), r_iconst_p, r_iconst_m, r_bipush_p, r_bipush_m, r_sipush_p, r_sipush_m, r_ldc_p, r_ldc_m, r_ldc_w_p, r_ldc_w_m, r_lconst_p, r_lconst_m, r_ldc2_w_p, r_ldc2_w_m, r_iload, r_iload_n, r_lload, r_lload_n, r_aload, r_aload_n, r_istore, r_istore_n, r_astore, r_astore_n, r_lstore, r_lstore_n, r_iinc_p, r_iinc_m, r_iadd, r_isub, r_imul, r_iand, r_ior, r_ixor, r_ishl, r_ishr, r_iushr, r_idiv, r_irem, r_ladd, r_lsub, r_lmul, r_ldiv, r_lrem, r_lshl, r_lcmp, r_i2l, r_i2b, r_i2s, r_dup_i, r_dup_r, r_dup2_ii, r_dup2_ir, r_dup2_l, r_pop, r_getfield, r_putfield, r_iaload, r_iastore, r_aaload, r_arraylength, r_if_eq, r_icmp_eq, r_if_ne, r_icmp_ne, r_if_lt, r_icmp_lt, r_if_ge, r_icmp_ge, r_if_gt, r_icmp_gt, r_if_le, r_icmp_le, r_goto, r_switch, r_ireturn0, r_ireturn1, r_lreturn, r_areturn, r_return, r_inv0, r_inv1, r_inv2, r_inv3, r_inv4, r_inv5, r_min, r_max, r_acopy, onI_s, onL_s, onR_s, onO_s, fv0, fv1, fv2, fv3, fp1, fp20, fp21, fp3, tl_s, tl_n, lg0, lg1, lg2, lg3, lg4, lg5, lg6, lg7, lg8, lg9, lg10, lg11, lg12, lg13, lg14, lg15, lg16, lg17, ls0, ls1, ls2, ls3, ls4, ls5, ls6, ls7, ls8, ls9, ls10, ls11, ls12, ls13, ls14, ls15, ls16, ls17, lk0, lk1, lk2, lk3, lk4, lk5, lk6, lk7, lk8, lk9, lk10, lk11, lk12, lk13, lk14, lk15, lk16, lk17, kl_n, kl_i, kl_r, kl_l, Nat.reduceAdd, Nat.reduceLeDiff, not_false_eq_true, r_ins0, r_ins1, r_ins2, r_ins3, r_ins4, r_ins5]
      rw [brc_neg (nI_ge (by omega) (by omega)), inb_n (n := 36) rfl (by omega) (by omega), inb_n (n := 36) rfl (by omega) (by omega)]
      refine ⟨by omega, by omega, by omega, by omega, ?_⟩
      refine ih (i + 1) _ _ (by omega) ((hF.st (by decide)).st (by decide)) ?_ ?_ ?_
      · intro j hj
        rw [sm_eq, u_ne (by omega), sm_eq, u_if]
        by_cases e : j = i
        · rw [if_pos (by omega), e, if_pos (by omega), h2 i (by omega), if_neg (by omega)]
        · rw [if_neg (by omega), h1 j hj]
          by_cases q : j < i
          · rw [if_pos q, if_pos (by omega)]
          · rw [if_neg q, if_neg (by omega)]
      · intro j hj
        rw [sm_eq, u_if]
        by_cases e : j = i
        · rw [if_pos (by omega), e, if_pos (by omega), h1 i (by omega), if_neg (by omega)]
        · rw [if_neg (by omega), sm_eq, u_ne (by omega), h2 j hj]
          by_cases q : j < i
          · rw [if_pos q, if_pos (by omega)]
          · rw [if_neg q, if_neg (by omega)]
      · intro d hd n1 n2 j hj
        rw [sm_eq, u_ne (by omega), sm_eq, u_ne (by omega)]
        exact h3 d hd n1 n2 j hj
  exact key 6 0 M none (by omega) Fr.rf (fun j hj => by rw [if_neg (by omega)]; exact (H a (by omega)).2 j hj) (fun j hj => by rw [if_neg (by omega)]; exact (H b hb).2 j hj) (fun d hd _ _ j hj => (H d hd).2 j hj)
/-- over codes of pairs -/
def mxs (f : Nat → Nat) : Nat → Nat × Nat
  | 0 => (0, 0)
  | n + 1 => if n / 6 < n % 6 ∧ (mxs f n).2 < f n + 1 then (n + 1, f n + 1) else mxs f n
theorem mxs_le {f : Nat → Nat} {k : Nat} (h : ∀ i, f i ≤ k) : ∀ n, (mxs f n).1 ≤ n ∧ (mxs f n).2 ≤ k + 1
  | 0 => ⟨Nat.le_refl _, Nat.zero_le _⟩
  | n + 1 => by
    have ih := mxs_le h n
    have := h n
    unfold mxs
    split
    · exact ⟨Nat.le_refl _, by simp only; omega⟩
    · exact ⟨by omega, ih.2⟩
theorem mxs_s (f : Nat → Nat) (n : Nat) : mxs f (n + 1) = if n / 6 < n % 6 ∧ (mxs f n).2 < f n + 1 then (n + 1, f n + 1) else mxs f n := rfl
theorem mxs_skip {f : Nat → Nat} {n : Nat} (h : ¬ n / 6 < n % 6) : mxs f (n + 1) = mxs f n := by
  show (if _ then _ else _) = _
  rw [if_neg (fun q => h q.1)]
theorem mxs_skips {f : Nat → Nat} {a : Nat} (ha : a < 6) : ∀ k, k ≤ a + 1 → mxs f (a * 6 + k) = mxs f (a * 6)
  | 0, _ => rfl
  | k + 1, hk => by
    rw [show a * 6 + (k + 1) = (a * 6 + k) + 1 by omega, mxs_skip (by omega)]
    exact mxs_skips ha k (by omega)
def swaF (B : Col) (no : Nat) (ow oq : Nat → Nat) (ne : Nat) (ek ew ec : Nat → Nat) (c : Nat) : Nat := icC (yr (InW (swp B (c / 6) (c % 6)) no ow oq (evw ek ew ec 255 ne)) 24).1
/-- of a code and 1: the first column, the second; none -/
def cdA (k : Nat) : Int32 := if k = 0 then mI 1 else nI ((k - 1) / 6)
def cdB (k : Nat) : Int32 := if k = 0 then mI 1 else nI ((k - 1) % 6)
section CT
variable {M : Mem} {B : Col} {no ne : Nat} {ow oq ek ew ec : Nat → Nat}
theorem TrP_no {c : Nat} (h1 : 7 ≤ c) (h2 : c ≤ 19) : c ∉ TrP := by
  unfold TrP
  intro q
  simp only [List.mem_cons, List.not_mem_nil, or_false] at q
  omega
theorem RT.trp {N : Mem} (H : RT M B no ow oq ne ek ew ec) (hF : Fr TrP M N) : RT N B no ow oq ne ek ew ec := H.fr hF (fun c h1 h2 => TrP_no h1 (by omega))
/-- prepare and run of the trial, as they stand in most plans -/
theorem t_prep {N : Mem} {e : Nat} (H : RT M B no ow oq ne ek ew ec) (hF : Fr TrP M N) (he : e < 2 ^ 31) (h21 : ∀ j, j ≠ 10 → N 21 j = M 21 j) : Ct 41 [.ref 21, .ref 1, .int (nI e)] N (fun r N1 => r = none ∧ Fr TrP M N1 ∧ N1 20 = N 20 ∧ Fr Trl N N1 ∧ RS N1 23 24 B ∧ ROr N1 25 no ow oq ∧ RWt N1 28 (evw ek ew ec e ne) ∧ ∀ j, j ≠ 10 → N1 21 j = M 21 j) := by
  have HN := H.trp hF
  refine (s_prep_21 HN.1 HN.2.1 HN.2.2.2.2.1 HN.2.2.1 he).mono ?_
  rintro r N1 ⟨rfl, F1, R1, O1, W1⟩
  exact ⟨rfl, hF.tr F1 (fun _ h => h) (by decide), F1 20 (by decide), F1.sub (by decide), R1, O1, W1, fun j hj => by rw [F1 21 (by decide)]; exact h21 j hj⟩
theorem t_run {N : Mem} {C : Col} {no' : Nat} {ow' oq' : Nat → Nat} {x : Wth} (hF : Fr TrP M N) (R1 : RS N 23 24 C) (O1 : ROr N 25 no' ow' oq') (W1 : RWt N 28 x) (hI : okI (InW C no' ow' oq' x)) (hx : okWt x) (hk : M 21 8 = nI 0) (h21 : ∀ j, j ≠ 10 → N 21 j = M 21 j) : Ct 42 [.ref 21] N (fun r N1 => r = none ∧ Fr TrP M N1 ∧ N1 20 = N 20 ∧ Fr Trl N N1 ∧ Oc 21 0 (InW C no' ow' oq' x) N1 ∧ ∀ j, j ≠ 10 → N1 21 j = M 21 j) := by
  refine (s_run_21 R1 O1 W1 hI hx (by rw [h21 8 (by decide)]; exact hk)).mono ?_
  rintro r N3 ⟨rfl, F3, Oc3, K3⟩
  exact ⟨rfl, hF.tr F3 (fun _ h => h) (by decide), F3 20 (by decide), F3.sub (by decide), Oc3, fun j hj => by rw [K3 j hj]; exact h21 j hj⟩
theorem evw_okH (H : RT M B no ow oq ne ek ew ec) (e n : Nat) : okWt (evw ek ew ec e n) := evw_ok (fun j => (H.2.2.1.2.2.2 j).2.1) n
set_option maxHeartbeats 4000000 in
theorem s_findSwap (H : RT M B no ow oq ne ek ew ec) (hk : M 21 8 = nI 0) : Ct 10 [.ref 20] M (fun r N => r = none ∧ Fr TrP M N ∧ N 20 5 = cdA (mxs (swaF B no ow oq ne ek ew ec) 36).1 ∧ N 20 6 = cdB (mxs (swaF B no ow oq ne ek ew ec) 36).1 ∧ N 20 7 = ix (mxs (swaF B no ow oq ne ek ew ec) 36).2 ∧ (∀ j, j ≠ 5 → j ≠ 6 → j ≠ 7 → N 20 j = M 20 j) ∧ ∀ j, j ≠ 10 → N 21 j = M 21 j) := by
  generalize hf : swaF B no ow oq ne ek ew ec = f
  have hfl : ∀ c, f c ≤ 324 := fun c => by rw [← hf]; exact icC_le (yr_ok (show okI (InW (swp B (c / 6) (c % 6)) no ow oq (evw ek ew ec 255 ne)) from ⟨swp_ok H.2.2.2.1 _ _, H.2.2.2.2.1, H.2.2.2.2.2.1, H.2.2.2.2.2.2⟩) 24).1
  simp only [E_10, B_10_0, B_10_3, B_10_4, B_10_5, cP, r_iconst_p, r_iconst_m, r_bipush_p, r_bipush_m, r_sipush_p, r_sipush_m, r_ldc_p, r_ldc_m, r_ldc_w_p, r_ldc_w_m, r_lconst_p, r_lconst_m, r_ldc2_w_p, r_ldc2_w_m, r_iload, r_iload_n, r_lload, r_lload_n, r_aload, r_aload_n, r_istore, r_istore_n, r_astore, r_astore_n, r_lstore, r_lstore_n, r_iinc_p, r_iinc_m, r_iadd, r_isub, r_imul, r_iand, r_ior, r_ixor, r_ishl, r_ishr, r_iushr, r_idiv, r_irem, r_ladd, r_lsub, r_lmul, r_ldiv, r_lrem, r_lshl, r_lcmp, r_i2l, r_i2b, r_i2s, r_dup_i, r_dup_r, r_dup2_ii, r_dup2_ir, r_dup2_l, r_pop, r_getfield, r_putfield, r_iaload, r_iastore, r_aaload, r_arraylength, r_if_eq, r_icmp_eq, r_if_ne, r_icmp_ne, r_if_lt, r_icmp_lt, r_if_ge, r_icmp_ge, r_if_gt, r_icmp_gt, r_if_le, r_icmp_le, r_goto, r_switch, r_ireturn0, r_ireturn1, r_lreturn, r_areturn, r_return, r_inv0, r_inv1, r_inv2, r_inv3, r_inv4, r_inv5, r_min, r_max, r_acopy, onI_s, onL_s, onR_s, onO_s, fv0, fv1, fv2, fv3, fp1, fp20, fp21, fp3, tl_s, tl_n, lg0, lg1, lg2, lg3, lg4, lg5, lg6, lg7, lg8, lg9, lg10, lg11, lg12, lg13, lg14, lg15, lg16, lg17, ls0, ls1, ls2, ls3, ls4, ls5, ls6, ls7, ls8, ls9, ls10, ls11, ls12, ls13, ls14, ls15, ls16, ls17, lk0, lk1, lk2, lk3, lk4, lk5, lk6, lk7, lk8, lk9, lk10, lk11, lk12, lk13, lk14, lk15, lk16, lk17, kl_n, kl_i, kl_r, kl_l, Nat.reduceAdd, Nat.reduceLeDiff, not_false_eq_true, r_ins0, r_ins1, r_ins2, r_ins3, r_ins4, r_ins5]
  generalize hQ : (fun (r : Option Value) (N : Mem) => r = none ∧ Fr TrP M N ∧ N 20 5 = cdA (mxs f 36).1 ∧ N 20 6 = cdB (mxs f 36).1 ∧ N 20 7 = ix (mxs f 36).2 ∧ (∀ j, j ≠ 5 → j ≠ 6 → j ≠ 7 → N 20 j = M 20 j) ∧ ∀ j, j ≠ 10 → N 21 j = M 21 j) = Q
  have key : ∀ (n a : Nat) (N : Mem) (v w : Option Value), a + n = 6 → Fr TrP M N → N 20 5 = cdA (mxs f (a * 6)).1 → N 20 6 = cdB (mxs f (a * 6)).1 → N 20 7 = ix (mxs f (a * 6)).2 → (∀ j, j ≠ 5 → j ≠ 6 → j ≠ 7 → N 20 j = M 20 j) → (∀ j, j ≠ 10 → N 21 j = M 21 j) → WP 10 [] 1 [some (.ref 20), some (.int (nI a)), v, w] [] N Q := by
    intro n
    induction n with
    | zero =>
      intro a N v w ha hF h5 h6 h7 h20 h21
      obtain rfl : a = 6 := by omega
      rw [B_10_1]
      simp only [B_10_0, B_10_3, B_10_4, B_10_5, cP, r_iconst_p, r_iconst_m, r_bipush_p, r_bipush_m, r_sipush_p, r_sipush_m, r_ldc_p, r_ldc_m, r_ldc_w_p, r_ldc_w_m, r_lconst_p, r_lconst_m, r_ldc2_w_p, r_ldc2_w_m, r_iload, r_iload_n, r_lload, r_lload_n, r_aload, r_aload_n, r_istore, r_istore_n, r_astore, r_astore_n, r_lstore, r_lstore_n, r_iinc_p, r_iinc_m, r_iadd, r_isub, r_imul, r_iand, r_ior, r_ixor, r_ishl, r_ishr, r_iushr, r_idiv, r_irem, r_ladd, r_lsub, r_lmul, r_ldiv, r_lrem, r_lshl, r_lcmp, r_i2l, r_i2b, r_i2s, r_dup_i, r_dup_r, r_dup2_ii, r_dup2_ir, r_dup2_l, r_pop, r_getfield, r_putfield, r_iaload, r_iastore, r_aaload, r_arraylength, r_if_eq, r_icmp_eq, r_if_ne, r_icmp_ne, r_if_lt, r_icmp_lt, r_if_ge, r_icmp_ge, r_if_gt, r_icmp_gt, r_if_le, r_icmp_le, r_goto, r_switch, r_ireturn0, r_ireturn1, r_lreturn, r_areturn, r_return, r_inv0, r_inv1, r_inv2, r_inv3, r_inv4, r_inv5, r_min, r_max, r_acopy, onI_s, onL_s, onR_s, onO_s, fv0, fv1, fv2, fv3, fp1, fp20, fp21, fp3, tl_s, tl_n, lg0, lg1, lg2, lg3, lg4, lg5, lg6, lg7, lg8, lg9, lg10, lg11, lg12, lg13, lg14, lg15, lg16, lg17, ls0, ls1, ls2, ls3, ls4, ls5, ls6, ls7, ls8, ls9, ls10, ls11, ls12, ls13, ls14, ls15, ls16, ls17, lk0, lk1, lk2, lk3, lk4, lk5, lk6, lk7, lk8, lk9, lk10, lk11, lk12, lk13, lk14, lk15, lk16, lk17, kl_n, kl_i, kl_r, kl_l, Nat.reduceAdd, Nat.reduceLeDiff, not_false_eq_true, r_ins0, r_ins1, r_ins2, r_ins3, r_ins4, r_ins5]
      rw [brc_pos (Int32.le_refl _), ← hQ]
      exact ⟨rfl, hF, h5, h6, h7, h20, h21⟩
    | succ n ih =>
      intro a N v w ha hF h5 h6 h7 h20 h21
      have inner : ∀ (m b : Nat) (N : Mem) (w : Option Value), b + m = 6 → a < b → Fr TrP M N → N 20 5 = cdA (mxs f (a * 6 + b)).1 → N 20 6 = cdB (mxs f (a * 6 + b)).1 → N 20 7 = ix (mxs f (a * 6 + b)).2 → (∀ j, j ≠ 5 → j ≠ 6 → j ≠ 7 → N 20 j = M 20 j) → (∀ j, j ≠ 10 → N 21 j = M 21 j) → WP 10 [] 2 [some (.ref 20), some (.int (nI a)), some (.int (nI b)), w] [] N Q := by
        intro m
        induction m with
        | zero =>
          intro b N w hb hab hF h5 h6 h7 h20 h21
          obtain rfl : b = 6 := by omega
          rw [B_10_2]
          simp only [B_10_0, B_10_3, B_10_4, B_10_5, cP, r_iconst_p, r_iconst_m, r_bipush_p, r_bipush_m, r_sipush_p, r_sipush_m, r_ldc_p, r_ldc_m, r_ldc_w_p, r_ldc_w_m, r_lconst_p, r_lconst_m, r_ldc2_w_p, r_ldc2_w_m, r_iload, r_iload_n, r_lload, r_lload_n, r_aload, r_aload_n, r_istore, r_istore_n, r_astore, r_astore_n, r_lstore, r_lstore_n, r_iinc_p, r_iinc_m, r_iadd, r_isub, r_imul, r_iand, r_ior, r_ixor, r_ishl, r_ishr, r_iushr, r_idiv, r_irem, r_ladd, r_lsub, r_lmul, r_ldiv, r_lrem, r_lshl, r_lcmp, r_i2l, r_i2b, r_i2s, r_dup_i, r_dup_r, r_dup2_ii, r_dup2_ir, r_dup2_l, r_pop, r_getfield, r_putfield, r_iaload, r_iastore, r_aaload, r_arraylength, r_if_eq, r_icmp_eq, r_if_ne, r_icmp_ne, r_if_lt, r_icmp_lt, r_if_ge, r_icmp_ge, r_if_gt, r_icmp_gt, r_if_le, r_icmp_le, r_goto, r_switch, r_ireturn0, r_ireturn1, r_lreturn, r_areturn, r_return, r_inv0, r_inv1, r_inv2, r_inv3, r_inv4, r_inv5, r_min, r_max, r_acopy, onI_s, onL_s, onR_s, onO_s, fv0, fv1, fv2, fv3, fp1, fp20, fp21, fp3, tl_s, tl_n, lg0, lg1, lg2, lg3, lg4, lg5, lg6, lg7, lg8, lg9, lg10, lg11, lg12, lg13, lg14, lg15, lg16, lg17, ls0, ls1, ls2, ls3, ls4, ls5, ls6, ls7, ls8, ls9, ls10, ls11, ls12, ls13, ls14, ls15, ls16, ls17, lk0, lk1, lk2, lk3, lk4, lk5, lk6, lk7, lk8, lk9, lk10, lk11, lk12, lk13, lk14, lk15, lk16, lk17, kl_n, kl_i, kl_r, kl_l, Nat.reduceAdd, Nat.reduceLeDiff, not_false_eq_true, r_ins0, r_ins1, r_ins2, r_ins3, r_ins4, r_ins5]
          rw [brc_pos (Int32.le_refl _), q_add]
          rw [show a * 6 + 6 = (a + 1) * 6 by omega] at h5 h6 h7
          exact ih (a + 1) N _ _ (by omega) hF h5 h6 h7 h20 h21
        | succ m ihm =>
          intro b N w hb hab hF h5 h6 h7 h20 h21
          rw [B_10_2]
          simp only [B_10_0, B_10_4, B_10_5, cP, r_iconst_p, r_iconst_m, r_bipush_p, r_bipush_m, r_sipush_p, r_sipush_m, r_ldc_p, r_ldc_m, r_ldc_w_p, r_ldc_w_m, r_lconst_p, r_lconst_m, r_ldc2_w_p, r_ldc2_w_m, r_iload, r_iload_n, r_lload, r_lload_n, r_aload, r_aload_n, r_istore, r_istore_n, r_astore, r_astore_n, r_lstore, r_lstore_n, r_iinc_p, r_iinc_m, r_iadd, r_isub, r_imul, r_iand, r_ior, r_ixor, r_ishl, r_ishr, r_iushr, r_idiv, r_irem, r_ladd, r_lsub, r_lmul, r_ldiv, r_lrem, r_lshl, r_lcmp, r_i2l, r_i2b, r_i2s, r_dup_i, r_dup_r, r_dup2_ii, r_dup2_ir, r_dup2_l, r_pop, r_getfield, r_putfield, r_iaload, r_iastore, r_aaload, r_arraylength, r_if_eq, r_icmp_eq, r_if_ne, r_icmp_ne, r_if_lt, r_icmp_lt, r_if_ge, r_icmp_ge, r_if_gt, r_icmp_gt, r_if_le, r_icmp_le, r_goto, r_switch, r_ireturn0, r_ireturn1, r_lreturn, r_areturn, r_return, r_inv0, r_inv1, r_inv2, r_inv3, r_inv4, r_inv5, r_min, r_max, r_acopy, onI_s, onL_s, onR_s, onO_s, fv0, fv1, fv2, fv3, fp1, fp20, fp21, fp3, tl_s, tl_n, lg0, lg1, lg2, lg3, lg4, lg5, lg6, lg7, lg8, lg9, lg10, lg11, lg12, lg13, lg14, lg15, lg16, lg17, ls0, ls1, ls2, ls3, ls4, ls5, ls6, ls7, ls8, ls9, ls10, ls11, ls12, ls13, ls14, ls15, ls16, ls17, lk0, lk1, lk2, lk3, lk4, lk5, lk6, lk7, lk8, lk9, lk10, lk11, lk12, lk13, lk14, lk15, lk16, lk17, kl_n, kl_i, kl_r, kl_l, Nat.reduceAdd, Nat.reduceLeDiff, not_false_eq_true, r_ins0, r_ins1, r_ins2, r_ins3, r_ins4, r_ins5]
          rw [brc_neg (nI_ge (by omega) (by omega))]
          refine ⟨trivial, by simp, ?_⟩
          refine (t_prep H hF (by omega) h21).mono ?_
          rintro r N1 ⟨rfl, F1, G1, -, R1, O1, W1, K1⟩
          simp only [B_10_0, B_10_4, B_10_5, cP, r_iconst_p, r_iconst_m, r_bipush_p, r_bipush_m, r_sipush_p, r_sipush_m, r_ldc_p, r_ldc_m, r_ldc_w_p, r_ldc_w_m, r_lconst_p, r_lconst_m, r_ldc2_w_p, r_ldc2_w_m, r_iload, r_iload_n, r_lload, r_lload_n, r_aload, r_aload_n, r_istore, r_istore_n, r_astore, r_astore_n, r_lstore, r_lstore_n, r_iinc_p, r_iinc_m, r_iadd, r_isub, r_imul, r_iand, r_ior, r_ixor, r_ishl, r_ishr, r_iushr, r_idiv, r_irem, r_ladd, r_lsub, r_lmul, r_ldiv, r_lrem, r_lshl, r_lcmp, r_i2l, r_i2b, r_i2s, r_dup_i, r_dup_r, r_dup2_ii, r_dup2_ir, r_dup2_l, r_pop, r_getfield, r_putfield, r_iaload, r_iastore, r_aaload, r_arraylength, r_if_eq, r_icmp_eq, r_if_ne, r_icmp_ne, r_if_lt, r_icmp_lt, r_if_ge, r_icmp_ge, r_if_gt, r_icmp_gt, r_if_le, r_icmp_le, r_goto, r_switch, r_ireturn0, r_ireturn1, r_lreturn, r_areturn, r_return, r_inv0, r_inv1, r_inv2, r_inv3, r_inv4, r_inv5, r_min, r_max, r_acopy, onI_s, onL_s, onR_s, onO_s, fv0, fv1, fv2, fv3, fp1, fp20, fp21, fp3, tl_s, tl_n, lg0, lg1, lg2, lg3, lg4, lg5, lg6, lg7, lg8, lg9, lg10, lg11, lg12, lg13, lg14, lg15, lg16, lg17, ls0, ls1, ls2, ls3, ls4, ls5, ls6, ls7, ls8, ls9, ls10, ls11, ls12, ls13, ls14, ls15, ls16, ls17, lk0, lk1, lk2, lk3, lk4, lk5, lk6, lk7, lk8, lk9, lk10, lk11, lk12, lk13, lk14, lk15, lk16, lk17, kl_n, kl_i, kl_r, kl_l, Nat.reduceAdd, Nat.reduceLeDiff, not_false_eq_true, r_ins0, r_ins1, r_ins2, r_ins3, r_ins4, r_ins5]
          refine ⟨trivial, by simp, ?_⟩
          refine (s_exchange R1 hab (by omega)).mono ?_
          rintro r N2 ⟨rfl, F2, R2⟩
          simp only [B_10_0, B_10_4, B_10_5, cP, r_iconst_p, r_iconst_m, r_bipush_p, r_bipush_m, r_sipush_p, r_sipush_m, r_ldc_p, r_ldc_m, r_ldc_w_p, r_ldc_w_m, r_lconst_p, r_lconst_m, r_ldc2_w_p, r_ldc2_w_m, r_iload, r_iload_n, r_lload, r_lload_n, r_aload, r_aload_n, r_istore, r_istore_n, r_astore, r_astore_n, r_lstore, r_lstore_n, r_iinc_p, r_iinc_m, r_iadd, r_isub, r_imul, r_iand, r_ior, r_ixor, r_ishl, r_ishr, r_iushr, r_idiv, r_irem, r_ladd, r_lsub, r_lmul, r_ldiv, r_lrem, r_lshl, r_lcmp, r_i2l, r_i2b, r_i2s, r_dup_i, r_dup_r, r_dup2_ii, r_dup2_ir, r_dup2_l, r_pop, r_getfield, r_putfield, r_iaload, r_iastore, r_aaload, r_arraylength, r_if_eq, r_icmp_eq, r_if_ne, r_icmp_ne, r_if_lt, r_icmp_lt, r_if_ge, r_icmp_ge, r_if_gt, r_icmp_gt, r_if_le, r_icmp_le, r_goto, r_switch, r_ireturn0, r_ireturn1, r_lreturn, r_areturn, r_return, r_inv0, r_inv1, r_inv2, r_inv3, r_inv4, r_inv5, r_min, r_max, r_acopy, onI_s, onL_s, onR_s, onO_s, fv0, fv1, fv2, fv3, fp1, fp20, fp21, fp3, tl_s, tl_n, lg0, lg1, lg2, lg3, lg4, lg5, lg6, lg7, lg8, lg9, lg10, lg11, lg12, lg13, lg14, lg15, lg16, lg17, ls0, ls1, ls2, ls3, ls4, ls5, ls6, ls7, ls8, ls9, ls10, ls11, ls12, ls13, ls14, ls15, ls16, ls17, lk0, lk1, lk2, lk3, lk4, lk5, lk6, lk7, lk8, lk9, lk10, lk11, lk12, lk13, lk14, lk15, lk16, lk17, kl_n, kl_i, kl_r, kl_l, Nat.reduceAdd, Nat.reduceLeDiff, not_false_eq_true, r_ins0, r_ins1, r_ins2, r_ins3, r_ins4, r_ins5]
          refine ⟨trivial, by simp, ?_⟩
          refine (t_run (M := M) (F1.tr F2 (fun _ h => h) (by decide)) R2 (by unfold ROr; rw [F2 25 (by decide), F2 26 (by decide), F2 27 (by decide)]; exact O1) (by unfold RWt; rw [F2 28 (by decide), F2 29 (by decide)]; exact W1) ⟨swp_ok H.2.2.2.1 _ _, H.2.2.2.2.1, H.2.2.2.2.2.1, H.2.2.2.2.2.2⟩ (evw_okH H _ _) hk (fun j hj => by rw [F2 21 (by decide)]; exact K1 j hj)).mono ?_
          rintro r N3 ⟨rfl, F3, G3, -, Oc3, K3⟩
          simp only [B_10_0, B_10_4, B_10_5, cP, r_iconst_p, r_iconst_m, r_bipush_p, r_bipush_m, r_sipush_p, r_sipush_m, r_ldc_p, r_ldc_m, r_ldc_w_p, r_ldc_w_m, r_lconst_p, r_lconst_m, r_ldc2_w_p, r_ldc2_w_m, r_iload, r_iload_n, r_lload, r_lload_n, r_aload, r_aload_n, r_istore, r_istore_n, r_astore, r_astore_n, r_lstore, r_lstore_n, r_iinc_p, r_iinc_m, r_iadd, r_isub, r_imul, r_iand, r_ior, r_ixor, r_ishl, r_ishr, r_iushr, r_idiv, r_irem, r_ladd, r_lsub, r_lmul, r_ldiv, r_lrem, r_lshl, r_lcmp, r_i2l, r_i2b, r_i2s, r_dup_i, r_dup_r, r_dup2_ii, r_dup2_ir, r_dup2_l, r_pop, r_getfield, r_putfield, r_iaload, r_iastore, r_aaload, r_arraylength, r_if_eq, r_icmp_eq, r_if_ne, r_icmp_ne, r_if_lt, r_icmp_lt, r_if_ge, r_icmp_ge, r_if_gt, r_icmp_gt, r_if_le, r_icmp_le, r_goto, r_switch, r_ireturn0, r_ireturn1, r_lreturn, r_areturn, r_return, r_inv0, r_inv1, r_inv2, r_inv3, r_inv4, r_inv5, r_min, r_max, r_acopy, onI_s, onL_s, onR_s, onO_s, fv0, fv1, fv2, fv3, fp1, fp20, fp21, fp3, tl_s, tl_n, lg0, lg1, lg2, lg3, lg4, lg5, lg6, lg7, lg8, lg9, lg10, lg11, lg12, lg13, lg14, lg15, lg16, lg17, ls0, ls1, ls2, ls3, ls4, ls5, ls6, ls7, ls8, ls9, ls10, ls11, ls12, ls13, ls14, ls15, ls16, ls17, lk0, lk1, lk2, lk3, lk4, lk5, lk6, lk7, lk8, lk9, lk10, lk11, lk12, lk13, lk14, lk15, lk16, lk17, kl_n, kl_i, kl_r, kl_l, Nat.reduceAdd, Nat.reduceLeDiff, not_false_eq_true, r_ins0, r_ins1, r_ins2, r_ins3, r_ins4, r_ins5]
          have g20 : N3 20 = N 20 := by rw [G3, F2 20 (by decide), G1]
          have hm := (mxs_le hfl (a * 6 + b)).2
          have hfc := hfl (a * 6 + b)
          have d1 : (a * 6 + b) / 6 = a := by omega
          have d2 : (a * 6 + b) % 6 = b := by omega
          have e3 : N3 31 23 = nI (f (a * 6 + b)) := by rw [Oc3.1 23 (by omega), ← hf]; unfold swaF; rw [d1, d2]
          rw [inb_n (n := 24) rfl (by omega) (by omega), nI_clamp (by omega), e3, g20, h7, ix_le (by omega) (by omega)]
          refine ⟨by omega, brc_i (fun hz => ?_) (fun hz => ?_)⟩
          · simp only [B_10_0, B_10_3, B_10_4, B_10_5, cP, r_iconst_p, r_iconst_m, r_bipush_p, r_bipush_m, r_sipush_p, r_sipush_m, r_ldc_p, r_ldc_m, r_ldc_w_p, r_ldc_w_m, r_lconst_p, r_lconst_m, r_ldc2_w_p, r_ldc2_w_m, r_iload, r_iload_n, r_lload, r_lload_n, r_aload, r_aload_n, r_istore, r_istore_n, r_astore, r_astore_n, r_lstore, r_lstore_n, r_iinc_p, r_iinc_m, r_iadd, r_isub, r_imul, r_iand, r_ior, r_ixor, r_ishl, r_ishr, r_iushr, r_idiv, r_irem, r_ladd, r_lsub, r_lmul, r_ldiv, r_lrem, r_lshl, r_lcmp, r_i2l, r_i2b, r_i2s, r_dup_i, r_dup_r, r_dup2_ii, r_dup2_ir, r_dup2_l, r_pop, r_getfield, r_putfield, r_iaload, r_iastore, r_aaload, r_arraylength, r_if_eq, r_icmp_eq, r_if_ne, r_icmp_ne, r_if_lt, r_icmp_lt, r_if_ge, r_icmp_ge, r_if_gt, r_icmp_gt, r_if_le, r_icmp_le, r_goto, r_switch, r_ireturn0, r_ireturn1, r_lreturn, r_areturn, r_return, r_inv0, r_inv1, r_inv2, r_inv3, r_inv4, r_inv5, r_min, r_max, r_acopy, onI_s, onL_s, onR_s, onO_s, fv0, fv1, fv2, fv3, fp1, fp20, fp21, fp3, tl_s, tl_n, lg0, lg1, lg2, lg3, lg4, lg5, lg6, lg7, lg8, lg9, lg10, lg11, lg12, lg13, lg14, lg15, lg16, lg17, ls0, ls1, ls2, ls3, ls4, ls5, ls6, ls7, ls8, ls9, ls10, ls11, ls12, ls13, ls14, ls15, ls16, ls17, lk0, lk1, lk2, lk3, lk4, lk5, lk6, lk7, lk8, lk9, lk10, lk11, lk12, lk13, lk14, lk15, lk16, lk17, kl_n, kl_i, kl_r, kl_l, Nat.reduceAdd, Nat.reduceLeDiff, not_false_eq_true, r_ins0, r_ins1, r_ins2, r_ins3, r_ins4, r_ins5]
            have e1 : mxs f (a * 6 + (b + 1)) = mxs f (a * 6 + b) := by
              rw [show a * 6 + (b + 1) = a * 6 + b + 1 from rfl, mxs_s, if_neg (by omega)]
            rw [q_add]
            exact ihm (b + 1) N3 _ (by omega) (by omega) F3 (by rw [e1, g20]; exact h5) (by rw [e1, g20]; exact h6) (by rw [e1, g20]; exact h7) (by rw [g20]; exact h20) K3
          · simp only [B_10_0, B_10_3, B_10_4, B_10_5, cP, r_iconst_p, r_iconst_m, r_bipush_p, r_bipush_m, r_sipush_p, r_sipush_m, r_ldc_p, r_ldc_m, r_ldc_w_p, r_ldc_w_m, r_lconst_p, r_lconst_m, r_ldc2_w_p, r_ldc2_w_m, r_iload, r_iload_n, r_lload, r_lload_n, r_aload, r_aload_n, r_istore, r_istore_n, r_astore, r_astore_n, r_lstore, r_lstore_n, r_iinc_p, r_iinc_m, r_iadd, r_isub, r_imul, r_iand, r_ior, r_ixor, r_ishl, r_ishr, r_iushr, r_idiv, r_irem, r_ladd, r_lsub, r_lmul, r_ldiv, r_lrem, r_lshl, r_lcmp, r_i2l, r_i2b, r_i2s, r_dup_i, r_dup_r, r_dup2_ii, r_dup2_ir, r_dup2_l, r_pop, r_getfield, r_putfield, r_iaload, r_iastore, r_aaload, r_arraylength, r_if_eq, r_icmp_eq, r_if_ne, r_icmp_ne, r_if_lt, r_icmp_lt, r_if_ge, r_icmp_ge, r_if_gt, r_icmp_gt, r_if_le, r_icmp_le, r_goto, r_switch, r_ireturn0, r_ireturn1, r_lreturn, r_areturn, r_return, r_inv0, r_inv1, r_inv2, r_inv3, r_inv4, r_inv5, r_min, r_max, r_acopy, onI_s, onL_s, onR_s, onO_s, fv0, fv1, fv2, fv3, fp1, fp20, fp21, fp3, tl_s, tl_n, lg0, lg1, lg2, lg3, lg4, lg5, lg6, lg7, lg8, lg9, lg10, lg11, lg12, lg13, lg14, lg15, lg16, lg17, ls0, ls1, ls2, ls3, ls4, ls5, ls6, ls7, ls8, ls9, ls10, ls11, ls12, ls13, ls14, ls15, ls16, ls17, lk0, lk1, lk2, lk3, lk4, lk5, lk6, lk7, lk8, lk9, lk10, lk11, lk12, lk13, lk14, lk15, lk16, lk17, kl_n, kl_i, kl_r, kl_l, Nat.reduceAdd, Nat.reduceLeDiff, not_false_eq_true, r_ins0, r_ins1, r_ins2, r_ins3, r_ins4, r_ins5]
            have e1 : mxs f (a * 6 + (b + 1)) = (a * 6 + b + 1, f (a * 6 + b) + 1) := by
              rw [show a * 6 + (b + 1) = a * 6 + b + 1 from rfl, mxs_s, if_pos ⟨by omega, by omega⟩]
            rw [q_add]
            refine ihm (b + 1) _ _ (by omega) (by omega) (((F3.st (by decide)).st (by decide)).st (by decide)) ?_ ?_ ?_ ?_ ?_
            · rw [e1, sm_eq, u_ne (by decide), sm_eq, u_eq]
              show nI a = cdA (a * 6 + b + 1)
              unfold cdA
              rw [if_neg (by omega), Nat.add_sub_cancel, d1]
            · rw [e1, sm_eq, u_eq]
              show nI b = cdB (a * 6 + b + 1)
              unfold cdB
              rw [if_neg (by omega), Nat.add_sub_cancel, d2]
            · rw [e1, ix_s, sm_eq, u_ne (by decide), sm_eq, u_ne (by decide), sm_eq, u_eq]
            · intro j a1 a2 a3
              rw [sm_eq, u_ne a2, sm_eq, u_ne a1, sm_eq, u_ne a3, g20]
              exact h20 j a1 a2 a3
            · intro j hj
              rw [sm_ne (by decide), sm_ne (by decide), sm_ne (by decide)]
              exact K3 j hj
      rw [B_10_1]
      simp only [B_10_0, B_10_3, B_10_4, B_10_5, cP, r_iconst_p, r_iconst_m, r_bipush_p, r_bipush_m, r_sipush_p, r_sipush_m, r_ldc_p, r_ldc_m, r_ldc_w_p, r_ldc_w_m, r_lconst_p, r_lconst_m, r_ldc2_w_p, r_ldc2_w_m, r_iload, r_iload_n, r_lload, r_lload_n, r_aload, r_aload_n, r_istore, r_istore_n, r_astore, r_astore_n, r_lstore, r_lstore_n, r_iinc_p, r_iinc_m, r_iadd, r_isub, r_imul, r_iand, r_ior, r_ixor, r_ishl, r_ishr, r_iushr, r_idiv, r_irem, r_ladd, r_lsub, r_lmul, r_ldiv, r_lrem, r_lshl, r_lcmp, r_i2l, r_i2b, r_i2s, r_dup_i, r_dup_r, r_dup2_ii, r_dup2_ir, r_dup2_l, r_pop, r_getfield, r_putfield, r_iaload, r_iastore, r_aaload, r_arraylength, r_if_eq, r_icmp_eq, r_if_ne, r_icmp_ne, r_if_lt, r_icmp_lt, r_if_ge, r_icmp_ge, r_if_gt, r_icmp_gt, r_if_le, r_icmp_le, r_goto, r_switch, r_ireturn0, r_ireturn1, r_lreturn, r_areturn, r_return, r_inv0, r_inv1, r_inv2, r_inv3, r_inv4, r_inv5, r_min, r_max, r_acopy, onI_s, onL_s, onR_s, onO_s, fv0, fv1, fv2, fv3, fp1, fp20, fp21, fp3, tl_s, tl_n, lg0, lg1, lg2, lg3, lg4, lg5, lg6, lg7, lg8, lg9, lg10, lg11, lg12, lg13, lg14, lg15, lg16, lg17, ls0, ls1, ls2, ls3, ls4, ls5, ls6, ls7, ls8, ls9, ls10, ls11, ls12, ls13, ls14, ls15, ls16, ls17, lk0, lk1, lk2, lk3, lk4, lk5, lk6, lk7, lk8, lk9, lk10, lk11, lk12, lk13, lk14, lk15, lk16, lk17, kl_n, kl_i, kl_r, kl_l, Nat.reduceAdd, Nat.reduceLeDiff, not_false_eq_true, r_ins0, r_ins1, r_ins2, r_ins3, r_ins4, r_ins5]
      rw [brc_neg (nI_ge (by omega) (by omega)), q_add]
      have es := mxs_skips (f := f) (a := a) (by omega) (a + 1) (by omega)
      exact inner (5 - a) (a + 1) N _ (by omega) (by omega) hF (by rw [es]; exact h5) (by rw [es]; exact h6) (by rw [es]; exact h7) h20 h21
  refine key 6 0 _ _ _ (by omega) (((Fr.rf.st (by decide)).st (by decide)).st (by decide)) ?_ ?_ ?_ ?_ ?_
  · rw [sm_eq, u_ne (by decide), sm_eq, u_ne (by decide), sm_eq, u_eq]; rfl
  · rw [sm_eq, u_ne (by decide), sm_eq, u_eq]; rfl
  · rw [sm_eq, u_eq]; rfl
  · intro j a1 a2 a3
    rw [sm_eq, u_ne a3, sm_eq, u_ne a2, sm_eq, u_ne a1]
  · intro j _
    rw [sm_ne (by decide), sm_ne (by decide), sm_ne (by decide)]
/-- the least of the first n: its number and 1, its value (K at first) -/
def mnf (K : Nat) (f : Nat → Nat) : Nat → Nat × Nat
  | 0 => (0, K)
  | n + 1 => if f n < (mnf K f n).2 then (n + 1, f n) else mnf K f n
theorem mnf_le {K : Nat} {f : Nat → Nat} : ∀ n, (mnf K f n).1 ≤ n ∧ (mnf K f n).2 ≤ K
  | 0 => ⟨Nat.le_refl _, Nat.le_refl _⟩
  | n + 1 => by
    have ih := mnf_le (K := K) (f := f) n
    unfold mnf
    split
    · exact ⟨Nat.le_refl _, by simp only; omega⟩
    · exact ⟨by omega, ih.2⟩
theorem mnf_K {K K' : Nat} {f : Nat → Nat} (h : f 0 < K) (h' : f 0 < K') : ∀ n, mnf K f (n + 1) = mnf K' f (n + 1)
  | 0 => by
    show (if f 0 < K then _ else _) = (if f 0 < K' then _ else _)
    rw [if_pos h, if_pos h']
  | n + 1 => by
    show (if _ then _ else _) = (if _ then _ else _)
    rw [mnf_K h h' n]
def waiF (B : Col) (no : Nat) (ow oq : Nat → Nat) (ne : Nat) (ek ew ec : Nat → Nat) (i w : Nat) : Nat := shN (InW B no (fun j => if j = i then w else ow j) oq (evw ek ew ec 255 ne))
set_option maxHeartbeats 4000000 in
theorem s_findWait (H : RT M B no ow oq ne ek ew ec) (hk : M 21 8 = nI 0) {i : Nat} (hi : i < 12) : Ct 11 [.ref 20, .int (nI i)] M (fun r N => r = none ∧ Fr TrP M N ∧ N 20 5 = ix (mnf 13 (waiF B no ow oq ne ek ew ec i) 24).1 ∧ N 20 7 = nI (mnf 13 (waiF B no ow oq ne ek ew ec i) 24).2 ∧ (∀ j, j ≠ 5 → j ≠ 7 → N 20 j = M 20 j) ∧ ∀ j, j ≠ 10 → N 21 j = M 21 j) := by
  generalize hf : waiF B no ow oq ne ek ew ec i = f
  have hfl : ∀ w, f w ≤ 12 := fun w => by rw [← hf]; exact shN_le H.2.2.2.2.1
  simp only [E_11, B_11_0, B_11_2, B_11_3, cP, r_iconst_p, r_iconst_m, r_bipush_p, r_bipush_m, r_sipush_p, r_sipush_m, r_ldc_p, r_ldc_m, r_ldc_w_p, r_ldc_w_m, r_lconst_p, r_lconst_m, r_ldc2_w_p, r_ldc2_w_m, r_iload, r_iload_n, r_lload, r_lload_n, r_aload, r_aload_n, r_istore, r_istore_n, r_astore, r_astore_n, r_lstore, r_lstore_n, r_iinc_p, r_iinc_m, r_iadd, r_isub, r_imul, r_iand, r_ior, r_ixor, r_ishl, r_ishr, r_iushr, r_idiv, r_irem, r_ladd, r_lsub, r_lmul, r_ldiv, r_lrem, r_lshl, r_lcmp, r_i2l, r_i2b, r_i2s, r_dup_i, r_dup_r, r_dup2_ii, r_dup2_ir, r_dup2_l, r_pop, r_getfield, r_putfield, r_iaload, r_iastore, r_aaload, r_arraylength, r_if_eq, r_icmp_eq, r_if_ne, r_icmp_ne, r_if_lt, r_icmp_lt, r_if_ge, r_icmp_ge, r_if_gt, r_icmp_gt, r_if_le, r_icmp_le, r_goto, r_switch, r_ireturn0, r_ireturn1, r_lreturn, r_areturn, r_return, r_inv0, r_inv1, r_inv2, r_inv3, r_inv4, r_inv5, r_min, r_max, r_acopy, onI_s, onL_s, onR_s, onO_s, fv0, fv1, fv2, fv3, fp1, fp20, fp21, fp3, tl_s, tl_n, lg0, lg1, lg2, lg3, lg4, lg5, lg6, lg7, lg8, lg9, lg10, lg11, lg12, lg13, lg14, lg15, lg16, lg17, ls0, ls1, ls2, ls3, ls4, ls5, ls6, ls7, ls8, ls9, ls10, ls11, ls12, ls13, ls14, ls15, ls16, ls17, lk0, lk1, lk2, lk3, lk4, lk5, lk6, lk7, lk8, lk9, lk10, lk11, lk12, lk13, lk14, lk15, lk16, lk17, kl_n, kl_i, kl_r, kl_l, Nat.reduceAdd, Nat.reduceLeDiff, not_false_eq_true, r_ins0, r_ins1, r_ins2, r_ins3, r_ins4, r_ins5]
  generalize hQ : (fun (r : Option Value) (N : Mem) => r = none ∧ Fr TrP M N ∧ N 20 5 = ix (mnf 13 f 24).1 ∧ N 20 7 = nI (mnf 13 f 24).2 ∧ (∀ j, j ≠ 5 → j ≠ 7 → N 20 j = M 20 j) ∧ ∀ j, j ≠ 10 → N 21 j = M 21 j) = Q
  have key : ∀ (n c : Nat) (N : Mem), c + n = 24 → Fr TrP M N → N 20 5 = ix (mnf 13 f c).1 → N 20 7 = nI (mnf 13 f c).2 → (∀ j, j ≠ 5 → j ≠ 7 → N 20 j = M 20 j) → (∀ j, j ≠ 10 → N 21 j = M 21 j) → WP 11 [] 1 [some (.ref 20), some (.int (nI i)), some (.int (nI c))] [] N Q := by
    intro n
    induction n with
    | zero =>
      intro c N hc hF h5 h7 h20 h21
      obtain rfl : c = 24 := by omega
      rw [B_11_1]
      simp only [B_11_0, B_11_2, B_11_3, cP, r_iconst_p, r_iconst_m, r_bipush_p, r_bipush_m, r_sipush_p, r_sipush_m, r_ldc_p, r_ldc_m, r_ldc_w_p, r_ldc_w_m, r_lconst_p, r_lconst_m, r_ldc2_w_p, r_ldc2_w_m, r_iload, r_iload_n, r_lload, r_lload_n, r_aload, r_aload_n, r_istore, r_istore_n, r_astore, r_astore_n, r_lstore, r_lstore_n, r_iinc_p, r_iinc_m, r_iadd, r_isub, r_imul, r_iand, r_ior, r_ixor, r_ishl, r_ishr, r_iushr, r_idiv, r_irem, r_ladd, r_lsub, r_lmul, r_ldiv, r_lrem, r_lshl, r_lcmp, r_i2l, r_i2b, r_i2s, r_dup_i, r_dup_r, r_dup2_ii, r_dup2_ir, r_dup2_l, r_pop, r_getfield, r_putfield, r_iaload, r_iastore, r_aaload, r_arraylength, r_if_eq, r_icmp_eq, r_if_ne, r_icmp_ne, r_if_lt, r_icmp_lt, r_if_ge, r_icmp_ge, r_if_gt, r_icmp_gt, r_if_le, r_icmp_le, r_goto, r_switch, r_ireturn0, r_ireturn1, r_lreturn, r_areturn, r_return, r_inv0, r_inv1, r_inv2, r_inv3, r_inv4, r_inv5, r_min, r_max, r_acopy, onI_s, onL_s, onR_s, onO_s, fv0, fv1, fv2, fv3, fp1, fp20, fp21, fp3, tl_s, tl_n, lg0, lg1, lg2, lg3, lg4, lg5, lg6, lg7, lg8, lg9, lg10, lg11, lg12, lg13, lg14, lg15, lg16, lg17, ls0, ls1, ls2, ls3, ls4, ls5, ls6, ls7, ls8, ls9, ls10, ls11, ls12, ls13, ls14, ls15, ls16, ls17, lk0, lk1, lk2, lk3, lk4, lk5, lk6, lk7, lk8, lk9, lk10, lk11, lk12, lk13, lk14, lk15, lk16, lk17, kl_n, kl_i, kl_r, kl_l, Nat.reduceAdd, Nat.reduceLeDiff, not_false_eq_true, r_ins0, r_ins1, r_ins2, r_ins3, r_ins4, r_ins5]
      rw [brc_pos (Int32.le_refl _), ← hQ]
      exact ⟨rfl, hF, h5, h7, h20, h21⟩
    | succ n ih =>
      intro c N hc hF h5 h7 h20 h21
      rw [B_11_1]
      simp only [B_11_0, B_11_3, cP, r_iconst_p, r_iconst_m, r_bipush_p, r_bipush_m, r_sipush_p, r_sipush_m, r_ldc_p, r_ldc_m, r_ldc_w_p, r_ldc_w_m, r_lconst_p, r_lconst_m, r_ldc2_w_p, r_ldc2_w_m, r_iload, r_iload_n, r_lload, r_lload_n, r_aload, r_aload_n, r_istore, r_istore_n, r_astore, r_astore_n, r_lstore, r_lstore_n, r_iinc_p, r_iinc_m, r_iadd, r_isub, r_imul, r_iand, r_ior, r_ixor, r_ishl, r_ishr, r_iushr, r_idiv, r_irem, r_ladd, r_lsub, r_lmul, r_ldiv, r_lrem, r_lshl, r_lcmp, r_i2l, r_i2b, r_i2s, r_dup_i, r_dup_r, r_dup2_ii, r_dup2_ir, r_dup2_l, r_pop, r_getfield, r_putfield, r_iaload, r_iastore, r_aaload, r_arraylength, r_if_eq, r_icmp_eq, r_if_ne, r_icmp_ne, r_if_lt, r_icmp_lt, r_if_ge, r_icmp_ge, r_if_gt, r_icmp_gt, r_if_le, r_icmp_le, r_goto, r_switch, r_ireturn0, r_ireturn1, r_lreturn, r_areturn, r_return, r_inv0, r_inv1, r_inv2, r_inv3, r_inv4, r_inv5, r_min, r_max, r_acopy, onI_s, onL_s, onR_s, onO_s, fv0, fv1, fv2, fv3, fp1, fp20, fp21, fp3, tl_s, tl_n, lg0, lg1, lg2, lg3, lg4, lg5, lg6, lg7, lg8, lg9, lg10, lg11, lg12, lg13, lg14, lg15, lg16, lg17, ls0, ls1, ls2, ls3, ls4, ls5, ls6, ls7, ls8, ls9, ls10, ls11, ls12, ls13, ls14, ls15, ls16, ls17, lk0, lk1, lk2, lk3, lk4, lk5, lk6, lk7, lk8, lk9, lk10, lk11, lk12, lk13, lk14, lk15, lk16, lk17, kl_n, kl_i, kl_r, kl_l, Nat.reduceAdd, Nat.reduceLeDiff, not_false_eq_true, r_ins0, r_ins1, r_ins2, r_ins3, r_ins4, r_ins5]
      rw [brc_neg (nI_ge (by omega) (by omega))]
      refine ⟨trivial, by simp, ?_⟩
      refine (t_prep H hF (by omega) h21).mono ?_
      rintro r N1 ⟨rfl, F1, G1, -, R1, O1, W1, K1⟩
      simp only [B_11_0, B_11_3, cP, r_iconst_p, r_iconst_m, r_bipush_p, r_bipush_m, r_sipush_p, r_sipush_m, r_ldc_p, r_ldc_m, r_ldc_w_p, r_ldc_w_m, r_lconst_p, r_lconst_m, r_ldc2_w_p, r_ldc2_w_m, r_iload, r_iload_n, r_lload, r_lload_n, r_aload, r_aload_n, r_istore, r_istore_n, r_astore, r_astore_n, r_lstore, r_lstore_n, r_iinc_p, r_iinc_m, r_iadd, r_isub, r_imul, r_iand, r_ior, r_ixor, r_ishl, r_ishr, r_iushr, r_idiv, r_irem, r_ladd, r_lsub, r_lmul, r_ldiv, r_lrem, r_lshl, r_lcmp, r_i2l, r_i2b, r_i2s, r_dup_i, r_dup_r, r_dup2_ii, r_dup2_ir, r_dup2_l, r_pop, r_getfield, r_putfield, r_iaload, r_iastore, r_aaload, r_arraylength, r_if_eq, r_icmp_eq, r_if_ne, r_icmp_ne, r_if_lt, r_icmp_lt, r_if_ge, r_icmp_ge, r_if_gt, r_icmp_gt, r_if_le, r_icmp_le, r_goto, r_switch, r_ireturn0, r_ireturn1, r_lreturn, r_areturn, r_return, r_inv0, r_inv1, r_inv2, r_inv3, r_inv4, r_inv5, r_min, r_max, r_acopy, onI_s, onL_s, onR_s, onO_s, fv0, fv1, fv2, fv3, fp1, fp20, fp21, fp3, tl_s, tl_n, lg0, lg1, lg2, lg3, lg4, lg5, lg6, lg7, lg8, lg9, lg10, lg11, lg12, lg13, lg14, lg15, lg16, lg17, ls0, ls1, ls2, ls3, ls4, ls5, ls6, ls7, ls8, ls9, ls10, ls11, ls12, ls13, ls14, ls15, ls16, ls17, lk0, lk1, lk2, lk3, lk4, lk5, lk6, lk7, lk8, lk9, lk10, lk11, lk12, lk13, lk14, lk15, lk16, lk17, kl_n, kl_i, kl_r, kl_l, Nat.reduceAdd, Nat.reduceLeDiff, not_false_eq_true, r_ins0, r_ins1, r_ins2, r_ins3, r_ins4, r_ins5]
      rw [inb_n (n := 12) rfl (by omega) (by omega), nI_clamp (by omega)]
      refine ⟨by omega, trivial, by simp, ?_⟩
      refine (t_run (M := M) (C := B) (no' := no) (ow' := fun j => if j = i then c else ow j) (oq' := oq) (F1.st (by decide)) (fun d hd => by rw [sm_ne (by decide), sm_ne (by decide)]; exact R1 d hd) ⟨by rw [sm_ne (by decide)]; exact O1.1, fun j hj => ⟨?_, by rw [sm_ne (by decide)]; exact (O1.2 j hj).2⟩⟩ (by unfold RWt; rw [sm_ne (by decide), sm_ne (by decide)]; exact W1) ⟨H.2.2.2.1, H.2.2.2.2.1, fun j => ?_, H.2.2.2.2.2.2⟩ (evw_okH H _ _) hk (fun j hj => by rw [sm_ne (by decide)]; exact K1 j hj)).mono ?_
      · rw [sm_eq, u_if]
        dsimp only
        split
        · rfl
        · exact (O1.2 j hj).1
      · show (if j = i then c else ow j) ≤ 23
        have := H.2.2.2.2.2.1 j
        split <;> omega
      rintro r N3 ⟨rfl, F3, G3, -, Oc3, K3⟩
      have g20 : N3 20 = N 20 := by rw [G3, sm_ne (by decide), G1]
      have hm := (mnf_le (K := 13) (f := f) c).2
      have hfc := hfl c
      have hI3 : okI (InW B no (fun j => if j = i then c else ow j) oq (evw ek ew ec 255 ne)) := ⟨H.2.2.2.1, H.2.2.2.2.1, fun j => by
        show (if j = i then c else ow j) ≤ 23
        have := H.2.2.2.2.2.1 j
        split <;> omega, H.2.2.2.2.2.2⟩
      have e3 := s_short_21 hI3 Oc3
      have e4 : shN (InW B no (fun j => if j = i then c else ow j) oq (evw ek ew ec 255 ne)) = f c := by rw [← hf]; rfl
      rw [e4] at e3
      simp only [B_11_0, B_11_3, cP, e3.ct, r_iconst_p, r_iconst_m, r_bipush_p, r_bipush_m, r_sipush_p, r_sipush_m, r_ldc_p, r_ldc_m, r_ldc_w_p, r_ldc_w_m, r_lconst_p, r_lconst_m, r_ldc2_w_p, r_ldc2_w_m, r_iload, r_iload_n, r_lload, r_lload_n, r_aload, r_aload_n, r_istore, r_istore_n, r_astore, r_astore_n, r_lstore, r_lstore_n, r_iinc_p, r_iinc_m, r_iadd, r_isub, r_imul, r_iand, r_ior, r_ixor, r_ishl, r_ishr, r_iushr, r_idiv, r_irem, r_ladd, r_lsub, r_lmul, r_ldiv, r_lrem, r_lshl, r_lcmp, r_i2l, r_i2b, r_i2s, r_dup_i, r_dup_r, r_dup2_ii, r_dup2_ir, r_dup2_l, r_pop, r_getfield, r_putfield, r_iaload, r_iastore, r_aaload, r_arraylength, r_if_eq, r_icmp_eq, r_if_ne, r_icmp_ne, r_if_lt, r_icmp_lt, r_if_ge, r_icmp_ge, r_if_gt, r_icmp_gt, r_if_le, r_icmp_le, r_goto, r_switch, r_ireturn0, r_ireturn1, r_lreturn, r_areturn, r_return, r_inv0, r_inv1, r_inv2, r_inv3, r_inv4, r_inv5, r_min, r_max, r_acopy, onI_s, onL_s, onR_s, onO_s, fv0, fv1, fv2, fv3, fp1, fp20, fp21, fp3, tl_s, tl_n, lg0, lg1, lg2, lg3, lg4, lg5, lg6, lg7, lg8, lg9, lg10, lg11, lg12, lg13, lg14, lg15, lg16, lg17, ls0, ls1, ls2, ls3, ls4, ls5, ls6, ls7, ls8, ls9, ls10, ls11, ls12, ls13, ls14, ls15, ls16, ls17, lk0, lk1, lk2, lk3, lk4, lk5, lk6, lk7, lk8, lk9, lk10, lk11, lk12, lk13, lk14, lk15, lk16, lk17, kl_n, kl_i, kl_r, kl_l, Nat.reduceAdd, Nat.reduceLeDiff, not_false_eq_true, r_ins0, r_ins1, r_ins2, r_ins3, r_ins4, r_ins5]
      rw [g20, h7, q_le (by omega) (by omega)]
      refine ⟨trivial, by simp, brc_i (fun hz => ?_) (fun hz => ?_)⟩
      · simp only [B_11_0, B_11_2, B_11_3, cP, r_iconst_p, r_iconst_m, r_bipush_p, r_bipush_m, r_sipush_p, r_sipush_m, r_ldc_p, r_ldc_m, r_ldc_w_p, r_ldc_w_m, r_lconst_p, r_lconst_m, r_ldc2_w_p, r_ldc2_w_m, r_iload, r_iload_n, r_lload, r_lload_n, r_aload, r_aload_n, r_istore, r_istore_n, r_astore, r_astore_n, r_lstore, r_lstore_n, r_iinc_p, r_iinc_m, r_iadd, r_isub, r_imul, r_iand, r_ior, r_ixor, r_ishl, r_ishr, r_iushr, r_idiv, r_irem, r_ladd, r_lsub, r_lmul, r_ldiv, r_lrem, r_lshl, r_lcmp, r_i2l, r_i2b, r_i2s, r_dup_i, r_dup_r, r_dup2_ii, r_dup2_ir, r_dup2_l, r_pop, r_getfield, r_putfield, r_iaload, r_iastore, r_aaload, r_arraylength, r_if_eq, r_icmp_eq, r_if_ne, r_icmp_ne, r_if_lt, r_icmp_lt, r_if_ge, r_icmp_ge, r_if_gt, r_icmp_gt, r_if_le, r_icmp_le, r_goto, r_switch, r_ireturn0, r_ireturn1, r_lreturn, r_areturn, r_return, r_inv0, r_inv1, r_inv2, r_inv3, r_inv4, r_inv5, r_min, r_max, r_acopy, onI_s, onL_s, onR_s, onO_s, fv0, fv1, fv2, fv3, fp1, fp20, fp21, fp3, tl_s, tl_n, lg0, lg1, lg2, lg3, lg4, lg5, lg6, lg7, lg8, lg9, lg10, lg11, lg12, lg13, lg14, lg15, lg16, lg17, ls0, ls1, ls2, ls3, ls4, ls5, ls6, ls7, ls8, ls9, ls10, ls11, ls12, ls13, ls14, ls15, ls16, ls17, lk0, lk1, lk2, lk3, lk4, lk5, lk6, lk7, lk8, lk9, lk10, lk11, lk12, lk13, lk14, lk15, lk16, lk17, kl_n, kl_i, kl_r, kl_l, Nat.reduceAdd, Nat.reduceLeDiff, not_false_eq_true, r_ins0, r_ins1, r_ins2, r_ins3, r_ins4, r_ins5]
        have e1 : mnf 13 f (c + 1) = mnf 13 f c := by
          show (if _ then _ else _) = _
          rw [if_neg (by omega)]
        rw [q_add]
        exact ih (c + 1) N3 (by omega) F3 (by rw [e1, g20]; exact h5) (by rw [e1, g20]; exact h7) (by rw [g20]; exact h20) K3
      · refine ⟨trivial, by simp, ?_⟩
        simp only [B_11_0, B_11_2, B_11_3, cP, r_iconst_p, r_iconst_m, r_bipush_p, r_bipush_m, r_sipush_p, r_sipush_m, r_ldc_p, r_ldc_m, r_ldc_w_p, r_ldc_w_m, r_lconst_p, r_lconst_m, r_ldc2_w_p, r_ldc2_w_m, r_iload, r_iload_n, r_lload, r_lload_n, r_aload, r_aload_n, r_istore, r_istore_n, r_astore, r_astore_n, r_lstore, r_lstore_n, r_iinc_p, r_iinc_m, r_iadd, r_isub, r_imul, r_iand, r_ior, r_ixor, r_ishl, r_ishr, r_iushr, r_idiv, r_irem, r_ladd, r_lsub, r_lmul, r_ldiv, r_lrem, r_lshl, r_lcmp, r_i2l, r_i2b, r_i2s, r_dup_i, r_dup_r, r_dup2_ii, r_dup2_ir, r_dup2_l, r_pop, r_getfield, r_putfield, r_iaload, r_iastore, r_aaload, r_arraylength, r_if_eq, r_icmp_eq, r_if_ne, r_icmp_ne, r_if_lt, r_icmp_lt, r_if_ge, r_icmp_ge, r_if_gt, r_icmp_gt, r_if_le, r_icmp_le, r_goto, r_switch, r_ireturn0, r_ireturn1, r_lreturn, r_areturn, r_return, r_inv0, r_inv1, r_inv2, r_inv3, r_inv4, r_inv5, r_min, r_max, r_acopy, onI_s, onL_s, onR_s, onO_s, fv0, fv1, fv2, fv3, fp1, fp20, fp21, fp3, tl_s, tl_n, lg0, lg1, lg2, lg3, lg4, lg5, lg6, lg7, lg8, lg9, lg10, lg11, lg12, lg13, lg14, lg15, lg16, lg17, ls0, ls1, ls2, ls3, ls4, ls5, ls6, ls7, ls8, ls9, ls10, ls11, ls12, ls13, ls14, ls15, ls16, ls17, lk0, lk1, lk2, lk3, lk4, lk5, lk6, lk7, lk8, lk9, lk10, lk11, lk12, lk13, lk14, lk15, lk16, lk17, kl_n, kl_i, kl_r, kl_l, Nat.reduceAdd, Nat.reduceLeDiff, not_false_eq_true, r_ins0, r_ins1, r_ins2, r_ins3, r_ins4, r_ins5]
        have e1 : mnf 13 f (c + 1) = (c + 1, f c) := by
          show (if _ then _ else _) = _
          rw [if_pos (by omega)]
        rw [q_add]
        refine ih (c + 1) _ (by omega) ((F3.st (by decide)).st (by decide)) ?_ ?_ ?_ ?_
        · rw [e1, ix_s, sm_eq, u_eq]
        · rw [e1, sm_eq, u_ne (by decide), sm_eq, u_eq]
        · intro j a1 a2
          rw [sm_eq, u_ne a1, sm_eq, u_ne a2, g20]
          exact h20 j a1 a2
        · intro j hj
          rw [sm_ne (by decide), sm_ne (by decide)]
          exact K3 j hj
  refine key 24 0 _ (by omega) ((Fr.rf.st (by decide)).st (by decide)) ?_ ?_ ?_ ?_
  · rw [sm_eq, u_ne (by decide), sm_eq, u_eq]; rfl
  · rw [sm_eq, u_eq]; rfl
  · intro j a1 a2
    rw [sm_eq, u_ne a2, sm_eq, u_ne a1]
  · intro j _
    rw [sm_ne (by decide), sm_ne (by decide)]
end CT
