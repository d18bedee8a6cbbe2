/-! the reference: summers by a seed -/
/-- an event kept as the n-th -/
def kpM (M : Mem) (n : Nat) (k w c : Int32) : Mem := stM (stM (stM (stM M 72 (3 * n) k) 72 (3 * n + 1) w) 72 (3 * n + 2) c) 62 11 (nI (n + 1))
theorem s_keeps {M : Mem} {Q : Option Value → Mem → Prop} {n : Nat} {k w c : Int32} (h : M 62 11 = nI n) (hn : n < 8) : Ct 130 [.ref 62, .int k, .int w, .int c] M Q = Q none (kpM M n k w c) := by
  refine Ev.ct (Ev.of ?_) Q
  simp only [E_130, B_130_0, cm, h, sm_ne (show ¬ 62 = 72 by decide), q_mul, q_add, nI_clamp (show 3 * n < 2 ^ 31 by omega), nI_clamp (show 3 * n + 1 < 2 ^ 31 by omega), nI_clamp (show 3 * n + 2 < 2 ^ 31 by omega), r_iconst_p, r_iconst_m, r_bipush_p, r_bipush_m, r_sipush_p, r_sipush_m, r_ldc_p, r_ldc_m, r_ldc_w_p, r_ldc_w_m, r_lconst_p, r_lconst_m, r_ldc2_w_p, r_ldc2_w_m, r_iload, r_iload_n, r_lload, r_lload_n, r_aload, r_aload_n, r_istore, r_istore_n, r_astore, r_astore_n, r_lstore, r_lstore_n, r_iinc_p, r_iinc_m, r_iadd, r_isub, r_imul, r_iand, r_ior, r_ixor, r_ishl, r_ishr, r_iushr, r_idiv, r_irem, r_ladd, r_lsub, r_lmul, r_ldiv, r_lrem, r_lshl, r_lcmp, r_i2l, r_i2b, r_i2s, r_dup_i, r_dup_r, r_dup2_ii, r_dup2_ir, r_dup2_l, r_pop, r_getfield, r_putfield, r_iaload, r_iastore, r_aaload, r_arraylength, r_if_eq, r_icmp_eq, r_if_ne, r_icmp_ne, r_if_lt, r_icmp_lt, r_if_ge, r_icmp_ge, r_if_gt, r_icmp_gt, r_if_le, r_icmp_le, r_goto, r_switch, r_ireturn0, r_ireturn1, r_lreturn, r_areturn, r_return, r_inv0, r_inv1, r_inv2, r_inv3, r_inv4, r_inv5, r_min, r_max, r_acopy, onI_s, onL_s, onR_s, onO_s, fv0, fv1, fv2, fv3, fp1, fp20, fp21, fp3, tl_s, tl_n, lg0, lg1, lg2, lg3, lg4, lg5, lg6, lg7, lg8, lg9, lg10, lg11, lg12, lg13, lg14, lg15, lg16, lg17, ls0, ls1, ls2, ls3, ls4, ls5, ls6, ls7, ls8, ls9, ls10, ls11, ls12, ls13, ls14, ls15, ls16, ls17, lk0, lk1, lk2, lk3, lk4, lk5, lk6, lk7, lk8, lk9, lk10, lk11, lk12, lk13, lk14, lk15, lk16, lk17, kl_n, kl_i, kl_r, kl_l, Nat.reduceAdd, Nat.reduceLeDiff, not_false_eq_true, r_ins0, r_ins1, r_ins2, r_ins3, r_ins4, r_ins5]
  rw [inb_n (n := 24) rfl (by omega) (by omega), inb_n (n := 24) rfl (by omega) (by omega), inb_n (n := 24) rfl (by omega) (by omega)]
  exact ⟨by omega, by omega, by omega, trivial, rfl⟩
theorem kp_ev {M : Mem} {n : Nat} {ek ew ec : Nat → Nat} (H : EvM M n ek ew ec) (hn : n < 8) : EvM (kpM M n (nI (ek n)) (nI (ew n)) (nI (ec n))) (n + 1) ek ew ec := by
  obtain ⟨h1, h2, h3, h4⟩ := H
  unfold kpM
  refine ⟨by rw [sm_eq, u_eq], by omega, fun i hi => ?_, h4⟩
  rw [sm_ne (show ¬ 72 = 62 by decide), sm_eq, sm_eq, sm_eq]
  simp only [u_if]
  by_cases e : i = n
  · subst e
    rw [if_neg (by omega), if_neg (by omega), if_pos rfl, if_neg (by omega), if_pos rfl, if_pos rfl]
    exact ⟨rfl, rfl, rfl⟩
  · rw [if_neg (by omega), if_neg (by omega), if_neg (by omega), if_neg (by omega), if_neg (by omega), if_neg (by omega), if_neg (by omega), if_neg (by omega), if_neg (by omega)]
    exact h3 i (by omega)
theorem kp_ne {M : Mem} {n d : Nat} {k w c : Int32} (h : d ≠ 72) (h2 : d ≠ 62) : kpM M n k w c d = M d := by
  unfold kpM
  rw [sm_ne h2, sm_ne h, sm_ne h, sm_ne h]
theorem kp_62 {M : Mem} {n j : Nat} {k w c : Int32} (h : j ≠ 11) : kpM M n k w c 62 j = M 62 j := by
  unfold kpM
  rw [sm_eq, u_ne h, sm_ne (by decide), sm_ne (by decide), sm_ne (by decide)]
theorem s_rlot {M : Mem} {Q : Option Value → Mem → Prop} {x : Int32} {m : Nat} (h : M 62 27 = x) (h0 : 0 < m) (hm : m < 2 ^ 16) : Ct 187 [.ref 62, .int (nI m)] M Q = Q (some (.int (nI (ltV (nxS x) m)))) (stM M 62 27 (nxS x)) := by
  refine Ev.ct (Ev.of ?_) Q
  have e : nI 1103515245 * x + nI 12345 = nxS x := rfl
  simp only [E_187, B_187_0, cm, h, e, sm_eq, u_eq, lot_eq (nxS x) h0 hm, r_iconst_p, r_iconst_m, r_bipush_p, r_bipush_m, r_sipush_p, r_sipush_m, r_ldc_p, r_ldc_m, r_ldc_w_p, r_ldc_w_m, r_lconst_p, r_lconst_m, r_ldc2_w_p, r_ldc2_w_m, r_iload, r_iload_n, r_lload, r_lload_n, r_aload, r_aload_n, r_istore, r_istore_n, r_astore, r_astore_n, r_lstore, r_lstore_n, r_iinc_p, r_iinc_m, r_iadd, r_isub, r_imul, r_iand, r_ior, r_ixor, r_ishl, r_ishr, r_iushr, r_idiv, r_irem, r_ladd, r_lsub, r_lmul, r_ldiv, r_lrem, r_lshl, r_lcmp, r_i2l, r_i2b, r_i2s, r_dup_i, r_dup_r, r_dup2_ii, r_dup2_ir, r_dup2_l, r_pop, r_getfield, r_putfield, r_iaload, r_iastore, r_aaload, r_arraylength, r_if_eq, r_icmp_eq, r_if_ne, r_icmp_ne, r_if_lt, r_icmp_lt, r_if_ge, r_icmp_ge, r_if_gt, r_icmp_gt, r_if_le, r_icmp_le, r_goto, r_switch, r_ireturn0, r_ireturn1, r_lreturn, r_areturn, r_return, r_inv0, r_inv1, r_inv2, r_inv3, r_inv4, r_inv5, r_min, r_max, r_acopy, onI_s, onL_s, onR_s, onO_s, fv0, fv1, fv2, fv3, fp1, fp20, fp21, fp3, tl_s, tl_n, lg0, lg1, lg2, lg3, lg4, lg5, lg6, lg7, lg8, lg9, lg10, lg11, lg12, lg13, lg14, lg15, lg16, lg17, ls0, ls1, ls2, ls3, ls4, ls5, ls6, ls7, ls8, ls9, ls10, ls11, ls12, ls13, ls14, ls15, ls16, ls17, lk0, lk1, lk2, lk3, lk4, lk5, lk6, lk7, lk8, lk9, lk10, lk11, lk12, lk13, lk14, lk15, lk16, lk17, kl_n, kl_i, kl_r, kl_l, Nat.reduceAdd, Nat.reduceLeDiff, not_false_eq_true, r_ins0, r_ins1, r_ins2, r_ins3, r_ins4, r_ins5]
  rw [q_eq (by omega) (by omega)]
  exact ⟨by omega, trivial, trivial⟩
section RW
variable {M N : Mem} {g : Sg}
theorem LV.ev {B : Col} {no ne ne' gn cv a b : Nat} {ow oq ek ew ec ek' ew' ec' : Nat → Nat} (h : LV M B no ow oq ne ek ew ec gn cv a b) (e : ∀ c, c = 69 ∨ c = 70 ∨ c = 71 → N c = M c) (e2 : ∀ j, j = 9 ∨ j = 13 ∨ j = 14 ∨ j = 15 ∨ j = 16 → N 62 j = M 62 j) (hE : EvM N ne' ek' ew' ec') : LV N B no ow oq ne' ek' ew' ec' gn cv a b := by
  obtain ⟨l1, l2, l3, l4, l5, l6, -, l8, l9, l10, l11, l12⟩ := h
  unfold RG at l1
  unfold OrM at l3
  refine ⟨?_, l2, ?_, l4, l5, l6, hE, ⟨by rw [e2 13 (by omega)]; exact l8.1, l8.2⟩, ⟨by rw [e2 14 (by omega)]; exact l9.1, l9.2⟩, by rw [e2 15 (by omega)]; exact l10, by rw [e2 16 (by omega)]; exact l11, l12⟩
  · unfold RG
    rw [e 69 (by omega), e 70 (by omega)]
    exact l1
  · unfold OrM
    rw [e2 9 (by omega), e 71 (by omega)]
    exact l3
theorem EvM.q {n : Nat} {ek ew ec : Nat → Nat} (h : EvM M n ek ew ec) (h11 : N 62 11 = nI n) (hq : ∀ q, q < 24 → N 72 q = M 72 q) : EvM N n ek ew ec := by
  obtain ⟨h1, h2, h3, h4⟩ := h
  refine ⟨h11, h2, fun i hi => ?_, h4⟩
  rw [hq _ (by omega), hq _ (by omega), hq _ (by omega)]
  exact h3 i hi
theorem dk_b (seed : Int32) (i : Nat) : dkF seed i ≤ 2 ∧ dwF seed i ≤ 23 ∧ dcF seed i ≤ 5 := by
  have l1 := lt_lt (nxS (sdN seed i)) (m := 3) (by omega)
  have l2 := lt_lt (nxS (nxS (sdN seed i))) (m := 24) (by omega)
  have l3 := lt_lt (nxS (nxS (nxS (sdN seed i)))) (m := 6) (by omega)
  unfold dkF dwF dcF
  omega
def SL : List Nat := [62, 72, 73, 74, 75, 76, 77, 78, 79, 82]
theorem SLin {c : Nat} (h : c ∈ SL) : c = 62 ∨ (72 ≤ c ∧ c ≤ 79) ∨ c = 82 := by
  unfold SL at h
  simp only [List.mem_cons, List.not_mem_nil, or_false] at h
  omega
theorem SLno {c : Nat} (h : c ≠ 62 ∧ (c < 72 ∨ 79 < c) ∧ c ≠ 82) : c ∉ SL := fun q => by have := SLin q; omega
set_option maxHeartbeats 1000000 in
theorem m_summersOf (h : MF M g) (seed : Int32) {n k : Nat} (hn : n ≤ 8) (hk : k < 2) : Ct 188 [.ref 62, .int seed, .int (nI n), .int (nI k)] M (fun r N => r = some (.int (if k = 0 then nI (icC (yr (gdr g seed n) 24).1) else nI (shN (gdr g seed n)))) ∧ MF N g ∧ Lw M N) := by
  have hl0 := h.LV
  have hev := hl0.2.2.2.2.2.2.1
  have hG : ∀ N : Mem, Fr SL M N → (∀ j, j ≠ 11 → j ≠ 27 → N 62 j = M 62 j) → ST N g ∧ Lw M N ∧ (∀ {ne' : Nat} {ek' ew' ec' : Nat → Nat}, EvM N ne' ek' ew' ec' → LV N (gB g) (gno g) (gow g) (goq g) ne' ek' ew' ec' 0 0 0 0) := by
    intro N hF hj
    have G : ∀ c, c ≠ 62 ∧ (c < 72 ∨ 79 < c) ∧ c ≠ 82 → N c = M c := fun c hc => hF c (SLno hc)
    exact ⟨h.ST.mv (fun c hc => G c (by omega)) (fun j hj2 => hj j (by omega) (by omega)), fun c hc => G c (by omega), fun hE => hl0.ev (fun c hc => G c (by omega)) (fun j hj2 => hj j (by omega) (by omega)) hE⟩
  have hIe : LI (gB g) (gno g) (gow g) (goq g) n (dkF seed) (dwF seed) (dcF seed) 0 0 0 0 = gdr g seed n := rfl
  have hI : okI (gdr g seed n) := ⟨hl0.2.1, hl0.2.2.2.1, hl0.2.2.2.2.1, hl0.2.2.2.2.2.1⟩
  generalize hQ : (fun (r : Option Value) (N : Mem) => r = some (.int (if k = 0 then nI (icC (yr (gdr g seed n) 24).1) else nI (shN (gdr g seed n)))) ∧ MF N g ∧ Lw M N) = Q
  -- put back
  have k5 : ∀ (m i : Nat) (N : Mem) (u v : Option Value), i + m = 24 → Fr SL M N → (∀ j, j ≠ 11 → j ≠ 27 → N 62 j = M 62 j) → (∀ q, q < 24 → N 82 q = M 72 q) → (∀ q, q < i → N 72 q = M 72 q) → OcM (gdr g seed n) N → WP 188 [] 5 [some (.ref 62), some (.int seed), some (.int (nI n)), some (.int (nI k)), some (.int (nI (gne g))), some (.int (nI i)), u, v] [] N Q := by
    intro m
    induction m with
    | zero =>
      intro i N u v hi hF hj h82 h72 hO
      obtain rfl : i = 24 := by omega
      have F2 : Fr SL M (stM N 62 11 (nI (gne g))) := hF.st (by decide)
      have j2 : ∀ j, j ≠ 11 → j ≠ 27 → stM N 62 11 (nI (gne g)) 62 j = M 62 j := fun j a b => by rw [sm_eq, u_ne a]; exact hj j a b
      obtain ⟨g1, g2, g3⟩ := hG _ F2 j2
      have hE : EvM (stM N 62 11 (nI (gne g))) (gne g) (gek g) (gew g) (gec g) := hev.q (by rw [sm_eq, u_eq]) (fun q hq => by rw [sm_ne (by decide)]; exact h72 q hq)
      have hL2 := g3 hE
      have hM := mf_of g1 hL2
      have hO2 : OcM (gdr g seed n) (stM N 62 11 (nI (gne g))) := hO.st (by omega)
      rw [B_188_5]
      simp only [B_188_0, B_188_2, B_188_4, B_188_6, B_188_7, B_188_8, cm, s_allIce hO2 hI (show 23 < 24 by omega), s_sumBy hO2 hI hL2.2.2.1 rfl rfl (show 1 < 2 by omega), r_iconst_p, r_iconst_m, r_bipush_p, r_bipush_m, r_sipush_p, r_sipush_m, r_ldc_p, r_ldc_m, r_ldc_w_p, r_ldc_w_m, r_lconst_p, r_lconst_m, r_ldc2_w_p, r_ldc2_w_m, r_iload, r_iload_n, r_lload, r_lload_n, r_aload, r_aload_n, r_istore, r_istore_n, r_astore, r_astore_n, r_lstore, r_lstore_n, r_iinc_p, r_iinc_m, r_iadd, r_isub, r_imul, r_iand, r_ior, r_ixor, r_ishl, r_ishr, r_iushr, r_idiv, r_irem, r_ladd, r_lsub, r_lmul, r_ldiv, r_lrem, r_lshl, r_lcmp, r_i2l, r_i2b, r_i2s, r_dup_i, r_dup_r, r_dup2_ii, r_dup2_ir, r_dup2_l, r_pop, r_getfield, r_putfield, r_iaload, r_iastore, r_aaload, r_arraylength, r_if_eq, r_icmp_eq, r_if_ne, r_icmp_ne, r_if_lt, r_icmp_lt, r_if_ge, r_icmp_ge, r_if_gt, r_icmp_gt, r_if_le, r_icmp_le, r_goto, r_switch, r_ireturn0, r_ireturn1, r_lreturn, r_areturn, r_return, r_inv0, r_inv1, r_inv2, r_inv3, r_inv4, r_inv5, r_min, r_max, r_acopy, onI_s, onL_s, onR_s, onO_s, fv0, fv1, fv2, fv3, fp1, fp20, fp21, fp3, tl_s, tl_n, lg0, lg1, lg2, lg3, lg4, lg5, lg6, lg7, lg8, lg9, lg10, lg11, lg12, lg13, lg14, lg15, lg16, lg17, ls0, ls1, ls2, ls3, ls4, ls5, ls6, ls7, ls8, ls9, ls10, ls11, ls12, ls13, ls14, ls15, ls16, ls17, lk0, lk1, lk2, lk3, lk4, lk5, lk6, lk7, lk8, lk9, lk10, lk11, lk12, lk13, lk14, lk15, lk16, lk17, kl_n, kl_i, kl_r, kl_l, Nat.reduceAdd, Nat.reduceLeDiff, not_false_eq_true, r_ins0, r_ins1, r_ins2, r_ins3, r_ins4, r_ins5]
      rw [brc_pos (Int32.le_refl _), q_eq (by omega) (by omega), ← hQ]
      refine brc_i (fun hz => ⟨trivial, by simp, ?_⟩) (fun hz => ⟨trivial, by simp, ?_⟩)
      · rw [if_neg hz]; exact ⟨rfl, hM, g2⟩
      · rw [if_pos (Classical.not_not.mp hz)]; exact ⟨rfl, hM, g2⟩
    | succ m ih =>
      intro i N u v hi hF hj h82 h72 hO
      rw [B_188_5]
      simp only [B_188_0, B_188_2, B_188_4, B_188_7, B_188_8, cm, nI_clamp (show i < 2 ^ 31 by omega), h82 i (by omega), q_add, r_iconst_p, r_iconst_m, r_bipush_p, r_bipush_m, r_sipush_p, r_sipush_m, r_ldc_p, r_ldc_m, r_ldc_w_p, r_ldc_w_m, r_lconst_p, r_lconst_m, r_ldc2_w_p, r_ldc2_w_m, r_iload, r_iload_n, r_lload, r_lload_n, r_aload, r_aload_n, r_istore, r_istore_n, r_astore, r_astore_n, r_lstore, r_lstore_n, r_iinc_p, r_iinc_m, r_iadd, r_isub, r_imul, r_iand, r_ior, r_ixor, r_ishl, r_ishr, r_iushr, r_idiv, r_irem, r_ladd, r_lsub, r_lmul, r_ldiv, r_lrem, r_lshl, r_lcmp, r_i2l, r_i2b, r_i2s, r_dup_i, r_dup_r, r_dup2_ii, r_dup2_ir, r_dup2_l, r_pop, r_getfield, r_putfield, r_iaload, r_iastore, r_aaload, r_arraylength, r_if_eq, r_icmp_eq, r_if_ne, r_icmp_ne, r_if_lt, r_icmp_lt, r_if_ge, r_icmp_ge, r_if_gt, r_icmp_gt, r_if_le, r_icmp_le, r_goto, r_switch, r_ireturn0, r_ireturn1, r_lreturn, r_areturn, r_return, r_inv0, r_inv1, r_inv2, r_inv3, r_inv4, r_inv5, r_min, r_max, r_acopy, onI_s, onL_s, onR_s, onO_s, fv0, fv1, fv2, fv3, fp1, fp20, fp21, fp3, tl_s, tl_n, lg0, lg1, lg2, lg3, lg4, lg5, lg6, lg7, lg8, lg9, lg10, lg11, lg12, lg13, lg14, lg15, lg16, lg17, ls0, ls1, ls2, ls3, ls4, ls5, ls6, ls7, ls8, ls9, ls10, ls11, ls12, ls13, ls14, ls15, ls16, ls17, lk0, lk1, lk2, lk3, lk4, lk5, lk6, lk7, lk8, lk9, lk10, lk11, lk12, lk13, lk14, lk15, lk16, lk17, kl_n, kl_i, kl_r, kl_l, Nat.reduceAdd, Nat.reduceLeDiff, not_false_eq_true, r_ins0, r_ins1, r_ins2, r_ins3, r_ins4, r_ins5]
      rw [brc_neg (nI_ge (by omega) (by omega)), inb_n (n := 24) rfl (by omega) (by omega), inb_n (n := 24) rfl (by omega) (by omega)]
      refine ⟨by omega, by omega, ih (i + 1) _ _ _ (by omega) (hF.st (by decide)) (fun j a b => by rw [sm_ne (by decide)]; exact hj j a b) (fun q hq => by rw [sm_ne (by decide)]; exact h82 q hq) (fun q hq => ?_) (hO.st (by omega))⟩
      rw [sm_eq, u_if]
      by_cases e : q = i
      · rw [if_pos e, e]
      · rw [if_neg e]; exact h72 q (by omega)
  -- drawn
  have k3 : ∀ (m i : Nat) (N : Mem) (u v : Option Value), i + m = n → Fr SL M N → (∀ j, j ≠ 11 → j ≠ 27 → N 62 j = M 62 j) → (∀ q, q < 24 → N 82 q = M 72 q) → N 62 27 = sdN seed i → EvM N i (dkF seed) (dwF seed) (dcF seed) → WP 188 [] 3 [some (.ref 62), some (.int seed), some (.int (nI n)), some (.int (nI k)), some (.int (nI (gne g))), some (.int (nI i)), u, v] [] N Q := by
    intro m
    induction m with
    | zero =>
      intro i N u v hi hF hj h82 h27 hE
      obtain rfl : i = n := by omega
      obtain ⟨g1, g2, g3⟩ := hG _ hF hj
      rw [B_188_3]
      simp only [B_188_0, B_188_2, B_188_4, B_188_6, B_188_7, B_188_8, cm, r_iconst_p, r_iconst_m, r_bipush_p, r_bipush_m, r_sipush_p, r_sipush_m, r_ldc_p, r_ldc_m, r_ldc_w_p, r_ldc_w_m, r_lconst_p, r_lconst_m, r_ldc2_w_p, r_ldc2_w_m, r_iload, r_iload_n, r_lload, r_lload_n, r_aload, r_aload_n, r_istore, r_istore_n, r_astore, r_astore_n, r_lstore, r_lstore_n, r_iinc_p, r_iinc_m, r_iadd, r_isub, r_imul, r_iand, r_ior, r_ixor, r_ishl, r_ishr, r_iushr, r_idiv, r_irem, r_ladd, r_lsub, r_lmul, r_ldiv, r_lrem, r_lshl, r_lcmp, r_i2l, r_i2b, r_i2s, r_dup_i, r_dup_r, r_dup2_ii, r_dup2_ir, r_dup2_l, r_pop, r_getfield, r_putfield, r_iaload, r_iastore, r_aaload, r_arraylength, r_if_eq, r_icmp_eq, r_if_ne, r_icmp_ne, r_if_lt, r_icmp_lt, r_if_ge, r_icmp_ge, r_if_gt, r_icmp_gt, r_if_le, r_icmp_le, r_goto, r_switch, r_ireturn0, r_ireturn1, r_lreturn, r_areturn, r_return, r_inv0, r_inv1, r_inv2, r_inv3, r_inv4, r_inv5, r_min, r_max, r_acopy, onI_s, onL_s, onR_s, onO_s, fv0, fv1, fv2, fv3, fp1, fp20, fp21, fp3, tl_s, tl_n, lg0, lg1, lg2, lg3, lg4, lg5, lg6, lg7, lg8, lg9, lg10, lg11, lg12, lg13, lg14, lg15, lg16, lg17, ls0, ls1, ls2, ls3, ls4, ls5, ls6, ls7, ls8, ls9, ls10, ls11, ls12, ls13, ls14, ls15, ls16, ls17, lk0, lk1, lk2, lk3, lk4, lk5, lk6, lk7, lk8, lk9, lk10, lk11, lk12, lk13, lk14, lk15, lk16, lk17, kl_n, kl_i, kl_r, kl_l, Nat.reduceAdd, Nat.reduceLeDiff, not_false_eq_true, r_ins0, r_ins1, r_ins2, r_ins3, r_ins4, r_ins5]
      rw [brc_pos (Int32.le_refl _)]
      refine ⟨trivial, by simp, (x_lives g1 (g3 hE)).mono ?_⟩
      rintro r P ⟨rfl, -, -, -, hO, F2⟩
      rw [hIe] at hO
      simp only [B_188_0, B_188_2, B_188_4, B_188_6, B_188_7, B_188_8, cm, r_iconst_p, r_iconst_m, r_bipush_p, r_bipush_m, r_sipush_p, r_sipush_m, r_ldc_p, r_ldc_m, r_ldc_w_p, r_ldc_w_m, r_lconst_p, r_lconst_m, r_ldc2_w_p, r_ldc2_w_m, r_iload, r_iload_n, r_lload, r_lload_n, r_aload, r_aload_n, r_istore, r_istore_n, r_astore, r_astore_n, r_lstore, r_lstore_n, r_iinc_p, r_iinc_m, r_iadd, r_isub, r_imul, r_iand, r_ior, r_ixor, r_ishl, r_ishr, r_iushr, r_idiv, r_irem, r_ladd, r_lsub, r_lmul, r_ldiv, r_lrem, r_lshl, r_lcmp, r_i2l, r_i2b, r_i2s, r_dup_i, r_dup_r, r_dup2_ii, r_dup2_ir, r_dup2_l, r_pop, r_getfield, r_putfield, r_iaload, r_iastore, r_aaload, r_arraylength, r_if_eq, r_icmp_eq, r_if_ne, r_icmp_ne, r_if_lt, r_icmp_lt, r_if_ge, r_icmp_ge, r_if_gt, r_icmp_gt, r_if_le, r_icmp_le, r_goto, r_switch, r_ireturn0, r_ireturn1, r_lreturn, r_areturn, r_return, r_inv0, r_inv1, r_inv2, r_inv3, r_inv4, r_inv5, r_min, r_max, r_acopy, onI_s, onL_s, onR_s, onO_s, fv0, fv1, fv2, fv3, fp1, fp20, fp21, fp3, tl_s, tl_n, lg0, lg1, lg2, lg3, lg4, lg5, lg6, lg7, lg8, lg9, lg10, lg11, lg12, lg13, lg14, lg15, lg16, lg17, ls0, ls1, ls2, ls3, ls4, ls5, ls6, ls7, ls8, ls9, ls10, ls11, ls12, ls13, ls14, ls15, ls16, ls17, lk0, lk1, lk2, lk3, lk4, lk5, lk6, lk7, lk8, lk9, lk10, lk11, lk12, lk13, lk14, lk15, lk16, lk17, kl_n, kl_i, kl_r, kl_l, Nat.reduceAdd, Nat.reduceLeDiff, not_false_eq_true, r_ins0, r_ins1, r_ins2, r_ins3, r_ins4, r_ins5]
      refine k5 24 0 P _ _ (by omega) ?_ (fun j a b => by rw [F2 62 (by decide)]; exact hj j a b) (fun q hq => by rw [F2 82 (by decide)]; exact h82 q hq) (fun q hq => by omega) hO
      exact hF.tr F2 (fun _ h => h) (by decide)
    | succ m ih =>
      intro i N u v hi hF hj h82 h27 hE
      have hE2 : EvM (stM (stM (stM N 62 27 (nxS (sdN seed i))) 62 27 (nxS (nxS (sdN seed i)))) 62 27 (nxS (nxS (nxS (sdN seed i))))) i (dkF seed) (dwF seed) (dcF seed) := hE.q (by rw [sm_eq, u_ne (by decide), sm_eq, u_ne (by decide), sm_eq, u_ne (by decide)]; exact hE.1) (fun q hq => by rw [sm_ne (by decide), sm_ne (by decide), sm_ne (by decide)])
      rw [B_188_3]
      simp only [B_188_0, B_188_2, B_188_6, B_188_7, B_188_8, cm, s_rlot h27 (show 0 < 3 by omega) (show 3 < 2 ^ 16 by omega), r_iconst_p, r_iconst_m, r_bipush_p, r_bipush_m, r_sipush_p, r_sipush_m, r_ldc_p, r_ldc_m, r_ldc_w_p, r_ldc_w_m, r_lconst_p, r_lconst_m, r_ldc2_w_p, r_ldc2_w_m, r_iload, r_iload_n, r_lload, r_lload_n, r_aload, r_aload_n, r_istore, r_istore_n, r_astore, r_astore_n, r_lstore, r_lstore_n, r_iinc_p, r_iinc_m, r_iadd, r_isub, r_imul, r_iand, r_ior, r_ixor, r_ishl, r_ishr, r_iushr, r_idiv, r_irem, r_ladd, r_lsub, r_lmul, r_ldiv, r_lrem, r_lshl, r_lcmp, r_i2l, r_i2b, r_i2s, r_dup_i, r_dup_r, r_dup2_ii, r_dup2_ir, r_dup2_l, r_pop, r_getfield, r_putfield, r_iaload, r_iastore, r_aaload, r_arraylength, r_if_eq, r_icmp_eq, r_if_ne, r_icmp_ne, r_if_lt, r_icmp_lt, r_if_ge, r_icmp_ge, r_if_gt, r_icmp_gt, r_if_le, r_icmp_le, r_goto, r_switch, r_ireturn0, r_ireturn1, r_lreturn, r_areturn, r_return, r_inv0, r_inv1, r_inv2, r_inv3, r_inv4, r_inv5, r_min, r_max, r_acopy, onI_s, onL_s, onR_s, onO_s, fv0, fv1, fv2, fv3, fp1, fp20, fp21, fp3, tl_s, tl_n, lg0, lg1, lg2, lg3, lg4, lg5, lg6, lg7, lg8, lg9, lg10, lg11, lg12, lg13, lg14, lg15, lg16, lg17, ls0, ls1, ls2, ls3, ls4, ls5, ls6, ls7, ls8, ls9, ls10, ls11, ls12, ls13, ls14, ls15, ls16, ls17, lk0, lk1, lk2, lk3, lk4, lk5, lk6, lk7, lk8, lk9, lk10, lk11, lk12, lk13, lk14, lk15, lk16, lk17, kl_n, kl_i, kl_r, kl_l, Nat.reduceAdd, Nat.reduceLeDiff, not_false_eq_true, r_ins0, r_ins1, r_ins2, r_ins3, r_ins4, r_ins5]
      rw [brc_neg (nI_ge (by omega) (by omega)), s_rlot (x := nxS (sdN seed i)) (by rw [sm_eq, u_eq]) (show 0 < 24 by omega) (show 24 < 2 ^ 16 by omega)]
      simp only [B_188_0, B_188_2, B_188_6, B_188_7, B_188_8, cm, r_iconst_p, r_iconst_m, r_bipush_p, r_bipush_m, r_sipush_p, r_sipush_m, r_ldc_p, r_ldc_m, r_ldc_w_p, r_ldc_w_m, r_lconst_p, r_lconst_m, r_ldc2_w_p, r_ldc2_w_m, r_iload, r_iload_n, r_lload, r_lload_n, r_aload, r_aload_n, r_istore, r_istore_n, r_astore, r_astore_n, r_lstore, r_lstore_n, r_iinc_p, r_iinc_m, r_iadd, r_isub, r_imul, r_iand, r_ior, r_ixor, r_ishl, r_ishr, r_iushr, r_idiv, r_irem, r_ladd, r_lsub, r_lmul, r_ldiv, r_lrem, r_lshl, r_lcmp, r_i2l, r_i2b, r_i2s, r_dup_i, r_dup_r, r_dup2_ii, r_dup2_ir, r_dup2_l, r_pop, r_getfield, r_putfield, r_iaload, r_iastore, r_aaload, r_arraylength, r_if_eq, r_icmp_eq, r_if_ne, r_icmp_ne, r_if_lt, r_icmp_lt, r_if_ge, r_icmp_ge, r_if_gt, r_icmp_gt, r_if_le, r_icmp_le, r_goto, r_switch, r_ireturn0, r_ireturn1, r_lreturn, r_areturn, r_return, r_inv0, r_inv1, r_inv2, r_inv3, r_inv4, r_inv5, r_min, r_max, r_acopy, onI_s, onL_s, onR_s, onO_s, fv0, fv1, fv2, fv3, fp1, fp20, fp21, fp3, tl_s, tl_n, lg0, lg1, lg2, lg3, lg4, lg5, lg6, lg7, lg8, lg9, lg10, lg11, lg12, lg13, lg14, lg15, lg16, lg17, ls0, ls1, ls2, ls3, ls4, ls5, ls6, ls7, ls8, ls9, ls10, ls11, ls12, ls13, ls14, ls15, ls16, ls17, lk0, lk1, lk2, lk3, lk4, lk5, lk6, lk7, lk8, lk9, lk10, lk11, lk12, lk13, lk14, lk15, lk16, lk17, kl_n, kl_i, kl_r, kl_l, Nat.reduceAdd, Nat.reduceLeDiff, not_false_eq_true, r_ins0, r_ins1, r_ins2, r_ins3, r_ins4, r_ins5]
      rw [s_rlot (x := nxS (nxS (sdN seed i))) (by rw [sm_eq, u_eq]) (show 0 < 6 by omega) (show 6 < 2 ^ 16 by omega)]
      simp only [B_188_0, B_188_2, B_188_6, B_188_7, B_188_8, cm, r_iconst_p, r_iconst_m, r_bipush_p, r_bipush_m, r_sipush_p, r_sipush_m, r_ldc_p, r_ldc_m, r_ldc_w_p, r_ldc_w_m, r_lconst_p, r_lconst_m, r_ldc2_w_p, r_ldc2_w_m, r_iload, r_iload_n, r_lload, r_lload_n, r_aload, r_aload_n, r_istore, r_istore_n, r_astore, r_astore_n, r_lstore, r_lstore_n, r_iinc_p, r_iinc_m, r_iadd, r_isub, r_imul, r_iand, r_ior, r_ixor, r_ishl, r_ishr, r_iushr, r_idiv, r_irem, r_ladd, r_lsub, r_lmul, r_ldiv, r_lrem, r_lshl, r_lcmp, r_i2l, r_i2b, r_i2s, r_dup_i, r_dup_r, r_dup2_ii, r_dup2_ir, r_dup2_l, r_pop, r_getfield, r_putfield, r_iaload, r_iastore, r_aaload, r_arraylength, r_if_eq, r_icmp_eq, r_if_ne, r_icmp_ne, r_if_lt, r_icmp_lt, r_if_ge, r_icmp_ge, r_if_gt, r_icmp_gt, r_if_le, r_icmp_le, r_goto, r_switch, r_ireturn0, r_ireturn1, r_lreturn, r_areturn, r_return, r_inv0, r_inv1, r_inv2, r_inv3, r_inv4, r_inv5, r_min, r_max, r_acopy, onI_s, onL_s, onR_s, onO_s, fv0, fv1, fv2, fv3, fp1, fp20, fp21, fp3, tl_s, tl_n, lg0, lg1, lg2, lg3, lg4, lg5, lg6, lg7, lg8, lg9, lg10, lg11, lg12, lg13, lg14, lg15, lg16, lg17, ls0, ls1, ls2, ls3, ls4, ls5, ls6, ls7, ls8, ls9, ls10, ls11, ls12, ls13, ls14, ls15, ls16, ls17, lk0, lk1, lk2, lk3, lk4, lk5, lk6, lk7, lk8, lk9, lk10, lk11, lk12, lk13, lk14, lk15, lk16, lk17, kl_n, kl_i, kl_r, kl_l, Nat.reduceAdd, Nat.reduceLeDiff, not_false_eq_true, r_ins0, r_ins1, r_ins2, r_ins3, r_ins4, r_ins5]
      rw [s_keeps hE2.1 (by omega)]
      simp only [B_188_0, B_188_2, B_188_6, B_188_7, B_188_8, cm, q_add, r_iconst_p, r_iconst_m, r_bipush_p, r_bipush_m, r_sipush_p, r_sipush_m, r_ldc_p, r_ldc_m, r_ldc_w_p, r_ldc_w_m, r_lconst_p, r_lconst_m, r_ldc2_w_p, r_ldc2_w_m, r_iload, r_iload_n, r_lload, r_lload_n, r_aload, r_aload_n, r_istore, r_istore_n, r_astore, r_astore_n, r_lstore, r_lstore_n, r_iinc_p, r_iinc_m, r_iadd, r_isub, r_imul, r_iand, r_ior, r_ixor, r_ishl, r_ishr, r_iushr, r_idiv, r_irem, r_ladd, r_lsub, r_lmul, r_ldiv, r_lrem, r_lshl, r_lcmp, r_i2l, r_i2b, r_i2s, r_dup_i, r_dup_r, r_dup2_ii, r_dup2_ir, r_dup2_l, r_pop, r_getfield, r_putfield, r_iaload, r_iastore, r_aaload, r_arraylength, r_if_eq, r_icmp_eq, r_if_ne, r_icmp_ne, r_if_lt, r_icmp_lt, r_if_ge, r_icmp_ge, r_if_gt, r_icmp_gt, r_if_le, r_icmp_le, r_goto, r_switch, r_ireturn0, r_ireturn1, r_lreturn, r_areturn, r_return, r_inv0, r_inv1, r_inv2, r_inv3, r_inv4, r_inv5, r_min, r_max, r_acopy, onI_s, onL_s, onR_s, onO_s, fv0, fv1, fv2, fv3, fp1, fp20, fp21, fp3, tl_s, tl_n, lg0, lg1, lg2, lg3, lg4, lg5, lg6, lg7, lg8, lg9, lg10, lg11, lg12, lg13, lg14, lg15, lg16, lg17, ls0, ls1, ls2, ls3, ls4, ls5, ls6, ls7, ls8, ls9, ls10, ls11, ls12, ls13, ls14, ls15, ls16, ls17, lk0, lk1, lk2, lk3, lk4, lk5, lk6, lk7, lk8, lk9, lk10, lk11, lk12, lk13, lk14, lk15, lk16, lk17, kl_n, kl_i, kl_r, kl_l, Nat.reduceAdd, Nat.reduceLeDiff, not_false_eq_true, r_ins0, r_ins1, r_ins2, r_ins3, r_ins4, r_ins5]
      refine ⟨trivial, by simp, trivial, by simp, trivial, by simp, trivial, by simp, ?_⟩
      refine ih (i + 1) _ _ _ (by omega) ?_ (fun j a b => ?_) (fun q hq => ?_) ?_ (kp_ev hE2 (by omega))
      · intro c hc
        have hc1 : c ≠ 62 := fun q => hc (by rw [q]; decide)
        have hc2 : c ≠ 72 := fun q => hc (by rw [q]; decide)
        rw [kp_ne hc2 hc1, sm_ne hc1, sm_ne hc1, sm_ne hc1]
        exact hF c hc
      · rw [kp_62 a, sm_eq, u_ne b, sm_eq, u_ne b, sm_eq, u_ne b]
        exact hj j a b
      · rw [kp_ne (by decide) (by decide), sm_ne (by decide), sm_ne (by decide), sm_ne (by decide)]
        exact h82 q hq
      · rw [kp_62 (by decide), sm_eq, u_eq]
        rfl
  -- kept
  have k1 : ∀ (m i : Nat) (N : Mem), i + m = 24 → Fr [82] M N → (∀ q, q < i → N 82 q = M 72 q) → WP 188 [] 1 [some (.ref 62), some (.int seed), some (.int (nI n)), some (.int (nI k)), some (.int (nI (gne g))), some (.int (nI i)), none, none] [] N Q := by
    intro m
    induction m with
    | zero =>
      intro i N hi hF h82
      obtain rfl : i = 24 := by omega
      rw [B_188_1]
      simp only [B_188_0, B_188_2, B_188_4, B_188_6, B_188_7, B_188_8, cm, r_iconst_p, r_iconst_m, r_bipush_p, r_bipush_m, r_sipush_p, r_sipush_m, r_ldc_p, r_ldc_m, r_ldc_w_p, r_ldc_w_m, r_lconst_p, r_lconst_m, r_ldc2_w_p, r_ldc2_w_m, r_iload, r_iload_n, r_lload, r_lload_n, r_aload, r_aload_n, r_istore, r_istore_n, r_astore, r_astore_n, r_lstore, r_lstore_n, r_iinc_p, r_iinc_m, r_iadd, r_isub, r_imul, r_iand, r_ior, r_ixor, r_ishl, r_ishr, r_iushr, r_idiv, r_irem, r_ladd, r_lsub, r_lmul, r_ldiv, r_lrem, r_lshl, r_lcmp, r_i2l, r_i2b, r_i2s, r_dup_i, r_dup_r, r_dup2_ii, r_dup2_ir, r_dup2_l, r_pop, r_getfield, r_putfield, r_iaload, r_iastore, r_aaload, r_arraylength, r_if_eq, r_icmp_eq, r_if_ne, r_icmp_ne, r_if_lt, r_icmp_lt, r_if_ge, r_icmp_ge, r_if_gt, r_icmp_gt, r_if_le, r_icmp_le, r_goto, r_switch, r_ireturn0, r_ireturn1, r_lreturn, r_areturn, r_return, r_inv0, r_inv1, r_inv2, r_inv3, r_inv4, r_inv5, r_min, r_max, r_acopy, onI_s, onL_s, onR_s, onO_s, fv0, fv1, fv2, fv3, fp1, fp20, fp21, fp3, tl_s, tl_n, lg0, lg1, lg2, lg3, lg4, lg5, lg6, lg7, lg8, lg9, lg10, lg11, lg12, lg13, lg14, lg15, lg16, lg17, ls0, ls1, ls2, ls3, ls4, ls5, ls6, ls7, ls8, ls9, ls10, ls11, ls12, ls13, ls14, ls15, ls16, ls17, lk0, lk1, lk2, lk3, lk4, lk5, lk6, lk7, lk8, lk9, lk10, lk11, lk12, lk13, lk14, lk15, lk16, lk17, kl_n, kl_i, kl_r, kl_l, Nat.reduceAdd, Nat.reduceLeDiff, not_false_eq_true, r_ins0, r_ins1, r_ins2, r_ins3, r_ins4, r_ins5]
      rw [brc_pos (Int32.le_refl _)]
      refine k3 n 0 _ none none (by omega) (((hF.sub (by decide)).st (by decide)).st (by decide)) (fun j a b => ?_) (fun q hq => ?_) ?_ ⟨by rw [sm_eq, u_eq], by omega, fun i hi => by omega, fun i => dk_b seed i⟩
      · rw [sm_eq, u_ne a, sm_eq, u_ne b, hF 62 (by decide)]
      · rw [sm_ne (by decide), sm_ne (by decide)]; exact h82 q hq
      · rw [sm_eq, u_ne (by decide), sm_eq, u_eq]; rfl
    | succ m ih =>
      intro i N hi hF h82
      rw [B_188_1]
      simp only [B_188_0, B_188_4, B_188_6, B_188_7, B_188_8, cm, nI_clamp (show i < 2 ^ 31 by omega), q_add, hF 72 (by decide), r_iconst_p, r_iconst_m, r_bipush_p, r_bipush_m, r_sipush_p, r_sipush_m, r_ldc_p, r_ldc_m, r_ldc_w_p, r_ldc_w_m, r_lconst_p, r_lconst_m, r_ldc2_w_p, r_ldc2_w_m, r_iload, r_iload_n, r_lload, r_lload_n, r_aload, r_aload_n, r_istore, r_istore_n, r_astore, r_astore_n, r_lstore, r_lstore_n, r_iinc_p, r_iinc_m, r_iadd, r_isub, r_imul, r_iand, r_ior, r_ixor, r_ishl, r_ishr, r_iushr, r_idiv, r_irem, r_ladd, r_lsub, r_lmul, r_ldiv, r_lrem, r_lshl, r_lcmp, r_i2l, r_i2b, r_i2s, r_dup_i, r_dup_r, r_dup2_ii, r_dup2_ir, r_dup2_l, r_pop, r_getfield, r_putfield, r_iaload, r_iastore, r_aaload, r_arraylength, r_if_eq, r_icmp_eq, r_if_ne, r_icmp_ne, r_if_lt, r_icmp_lt, r_if_ge, r_icmp_ge, r_if_gt, r_icmp_gt, r_if_le, r_icmp_le, r_goto, r_switch, r_ireturn0, r_ireturn1, r_lreturn, r_areturn, r_return, r_inv0, r_inv1, r_inv2, r_inv3, r_inv4, r_inv5, r_min, r_max, r_acopy, onI_s, onL_s, onR_s, onO_s, fv0, fv1, fv2, fv3, fp1, fp20, fp21, fp3, tl_s, tl_n, lg0, lg1, lg2, lg3, lg4, lg5, lg6, lg7, lg8, lg9, lg10, lg11, lg12, lg13, lg14, lg15, lg16, lg17, ls0, ls1, ls2, ls3, ls4, ls5, ls6, ls7, ls8, ls9, ls10, ls11, ls12, ls13, ls14, ls15, ls16, ls17, lk0, lk1, lk2, lk3, lk4, lk5, lk6, lk7, lk8, lk9, lk10, lk11, lk12, lk13, lk14, lk15, lk16, lk17, kl_n, kl_i, kl_r, kl_l, Nat.reduceAdd, Nat.reduceLeDiff, not_false_eq_true, r_ins0, r_ins1, r_ins2, r_ins3, r_ins4, r_ins5]
      rw [brc_neg (nI_ge (by omega) (by omega)), inb_n (n := 24) rfl (by omega) (by omega), inb_n (n := 24) rfl (by omega) (by omega)]
      refine ⟨by omega, by omega, ih (i + 1) _ (by omega) (hF.st (by decide)) (fun q hq => ?_)⟩
      rw [sm_eq, u_if]
      by_cases e : q = i
      · rw [if_pos e, e]
      · rw [if_neg e]; exact h82 q (by omega)
  simp only [E_188, B_188_0, B_188_2, B_188_4, B_188_6, B_188_7, B_188_8, cm, hev.1, r_iconst_p, r_iconst_m, r_bipush_p, r_bipush_m, r_sipush_p, r_sipush_m, r_ldc_p, r_ldc_m, r_ldc_w_p, r_ldc_w_m, r_lconst_p, r_lconst_m, r_ldc2_w_p, r_ldc2_w_m, r_iload, r_iload_n, r_lload, r_lload_n, r_aload, r_aload_n, r_istore, r_istore_n, r_astore, r_astore_n, r_lstore, r_lstore_n, r_iinc_p, r_iinc_m, r_iadd, r_isub, r_imul, r_iand, r_ior, r_ixor, r_ishl, r_ishr, r_iushr, r_idiv, r_irem, r_ladd, r_lsub, r_lmul, r_ldiv, r_lrem, r_lshl, r_lcmp, r_i2l, r_i2b, r_i2s, r_dup_i, r_dup_r, r_dup2_ii, r_dup2_ir, r_dup2_l, r_pop, r_getfield, r_putfield, r_iaload, r_iastore, r_aaload, r_arraylength, r_if_eq, r_icmp_eq, r_if_ne, r_icmp_ne, r_if_lt, r_icmp_lt, r_if_ge, r_icmp_ge, r_if_gt, r_icmp_gt, r_if_le, r_icmp_le, r_goto, r_switch, r_ireturn0, r_ireturn1, r_lreturn, r_areturn, r_return, r_inv0, r_inv1, r_inv2, r_inv3, r_inv4, r_inv5, r_min, r_max, r_acopy, onI_s, onL_s, onR_s, onO_s, fv0, fv1, fv2, fv3, fp1, fp20, fp21, fp3, tl_s, tl_n, lg0, lg1, lg2, lg3, lg4, lg5, lg6, lg7, lg8, lg9, lg10, lg11, lg12, lg13, lg14, lg15, lg16, lg17, ls0, ls1, ls2, ls3, ls4, ls5, ls6, ls7, ls8, ls9, ls10, ls11, ls12, ls13, ls14, ls15, ls16, ls17, lk0, lk1, lk2, lk3, lk4, lk5, lk6, lk7, lk8, lk9, lk10, lk11, lk12, lk13, lk14, lk15, lk16, lk17, kl_n, kl_i, kl_r, kl_l, Nat.reduceAdd, Nat.reduceLeDiff, not_false_eq_true, r_ins0, r_ins1, r_ins2, r_ins3, r_ins4, r_ins5]
  exact k1 24 0 M (by omega) Fr.rf (fun q hq => by omega)
end RW
