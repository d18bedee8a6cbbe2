/-! the reference: what is told -/
section RW
variable {M N : Mem} {g : Sg}
theorem MJ.tx0 (h : MJ M g) {n : Nat} {t : Nat → Nat} (hF : ∀ c, c ≠ 67 → c ≠ 68 → N c = M c) (h0 : TxM N 0 41 n t) (h1 : TxM N 1 35 (n1 g) (t1 g)) : MJ N (setT0 g n t) := by
  obtain ⟨-, -, a, b, c, d, e⟩ := h
  unfold EvM at a
  unfold SnM at b
  unfold ShM at c
  rw [← hF 62 (by decide) (by decide)] at a b d e
  rw [← hF 72 (by decide) (by decide)] at a
  rw [← hF 80 (by decide) (by decide)] at b
  rw [← hF 63 (by decide) (by decide), ← hF 64 (by decide) (by decide), ← hF 65 (by decide) (by decide)] at c
  exact ⟨h0, h1, a, b, c, d, e⟩
theorem MJ.tx1 (h : MJ M g) {n : Nat} {t : Nat → Nat} (hF : ∀ c, c ≠ 67 → c ≠ 68 → N c = M c) (h0 : TxM N 0 41 (n0 g) (t0 g)) (h1 : TxM N 1 35 n t) : MJ N (setT1 g n t) := by
  obtain ⟨-, -, a, b, c, d, e⟩ := h
  unfold EvM at a
  unfold SnM at b
  unfold ShM at c
  rw [← hF 62 (by decide) (by decide)] at a b d e
  rw [← hF 72 (by decide) (by decide)] at a
  rw [← hF 80 (by decide) (by decide)] at b
  rw [← hF 63 (by decide) (by decide), ← hF 64 (by decide) (by decide), ← hF 65 (by decide) (by decide)] at c
  exact ⟨h0, h1, a, b, c, d, e⟩
theorem MJ.evt (h : MJ M g) {q : Nat × (Nat → Nat) × (Nat → Nat) × (Nat → Nat)} (hF : ∀ c, c ≠ 62 → c ≠ 72 → N c = M c) (hj : ∀ j, j ≠ 11 → N 62 j = M 62 j) (hE : EvM N q.1 q.2.1 q.2.2.1 q.2.2.2) : MJ N (setEv g q) := by
  obtain ⟨a0, a1, -, b, c, d, e⟩ := h
  unfold TxM at a0 a1
  unfold SnM at b
  unfold ShM at c
  rw [← hF 67 (by decide) (by decide), ← hF 68 (by decide) (by decide)] at a0 a1
  rw [← hj 24 (by decide), ← hF 80 (by decide) (by decide)] at b
  rw [← hF 63 (by decide) (by decide), ← hF 64 (by decide) (by decide), ← hF 65 (by decide) (by decide)] at c
  rw [← hj 4 (by decide)] at d
  rw [← hj 13 (by decide), ← hj 14 (by decide), ← hj 15 (by decide), ← hj 16 (by decide)] at e
  exact ⟨a0, a1, hE, b, c, d, e⟩
theorem MJ.snt (h : MJ M g) {q : Nat × (Nat → Nat) × (Nat → Nat) × (Nat → Nat)} (hF : ∀ c, c ≠ 62 → c ≠ 80 → N c = M c) (hj : ∀ j, j ≠ 24 → N 62 j = M 62 j) (hE : SnM N q.1 q.2.1 q.2.2.1 q.2.2.2) : MJ N (setSn g q) := by
  obtain ⟨a0, a1, b, -, c, d, e⟩ := h
  unfold TxM at a0 a1
  unfold EvM at b
  unfold ShM at c
  rw [← hF 67 (by decide) (by decide), ← hF 68 (by decide) (by decide)] at a0 a1
  rw [← hj 11 (by decide), ← hF 72 (by decide) (by decide)] at b
  rw [← hF 63 (by decide) (by decide), ← hF 64 (by decide) (by decide), ← hF 65 (by decide) (by decide)] at c
  rw [← hj 4 (by decide)] at d
  rw [← hj 13 (by decide), ← hj 14 (by decide), ← hj 15 (by decide), ← hj 16 (by decide)] at e
  exact ⟨a0, a1, b, hE, c, d, e⟩
theorem MJ.fnd (h : MJ M g) {n : Nat} (hn : n ≤ 5) : MJ (stM M 62 4 (nI n)) (setFd g n) ∧ Lw M (stM M 62 4 (nI n)) := by
  refine ⟨?_, Lw.rf.st (by omega)⟩
  obtain ⟨a0, a1, b, b2, c, d, e⟩ := h
  refine ⟨?_, ?_, ?_, ?_, ?_, ⟨by rw [sm_eq, u_eq]; rfl, hn⟩, ?_⟩
  · unfold TxM at a0 ⊢; rw [sm_ne (by decide), sm_ne (by decide)]; exact a0
  · unfold TxM at a1 ⊢; rw [sm_ne (by decide), sm_ne (by decide)]; exact a1
  · unfold EvM at b ⊢; rw [sm_eq, u_ne (by decide), sm_ne (by decide)]; exact b
  · unfold SnM at b2 ⊢; rw [sm_eq, u_ne (by decide), sm_ne (by decide)]; exact b2
  · unfold ShM at c ⊢; rw [sm_ne (by decide), sm_ne (by decide), sm_ne (by decide)]; exact c
  · rw [sm_eq, u_ne (by decide), u_ne (by decide), u_ne (by decide), u_ne (by decide)]; exact e
theorem TxM.len {k most n n' : Nat} {t : Nat → Nat} (h : TxM M k most n t) (hn : n' ≤ n) : TxM (stM M 68 k (nI n')) k most n' t := by
  obtain ⟨a, b, c, d⟩ := h
  exact ⟨by rw [sm_eq, u_eq], by omega, fun i hi => by rw [sm_ne (by decide)]; exact c i (by omega), d⟩
theorem TxM.oth {k j most n : Nat} {t : Nat → Nat} {x : Int32} (h : TxM M k most n t) (hk : k ≠ j) : TxM (stM M 68 j x) k most n t := by
  obtain ⟨a, b, c, d⟩ := h
  exact ⟨by rw [sm_eq, u_ne hk]; exact a, b, fun i hi => by rw [sm_ne (by decide)]; exact c i hi, d⟩
theorem TxM.put {k most n : Nat} {t : Nat → Nat} {v : Nat} (h : TxM M k most n t) (hn : n < most) (hv : v ≤ 255) : TxM (stM (stM M 67 (42 * k + n) (nI v)) 68 k (nI (n + 1))) k most (n + 1) (un t n v) := by
  obtain ⟨a, b, c, d⟩ := h
  refine ⟨by rw [sm_eq, u_eq], by omega, fun i hi => ?_, fun i => ?_⟩
  · rw [sm_ne (by decide), sm_eq, u_if]
    unfold un
    by_cases e : i = n
    · rw [if_pos (by omega), if_pos e]
    · rw [if_neg (by omega), if_neg e]; exact c i (by omega)
  · unfold un
    split
    · exact hv
    · exact d i
theorem TxM.oth2 {k j most n q : Nat} {t : Nat → Nat} {x : Int32} (h : TxM M k most n t) (hq : ∀ i, i < n → ¬ 42 * k + i = q) : TxM (stM M 67 q x) k most n t := by
  obtain ⟨a, b, c, d⟩ := h
  exact ⟨by rw [sm_ne (by decide)]; exact a, b, fun i hi => by rw [sm_eq, u_ne (hq i hi)]; exact c i hi, d⟩
set_option maxHeartbeats 1000000 in
theorem m_type (h : MJ M g) (x b : Int32) : Ct 115 [.ref 62, .int x, .int b] M (fun r N => r = some (.int (aType g x b)) ∧ MJ N (gType g x b) ∧ Lw M N) := by
  have h0 := h.1
  have h1 := h.2.1
  unfold aType gType
  simp only [E_115, B_115_0, B_115_1, B_115_2, B_115_3, B_115_4, B_115_5, cm, ct_is2, ct_in, in_rg (show 255 < 2 ^ 31 by omega), r_iconst_p, r_iconst_m, r_bipush_p, r_bipush_m, r_sipush_p, r_sipush_m, r_ldc_p, r_ldc_m, r_ldc_w_p, r_ldc_w_m, r_lconst_p, r_lconst_m, r_ldc2_w_p, r_ldc2_w_m, r_iload, r_iload_n, r_lload, r_lload_n, r_aload, r_aload_n, r_istore, r_istore_n, r_astore, r_astore_n, r_lstore, r_lstore_n, r_iinc_p, r_iinc_m, r_iadd, r_isub, r_imul, r_iand, r_ior, r_ixor, r_ishl, r_ishr, r_iushr, r_idiv, r_irem, r_ladd, r_lsub, r_lmul, r_ldiv, r_lrem, r_lshl, r_lcmp, r_i2l, r_i2b, r_i2s, r_dup_i, r_dup_r, r_dup2_ii, r_dup2_ir, r_dup2_l, r_pop, r_getfield, r_putfield, r_iaload, r_iastore, r_aaload, r_arraylength, r_if_eq, r_icmp_eq, r_if_ne, r_icmp_ne, r_if_lt, r_icmp_lt, r_if_ge, r_icmp_ge, r_if_gt, r_icmp_gt, r_if_le, r_icmp_le, r_goto, r_switch, r_ireturn0, r_ireturn1, r_lreturn, r_areturn, r_return, r_inv0, r_inv1, r_inv2, r_inv3, r_inv4, r_inv5, r_min, r_max, r_acopy, onI_s, onL_s, onR_s, onO_s, fv0, fv1, fv2, fv3, fp1, fp20, fp21, fp3, tl_s, tl_n, lg0, lg1, lg2, lg3, lg4, lg5, lg6, lg7, lg8, lg9, lg10, lg11, lg12, lg13, lg14, lg15, lg16, lg17, ls0, ls1, ls2, ls3, ls4, ls5, ls6, ls7, ls8, ls9, ls10, ls11, ls12, ls13, ls14, ls15, ls16, ls17, lk0, lk1, lk2, lk3, lk4, lk5, lk6, lk7, lk8, lk9, lk10, lk11, lk12, lk13, lk14, lk15, lk16, lk17, kl_n, kl_i, kl_r, kl_l, Nat.reduceAdd, Nat.reduceLeDiff, not_false_eq_true, r_ins0, r_ins1, r_ins2, r_ins3, r_ins4, r_ins5]
  refine ⟨by simp, ?_⟩
  cases hx : rg x 2 with
  | false => rw [rF', brc_pos rfl, if_neg (fun q => by cases q.1), if_neg (fun q => by cases q.1)]; exact ⟨rfl, h, Lw.rf⟩
  | true =>
    rw [rT', n10, brc_F]
    refine ⟨by simp, ?_⟩
    cases hb : rg b (255 + 1) with
    | false => rw [rF', brc_neg (fun q => q rfl), if_neg (fun q => by cases q.2), if_neg (fun q => by cases q.2)]; exact ⟨rfl, h, Lw.rf⟩
    | true =>
      obtain ⟨b1, e1⟩ := rg_T hx
      obtain ⟨b2, e2⟩ := rg_T hb
      rw [rT', n10, brc_nF, if_pos (show true = true ∧ true = true from ⟨rfl, rfl⟩), if_pos (show true = true ∧ true = true from ⟨rfl, rfl⟩)]
      generalize cl x = k at *
      generalize cl b = v at *
      subst e1
      subst e2
      have l0 := h0.2.1
      have l1 := h1.2.1
      rcases (show k = 0 ∨ k = 1 by omega) with rfl | rfl
      · simp only [if_true, nI_clamp (show 0 < 2 ^ 31 by omega), h0.1, sm_ne (show ¬ 68 = 67 by decide), q_mul, q_add, nI_clamp (show 42 * 0 + n0 g < 2 ^ 31 by omega), sm_eq, u_eq]
        rw [inb_n (c := 68) (n := 2) rfl (by omega) (by omega), inb_n (n := 84) rfl (by omega) (by omega), brc_nT, q_eq (by omega) (by omega)]
        refine ⟨by omega, brc_i (fun hz => ?_) (fun hz => ?_)⟩
        · rw [if_pos (by omega), if_pos (by omega)]
          exact ⟨by omega, by omega, by omega, by omega, by omega, rfl, h.tx0 (fun c a1 a2 => by rw [sm_ne a2, sm_ne a1]) (h0.put (by omega) (by omega)) ((h1.oth2 (j := 0) (fun i hi => by omega)).oth (by decide)), (Lw.rf.st (by omega)).st (by omega)⟩
        · rw [if_neg (by omega), if_neg (by omega)]
          exact ⟨rfl, h, Lw.rf⟩
      · simp only [show ((1 : Nat) = 0) = False by decide, if_false, nI_clamp (show 1 < 2 ^ 31 by omega), h1.1, sm_ne (show ¬ 68 = 67 by decide), q_mul, q_add, nI_clamp (show 42 * 1 + n1 g < 2 ^ 31 by omega), sm_eq, u_eq]
        rw [inb_n (c := 68) (n := 2) rfl (by omega) (by omega), inb_n (n := 84) rfl (by omega) (by omega), n10, brc_nF, q_eq (by omega) (by omega)]
        refine ⟨by omega, brc_i (fun hz => ?_) (fun hz => ?_)⟩
        · rw [if_pos (by omega), if_pos (by omega)]
          exact ⟨by omega, by omega, by omega, by omega, by omega, rfl, h.tx1 (fun c a1 a2 => by rw [sm_ne a2, sm_ne a1]) ((h0.oth2 (j := 0) (fun i hi => by omega)).oth (by decide)) (h1.put (by omega) (by omega)), (Lw.rf.st (by omega)).st (by omega)⟩
        · rw [if_neg (by omega), if_neg (by omega)]
          exact ⟨rfl, h, Lw.rf⟩
theorem m_wipe (h : MJ M g) (x : Int32) : Ct 116 [.ref 62, .int x] M (fun r N => r = some (.int (aWipe g x)) ∧ MJ N (gWipe g x) ∧ Lw M N) := by
  have h0 := h.1
  have h1 := h.2.1
  unfold aWipe gWipe
  simp only [E_116, B_116_0, B_116_1, cm, ct_is2, r_iconst_p, r_iconst_m, r_bipush_p, r_bipush_m, r_sipush_p, r_sipush_m, r_ldc_p, r_ldc_m, r_ldc_w_p, r_ldc_w_m, r_lconst_p, r_lconst_m, r_ldc2_w_p, r_ldc2_w_m, r_iload, r_iload_n, r_lload, r_lload_n, r_aload, r_aload_n, r_istore, r_istore_n, r_astore, r_astore_n, r_lstore, r_lstore_n, r_iinc_p, r_iinc_m, r_iadd, r_isub, r_imul, r_iand, r_ior, r_ixor, r_ishl, r_ishr, r_iushr, r_idiv, r_irem, r_ladd, r_lsub, r_lmul, r_ldiv, r_lrem, r_lshl, r_lcmp, r_i2l, r_i2b, r_i2s, r_dup_i, r_dup_r, r_dup2_ii, r_dup2_ir, r_dup2_l, r_pop, r_getfield, r_putfield, r_iaload, r_iastore, r_aaload, r_arraylength, r_if_eq, r_icmp_eq, r_if_ne, r_icmp_ne, r_if_lt, r_icmp_lt, r_if_ge, r_icmp_ge, r_if_gt, r_icmp_gt, r_if_le, r_icmp_le, r_goto, r_switch, r_ireturn0, r_ireturn1, r_lreturn, r_areturn, r_return, r_inv0, r_inv1, r_inv2, r_inv3, r_inv4, r_inv5, r_min, r_max, r_acopy, onI_s, onL_s, onR_s, onO_s, fv0, fv1, fv2, fv3, fp1, fp20, fp21, fp3, tl_s, tl_n, lg0, lg1, lg2, lg3, lg4, lg5, lg6, lg7, lg8, lg9, lg10, lg11, lg12, lg13, lg14, lg15, lg16, lg17, ls0, ls1, ls2, ls3, ls4, ls5, ls6, ls7, ls8, ls9, ls10, ls11, ls12, ls13, ls14, ls15, ls16, ls17, lk0, lk1, lk2, lk3, lk4, lk5, lk6, lk7, lk8, lk9, lk10, lk11, lk12, lk13, lk14, lk15, lk16, lk17, kl_n, kl_i, kl_r, kl_l, Nat.reduceAdd, Nat.reduceLeDiff, not_false_eq_true, r_ins0, r_ins1, r_ins2, r_ins3, r_ins4, r_ins5]
  refine ⟨by simp, ?_⟩
  cases hx : rg x 2 with
  | false => rw [rF', brc_neg (fun q => q rfl), if_neg (by decide), if_neg (by decide)]; exact ⟨rfl, h, Lw.rf⟩
  | true =>
    obtain ⟨b1, e1⟩ := rg_T hx
    rw [rT', n10, brc_nF, if_pos rfl, if_pos rfl]
    generalize cl x = k at *
    subst e1
    rcases (show k = 0 ∨ k = 1 by omega) with rfl | rfl
    · simp only [if_true, nI_clamp (show 0 < 2 ^ 31 by omega), h0.1]
      rw [inb_n (n := 2) rfl (by omega) (by omega)]
      exact ⟨by omega, by omega, by first | rfl | trivial, h.tx0 (fun c a1 a2 => by rw [sm_ne a2]) (h0.len (Nat.zero_le _)) (h1.oth (by decide)), Lw.rf.st (by omega)⟩
    · simp only [show ((1 : Nat) = 0) = False by decide, if_false, nI_clamp (show 1 < 2 ^ 31 by omega), h1.1]
      rw [inb_n (n := 2) rfl (by omega) (by omega)]
      exact ⟨by omega, by omega, by first | rfl | trivial, h.tx1 (fun c a1 a2 => by rw [sm_ne a2]) (h0.oth (by decide)) (h1.len (Nat.zero_le _)), Lw.rf.st (by omega)⟩
theorem m_undo (h : MJ M g) (x : Int32) : Ct 117 [.ref 62, .int x] M (fun r N => r = some (.int (aUndo g x)) ∧ MJ N (gUndo g x) ∧ Lw M N) := by
  have h0 := h.1
  have h1 := h.2.1
  have l0 := h0.2.1
  have l1 := h1.2.1
  unfold aUndo gUndo
  simp only [E_117, B_117_0, B_117_1, B_117_2, cm, ct_is2, r_iconst_p, r_iconst_m, r_bipush_p, r_bipush_m, r_sipush_p, r_sipush_m, r_ldc_p, r_ldc_m, r_ldc_w_p, r_ldc_w_m, r_lconst_p, r_lconst_m, r_ldc2_w_p, r_ldc2_w_m, r_iload, r_iload_n, r_lload, r_lload_n, r_aload, r_aload_n, r_istore, r_istore_n, r_astore, r_astore_n, r_lstore, r_lstore_n, r_iinc_p, r_iinc_m, r_iadd, r_isub, r_imul, r_iand, r_ior, r_ixor, r_ishl, r_ishr, r_iushr, r_idiv, r_irem, r_ladd, r_lsub, r_lmul, r_ldiv, r_lrem, r_lshl, r_lcmp, r_i2l, r_i2b, r_i2s, r_dup_i, r_dup_r, r_dup2_ii, r_dup2_ir, r_dup2_l, r_pop, r_getfield, r_putfield, r_iaload, r_iastore, r_aaload, r_arraylength, r_if_eq, r_icmp_eq, r_if_ne, r_icmp_ne, r_if_lt, r_icmp_lt, r_if_ge, r_icmp_ge, r_if_gt, r_icmp_gt, r_if_le, r_icmp_le, r_goto, r_switch, r_ireturn0, r_ireturn1, r_lreturn, r_areturn, r_return, r_inv0, r_inv1, r_inv2, r_inv3, r_inv4, r_inv5, r_min, r_max, r_acopy, onI_s, onL_s, onR_s, onO_s, fv0, fv1, fv2, fv3, fp1, fp20, fp21, fp3, tl_s, tl_n, lg0, lg1, lg2, lg3, lg4, lg5, lg6, lg7, lg8, lg9, lg10, lg11, lg12, lg13, lg14, lg15, lg16, lg17, ls0, ls1, ls2, ls3, ls4, ls5, ls6, ls7, ls8, ls9, ls10, ls11, ls12, ls13, ls14, ls15, ls16, ls17, lk0, lk1, lk2, lk3, lk4, lk5, lk6, lk7, lk8, lk9, lk10, lk11, lk12, lk13, lk14, lk15, lk16, lk17, kl_n, kl_i, kl_r, kl_l, Nat.reduceAdd, Nat.reduceLeDiff, not_false_eq_true, r_ins0, r_ins1, r_ins2, r_ins3, r_ins4, r_ins5]
  refine ⟨by simp, ?_⟩
  cases hx : rg x 2 with
  | false => rw [rF', brc_neg (fun q => q rfl), if_neg (by decide), if_neg (by decide)]; exact ⟨rfl, h, Lw.rf⟩
  | true =>
    obtain ⟨b1, e1⟩ := rg_T hx
    rw [rT', n10, brc_nF, if_pos rfl, if_pos rfl]
    generalize cl x = k at *
    subst e1
    rcases (show k = 0 ∨ k = 1 by omega) with rfl | rfl
    · simp only [if_true, nI_clamp (show 0 < 2 ^ 31 by omega), h0.1, sm_eq, u_eq]
      rw [inb_n (n := 2) rfl (by omega) (by omega), q_eq (by omega) (by omega)]
      refine ⟨by omega, brc_i (fun hz => ?_) (fun hz => ?_)⟩
      · rw [if_neg hz, if_neg hz, q_sub (by omega)]
        exact ⟨by omega, by omega, by omega, rfl, h.tx0 (fun c a1 a2 => by rw [sm_ne a2]) (h0.len (Nat.sub_le _ _)) (h1.oth (by decide)), Lw.rf.st (by omega)⟩
      · rw [if_pos (Classical.not_not.mp hz), if_pos (Classical.not_not.mp hz)]; exact ⟨rfl, h, Lw.rf⟩
    · simp only [show ((1 : Nat) = 0) = False by decide, if_false, nI_clamp (show 1 < 2 ^ 31 by omega), h1.1, sm_eq, u_eq]
      rw [inb_n (n := 2) rfl (by omega) (by omega), q_eq (by omega) (by omega)]
      refine ⟨by omega, brc_i (fun hz => ?_) (fun hz => ?_)⟩
      · rw [if_neg hz, if_neg hz, q_sub (by omega)]
        exact ⟨by omega, by omega, by omega, rfl, h.tx1 (fun c a1 a2 => by rw [sm_ne a2]) (h0.oth (by decide)) (h1.len (Nat.sub_le _ _)), Lw.rf.st (by omega)⟩
      · rw [if_pos (Classical.not_not.mp hz), if_pos (Classical.not_not.mp hz)]; exact ⟨rfl, h, Lw.rf⟩
/-- an event told, whatever is told -/
theorem x_event {n : Nat} {ek ew ec : Nat → Nat} (H : EvM M n ek ew ec) (k w c : Int32) : Ev 131 [.ref 62, .int k, .int w, .int c] M (some (.int (if rg k 3 = true ∧ rg w 24 = true ∧ rg c 6 = true then (if n < 8 then nI (n + 1) else mI 4) else mI 2))) (if (rg k 3 = true ∧ rg w 24 = true ∧ rg c 6 = true) ∧ n < 8 then kpM M n k w c else M) := by
  apply Ev.of
  have h8 := H.2.1
  simp only [E_131, B_131_0, B_131_1, B_131_2, B_131_3, cm, ct_isWk, ct_isCol, ct_in, in_rg (show 2 < 2 ^ 31 by omega), H.1, r_iconst_p, r_iconst_m, r_bipush_p, r_bipush_m, r_sipush_p, r_sipush_m, r_ldc_p, r_ldc_m, r_ldc_w_p, r_ldc_w_m, r_lconst_p, r_lconst_m, r_ldc2_w_p, r_ldc2_w_m, r_iload, r_iload_n, r_lload, r_lload_n, r_aload, r_aload_n, r_istore, r_istore_n, r_astore, r_astore_n, r_lstore, r_lstore_n, r_iinc_p, r_iinc_m, r_iadd, r_isub, r_imul, r_iand, r_ior, r_ixor, r_ishl, r_ishr, r_iushr, r_idiv, r_irem, r_ladd, r_lsub, r_lmul, r_ldiv, r_lrem, r_lshl, r_lcmp, r_i2l, r_i2b, r_i2s, r_dup_i, r_dup_r, r_dup2_ii, r_dup2_ir, r_dup2_l, r_pop, r_getfield, r_putfield, r_iaload, r_iastore, r_aaload, r_arraylength, r_if_eq, r_icmp_eq, r_if_ne, r_icmp_ne, r_if_lt, r_icmp_lt, r_if_ge, r_icmp_ge, r_if_gt, r_icmp_gt, r_if_le, r_icmp_le, r_goto, r_switch, r_ireturn0, r_ireturn1, r_lreturn, r_areturn, r_return, r_inv0, r_inv1, r_inv2, r_inv3, r_inv4, r_inv5, r_min, r_max, r_acopy, onI_s, onL_s, onR_s, onO_s, fv0, fv1, fv2, fv3, fp1, fp20, fp21, fp3, tl_s, tl_n, lg0, lg1, lg2, lg3, lg4, lg5, lg6, lg7, lg8, lg9, lg10, lg11, lg12, lg13, lg14, lg15, lg16, lg17, ls0, ls1, ls2, ls3, ls4, ls5, ls6, ls7, ls8, ls9, ls10, ls11, ls12, ls13, ls14, ls15, ls16, ls17, lk0, lk1, lk2, lk3, lk4, lk5, lk6, lk7, lk8, lk9, lk10, lk11, lk12, lk13, lk14, lk15, lk16, lk17, kl_n, kl_i, kl_r, kl_l, Nat.reduceAdd, Nat.reduceLeDiff, not_false_eq_true, r_ins0, r_ins1, r_ins2, r_ins3, r_ins4, r_ins5]
  refine ⟨by simp, ?_⟩
  cases hk : rg k (2 + 1) with
  | false => rw [rF', brc_pos rfl, if_neg (fun q => by cases q.1), if_neg (fun q => by cases q.1.1)]; exact ⟨rfl, rfl⟩
  | true =>
    rw [rT', n10, brc_F]
    refine ⟨by simp, ?_⟩
    cases hw : rg w 24 with
    | false => rw [rF', brc_pos rfl, if_neg (fun q => by cases q.2.1), if_neg (fun q => by cases q.1.2.1)]; exact ⟨rfl, rfl⟩
    | true =>
      rw [rT', n10, brc_F]
      refine ⟨by simp, ?_⟩
      cases hc : rg c 6 with
      | false => rw [rF', brc_neg (fun q => q rfl), if_neg (fun q => by cases q.2.2), if_neg (fun q => by cases q.1.2.2)]; exact ⟨rfl, rfl⟩
      | true =>
        rw [rT', n10, brc_nF, if_pos ⟨rfl, rfl, rfl⟩, q_eq (by omega) (by omega)]
        refine brc_i (fun hz => ?_) (fun hz => ?_)
        · rw [if_pos (by omega), if_pos ⟨⟨rfl, rfl, rfl⟩, by omega⟩, s_keeps H.1 (by omega)]
          simp only [B_131_0, B_131_1, B_131_2, B_131_3, cm, r_iconst_p, r_iconst_m, r_bipush_p, r_bipush_m, r_sipush_p, r_sipush_m, r_ldc_p, r_ldc_m, r_ldc_w_p, r_ldc_w_m, r_lconst_p, r_lconst_m, r_ldc2_w_p, r_ldc2_w_m, r_iload, r_iload_n, r_lload, r_lload_n, r_aload, r_aload_n, r_istore, r_istore_n, r_astore, r_astore_n, r_lstore, r_lstore_n, r_iinc_p, r_iinc_m, r_iadd, r_isub, r_imul, r_iand, r_ior, r_ixor, r_ishl, r_ishr, r_iushr, r_idiv, r_irem, r_ladd, r_lsub, r_lmul, r_ldiv, r_lrem, r_lshl, r_lcmp, r_i2l, r_i2b, r_i2s, r_dup_i, r_dup_r, r_dup2_ii, r_dup2_ir, r_dup2_l, r_pop, r_getfield, r_putfield, r_iaload, r_iastore, r_aaload, r_arraylength, r_if_eq, r_icmp_eq, r_if_ne, r_icmp_ne, r_if_lt, r_icmp_lt, r_if_ge, r_icmp_ge, r_if_gt, r_icmp_gt, r_if_le, r_icmp_le, r_goto, r_switch, r_ireturn0, r_ireturn1, r_lreturn, r_areturn, r_return, r_inv0, r_inv1, r_inv2, r_inv3, r_inv4, r_inv5, r_min, r_max, r_acopy, onI_s, onL_s, onR_s, onO_s, fv0, fv1, fv2, fv3, fp1, fp20, fp21, fp3, tl_s, tl_n, lg0, lg1, lg2, lg3, lg4, lg5, lg6, lg7, lg8, lg9, lg10, lg11, lg12, lg13, lg14, lg15, lg16, lg17, ls0, ls1, ls2, ls3, ls4, ls5, ls6, ls7, ls8, ls9, ls10, ls11, ls12, ls13, ls14, ls15, ls16, ls17, lk0, lk1, lk2, lk3, lk4, lk5, lk6, lk7, lk8, lk9, lk10, lk11, lk12, lk13, lk14, lk15, lk16, lk17, kl_n, kl_i, kl_r, kl_l, Nat.reduceAdd, Nat.reduceLeDiff, not_false_eq_true, r_ins0, r_ins1, r_ins2, r_ins3, r_ins4, r_ins5]
          refine ⟨trivial, by simp, ?_, trivial⟩
          unfold kpM
          rw [sm_eq, u_eq]
        · rw [if_neg (by omega), if_neg (fun q => by omega)]; exact ⟨rfl, rfl⟩
theorem ev_un {n k w c : Nat} {ek ew ec : Nat → Nat} (H : EvM M n ek ew ec) (hn : n < 8) (hk : k ≤ 2) (hw : w ≤ 23) (hc : c ≤ 5) : EvM (kpM M n (nI k) (nI w) (nI c)) (n + 1) (un ek n k) (un ew n w) (un ec n c) := by
  have hu : EvM M n (un ek n k) (un ew n w) (un ec n c) := by
    obtain ⟨h1, h2, h3, h4⟩ := H
    refine ⟨h1, h2, fun i hi => ?_, fun i => ?_⟩
    · unfold un
      rw [if_neg (by omega), if_neg (by omega), if_neg (by omega)]
      exact h3 i hi
    · have := h4 i
      unfold un
      split
      · omega
      · exact this
  have := kp_ev hu hn
  have e : ∀ (f : Nat → Nat) (v : Nat), un f n v n = v := fun f v => if_pos rfl
  rw [e, e, e] at this
  exact this
theorem m_event (h : MJ M g) (k w c : Int32) : Ct 131 [.ref 62, .int k, .int w, .int c] M (fun r N => r = some (.int (aEvent g k w c)) ∧ MJ N (gEvent g k w c) ∧ Lw M N) := by
  rw [(x_event h.2.2.1 k w c).ct]
  refine ⟨rfl, ?_⟩
  unfold gEvent
  by_cases hb : (rg k 3 = true ∧ rg w 24 = true ∧ rg c 6 = true) ∧ gne g < 8
  · rw [if_pos hb, if_pos hb]
    obtain ⟨b1, e1⟩ := rg_T hb.1.1
    obtain ⟨b2, e2⟩ := rg_T hb.1.2.1
    obtain ⟨b3, e3⟩ := rg_T hb.1.2.2
    have hE := ev_un h.2.2.1 hb.2 (k := cl k) (w := cl w) (c := cl c) (by omega) (by omega) (by omega)
    rw [← e1, ← e2, ← e3] at hE
    exact ⟨h.evt (fun d a1 a2 => kp_ne a2 a1) (fun j hj => kp_62 hj) hE, fun d hd => kp_ne (by omega) (by omega)⟩
  · rw [if_neg hb, if_neg hb]; exact ⟨h, Lw.rf⟩
theorem m_back (h : MJ M g) : Ct 132 [.ref 62] M (fun r N => r = some (.int (aBack g)) ∧ MJ N (gBack g) ∧ Lw M N) := by
  obtain ⟨h1, h2, h3, h4⟩ := h.2.2.1
  unfold aBack gBack
  simp only [E_132, B_132_0, B_132_1, cm, h1, sm_eq, u_eq, r_iconst_p, r_iconst_m, r_bipush_p, r_bipush_m, r_sipush_p, r_sipush_m, r_ldc_p, r_ldc_m, r_ldc_w_p, r_ldc_w_m, r_lconst_p, r_lconst_m, r_ldc2_w_p, r_ldc2_w_m, r_iload, r_iload_n, r_lload, r_lload_n, r_aload, r_aload_n, r_istore, r_istore_n, r_astore, r_astore_n, r_lstore, r_lstore_n, r_iinc_p, r_iinc_m, r_iadd, r_isub, r_imul, r_iand, r_ior, r_ixor, r_ishl, r_ishr, r_iushr, r_idiv, r_irem, r_ladd, r_lsub, r_lmul, r_ldiv, r_lrem, r_lshl, r_lcmp, r_i2l, r_i2b, r_i2s, r_dup_i, r_dup_r, r_dup2_ii, r_dup2_ir, r_dup2_l, r_pop, r_getfield, r_putfield, r_iaload, r_iastore, r_aaload, r_arraylength, r_if_eq, r_icmp_eq, r_if_ne, r_icmp_ne, r_if_lt, r_icmp_lt, r_if_ge, r_icmp_ge, r_if_gt, r_icmp_gt, r_if_le, r_icmp_le, r_goto, r_switch, r_ireturn0, r_ireturn1, r_lreturn, r_areturn, r_return, r_inv0, r_inv1, r_inv2, r_inv3, r_inv4, r_inv5, r_min, r_max, r_acopy, onI_s, onL_s, onR_s, onO_s, fv0, fv1, fv2, fv3, fp1, fp20, fp21, fp3, tl_s, tl_n, lg0, lg1, lg2, lg3, lg4, lg5, lg6, lg7, lg8, lg9, lg10, lg11, lg12, lg13, lg14, lg15, lg16, lg17, ls0, ls1, ls2, ls3, ls4, ls5, ls6, ls7, ls8, ls9, ls10, ls11, ls12, ls13, ls14, ls15, ls16, ls17, lk0, lk1, lk2, lk3, lk4, lk5, lk6, lk7, lk8, lk9, lk10, lk11, lk12, lk13, lk14, lk15, lk16, lk17, kl_n, kl_i, kl_r, kl_l, Nat.reduceAdd, Nat.reduceLeDiff, not_false_eq_true, r_ins0, r_ins1, r_ins2, r_ins3, r_ins4, r_ins5]
  rw [q_eq (by omega) (by omega)]
  refine brc_i (fun hz => ?_) (fun hz => ?_)
  · rw [if_neg hz, if_neg hz, q_sub (by omega)]
    refine ⟨rfl, h.evt (q := (gne g - 1, gek g, gew g, gec g)) (fun c a1 a2 => sm_ne a1) (fun j hj => by rw [sm_eq, u_ne hj]) ⟨by rw [sm_eq, u_eq], by dsimp only; omega, fun i hi => ?_, h4⟩, Lw.rf.st (by omega)⟩
    rw [sm_ne (by decide)]
    exact h3 i (by dsimp only at hi; omega)
  · rw [if_pos (Classical.not_not.mp hz), if_pos (Classical.not_not.mp hz)]; exact ⟨rfl, h, Lw.rf⟩
theorem m_forget (h : MJ M g) : Ct 174 [.ref 62] M (fun r N => r = some (.int (aForget g)) ∧ MJ N (gForget g) ∧ Lw M N) := by
  obtain ⟨h1, h2, h3, h4⟩ := h.2.2.2.1
  simp only [E_174, B_174_0, cm, h1, r_iconst_p, r_iconst_m, r_bipush_p, r_bipush_m, r_sipush_p, r_sipush_m, r_ldc_p, r_ldc_m, r_ldc_w_p, r_ldc_w_m, r_lconst_p, r_lconst_m, r_ldc2_w_p, r_ldc2_w_m, r_iload, r_iload_n, r_lload, r_lload_n, r_aload, r_aload_n, r_istore, r_istore_n, r_astore, r_astore_n, r_lstore, r_lstore_n, r_iinc_p, r_iinc_m, r_iadd, r_isub, r_imul, r_iand, r_ior, r_ixor, r_ishl, r_ishr, r_iushr, r_idiv, r_irem, r_ladd, r_lsub, r_lmul, r_ldiv, r_lrem, r_lshl, r_lcmp, r_i2l, r_i2b, r_i2s, r_dup_i, r_dup_r, r_dup2_ii, r_dup2_ir, r_dup2_l, r_pop, r_getfield, r_putfield, r_iaload, r_iastore, r_aaload, r_arraylength, r_if_eq, r_icmp_eq, r_if_ne, r_icmp_ne, r_if_lt, r_icmp_lt, r_if_ge, r_icmp_ge, r_if_gt, r_icmp_gt, r_if_le, r_icmp_le, r_goto, r_switch, r_ireturn0, r_ireturn1, r_lreturn, r_areturn, r_return, r_inv0, r_inv1, r_inv2, r_inv3, r_inv4, r_inv5, r_min, r_max, r_acopy, onI_s, onL_s, onR_s, onO_s, fv0, fv1, fv2, fv3, fp1, fp20, fp21, fp3, tl_s, tl_n, lg0, lg1, lg2, lg3, lg4, lg5, lg6, lg7, lg8, lg9, lg10, lg11, lg12, lg13, lg14, lg15, lg16, lg17, ls0, ls1, ls2, ls3, ls4, ls5, ls6, ls7, ls8, ls9, ls10, ls11, ls12, ls13, ls14, ls15, ls16, ls17, lk0, lk1, lk2, lk3, lk4, lk5, lk6, lk7, lk8, lk9, lk10, lk11, lk12, lk13, lk14, lk15, lk16, lk17, kl_n, kl_i, kl_r, kl_l, Nat.reduceAdd, Nat.reduceLeDiff, not_false_eq_true, r_ins0, r_ins1, r_ins2, r_ins3, r_ins4, r_ins5]
  exact ⟨rfl, h.snt (q := (0, gnw g, gnc g, gnv g)) (fun c a1 a2 => sm_ne a1) (fun j hj => by rw [sm_eq, u_ne hj]) ⟨by rw [sm_eq, u_eq], by dsimp only; omega, fun i hi => by dsimp only at hi; omega, h4⟩, Lw.rf.st (by omega)⟩
end RW
