/-! IceHouse: what is told: texts, events, what was seen -/
def un (f : Nat → Nat) (k v : Nat) : Nat → Nat := fun j => if j = k then v else f j
def setT0 (g : Sg) (n : Nat) (t : Nat → Nat) : Sg := ((n, t), g.2)
def setT1 (g : Sg) (n : Nat) (t : Nat → Nat) : Sg := (g.1, (n, t), g.2.2)
def setEv (g : Sg) (q : Nat × (Nat → Nat) × (Nat → Nat) × (Nat → Nat)) : Sg := (g.1, g.2.1, q, g.2.2.2)
def setSn (g : Sg) (q : Nat × (Nat → Nat) × (Nat → Nat) × (Nat → Nat)) : Sg := (g.1, g.2.1, g.2.2.1, q, g.2.2.2.2)
def setSh (g : Sg) (q : (Nat → Nat) × (Nat → Nat) × (Nat → Nat → Int32)) : Sg := (g.1, g.2.1, g.2.2.1, g.2.2.2.1, q, g.2.2.2.2.2)
def setFd (g : Sg) (n : Nat) : Sg := (g.1, g.2.1, g.2.2.1, g.2.2.2.1, g.2.2.2.2.1, n)
/-- type, wipe, undo: answer and state -/
def aType (g : Sg) (x b : Int32) : Int32 := if rg x 2 = true ∧ rg b 256 = true then (if cl x = 0 then (if n0 g < 41 then nI (n0 g + 1) else mI 4) else (if n1 g < 35 then nI (n1 g + 1) else mI 4)) else mI 2
def gType (g : Sg) (x b : Int32) : Sg := if rg x 2 = true ∧ rg b 256 = true then (if cl x = 0 then (if n0 g < 41 then setT0 g (n0 g + 1) (un (t0 g) (n0 g) (cl b)) else g) else (if n1 g < 35 then setT1 g (n1 g + 1) (un (t1 g) (n1 g) (cl b)) else g)) else g
def aWipe (g : Sg) (x : Int32) : Int32 := if rg x 2 = true then (if cl x = 0 then nI (n0 g) else nI (n1 g)) else mI 2
def gWipe (g : Sg) (x : Int32) : Sg := if rg x 2 = true then (if cl x = 0 then setT0 g 0 (t0 g) else setT1 g 0 (t1 g)) else g
def aUndo (g : Sg) (x : Int32) : Int32 := if rg x 2 = true then (if cl x = 0 then (if n0 g = 0 then mI 3 else nI (n0 g - 1)) else (if n1 g = 0 then mI 3 else nI (n1 g - 1))) else mI 2
def gUndo (g : Sg) (x : Int32) : Sg := if rg x 2 = true then (if cl x = 0 then (if n0 g = 0 then g else setT0 g (n0 g - 1) (t0 g)) else (if n1 g = 0 then g else setT1 g (n1 g - 1) (t1 g))) else g
section CW
variable {M : Mem} {g : Sg}
set_option maxHeartbeats 2000000 in
theorem chg0 (h : CI M g) {N : Mem} {n : Nat} {t : Nat → Nat} (hF : Fr [2, 3] M N) (hT : RTx N 2 41 n t) : Ct 96 [.ref 0, .int (nI 0)] N (fun r P => r = none ∧ CI P (setT0 g n t) ∧ Up M P ∧ P 2 = N 2) := by
  simp only [E_96, B_96_0, B_96_1, B_96_2, cB, r_iconst_p, r_iconst_m, r_bipush_p, r_bipush_m, r_sipush_p, r_sipush_m, r_ldc_p, r_ldc_m, r_ldc_w_p, r_ldc_w_m, r_lconst_p, r_lconst_m, r_ldc2_w_p, r_ldc2_w_m, r_iload, r_iload_n, r_lload, r_lload_n, r_aload, r_aload_n, r_istore, r_istore_n, r_astore, r_astore_n, r_lstore, r_lstore_n, r_iinc_p, r_iinc_m, r_iadd, r_isub, r_imul, r_iand, r_ior, r_ixor, r_ishl, r_ishr, r_iushr, r_idiv, r_irem, r_ladd, r_lsub, r_lmul, r_ldiv, r_lrem, r_lshl, r_lcmp, r_i2l, r_i2b, r_i2s, r_dup_i, r_dup_r, r_dup2_ii, r_dup2_ir, r_dup2_l, r_pop, r_getfield, r_putfield, r_iaload, r_iastore, r_aaload, r_arraylength, r_if_eq, r_icmp_eq, r_if_ne, r_icmp_ne, r_if_lt, r_icmp_lt, r_if_ge, r_icmp_ge, r_if_gt, r_icmp_gt, r_if_le, r_icmp_le, r_goto, r_switch, r_ireturn0, r_ireturn1, r_lreturn, r_areturn, r_return, r_inv0, r_inv1, r_inv2, r_inv3, r_inv4, r_inv5, r_min, r_max, r_acopy, onI_s, onL_s, onR_s, onO_s, fv0, fv1, fv2, fv3, fp1, fp20, fp21, fp3, tl_s, tl_n, lg0, lg1, lg2, lg3, lg4, lg5, lg6, lg7, lg8, lg9, lg10, lg11, lg12, lg13, lg14, lg15, lg16, lg17, ls0, ls1, ls2, ls3, ls4, ls5, ls6, ls7, ls8, ls9, ls10, ls11, ls12, ls13, ls14, ls15, ls16, ls17, lk0, lk1, lk2, lk3, lk4, lk5, lk6, lk7, lk8, lk9, lk10, lk11, lk12, lk13, lk14, lk15, lk16, lk17, kl_n, kl_i, kl_r, kl_l, Nat.reduceAdd, Nat.reduceLeDiff, not_false_eq_true, r_ins0, r_ins1, r_ins2, r_ins3, r_ins4, r_ins5]
  rw [brc_nT]
  refine ⟨trivial, by simp, (s_parseBlocks hT).mono ?_⟩
  rintro r P ⟨rfl, F2, e1, R2⟩
  simp only [B_96_0, B_96_1, B_96_2, cB, (s_noteChange P).ct, r_iconst_p, r_iconst_m, r_bipush_p, r_bipush_m, r_sipush_p, r_sipush_m, r_ldc_p, r_ldc_m, r_ldc_w_p, r_ldc_w_m, r_lconst_p, r_lconst_m, r_ldc2_w_p, r_ldc2_w_m, r_iload, r_iload_n, r_lload, r_lload_n, r_aload, r_aload_n, r_istore, r_istore_n, r_astore, r_astore_n, r_lstore, r_lstore_n, r_iinc_p, r_iinc_m, r_iadd, r_isub, r_imul, r_iand, r_ior, r_ixor, r_ishl, r_ishr, r_iushr, r_idiv, r_irem, r_ladd, r_lsub, r_lmul, r_ldiv, r_lrem, r_lshl, r_lcmp, r_i2l, r_i2b, r_i2s, r_dup_i, r_dup_r, r_dup2_ii, r_dup2_ir, r_dup2_l, r_pop, r_getfield, r_putfield, r_iaload, r_iastore, r_aaload, r_arraylength, r_if_eq, r_icmp_eq, r_if_ne, r_icmp_ne, r_if_lt, r_icmp_lt, r_if_ge, r_icmp_ge, r_if_gt, r_icmp_gt, r_if_le, r_icmp_le, r_goto, r_switch, r_ireturn0, r_ireturn1, r_lreturn, r_areturn, r_return, r_inv0, r_inv1, r_inv2, r_inv3, r_inv4, r_inv5, r_min, r_max, r_acopy, onI_s, onL_s, onR_s, onO_s, fv0, fv1, fv2, fv3, fp1, fp20, fp21, fp3, tl_s, tl_n, lg0, lg1, lg2, lg3, lg4, lg5, lg6, lg7, lg8, lg9, lg10, lg11, lg12, lg13, lg14, lg15, lg16, lg17, ls0, ls1, ls2, ls3, ls4, ls5, ls6, ls7, ls8, ls9, ls10, ls11, ls12, ls13, ls14, ls15, ls16, ls17, lk0, lk1, lk2, lk3, lk4, lk5, lk6, lk7, lk8, lk9, lk10, lk11, lk12, lk13, lk14, lk15, lk16, lk17, kl_n, kl_i, kl_r, kl_l, Nat.reduceAdd, Nat.reduceLeDiff, not_false_eq_true, r_ins0, r_ins1, r_ins2, r_ins3, r_ins4, r_ins5]
  obtain ⟨⟨h1, h2, ⟨h3, h4, h5⟩, h6, h7, h8, h9, h10, h11, h12, h13⟩, hS, hT2, hk1, hk2⟩ := h
  have FF : Fr [1, 2, 3, 7, 8] M P := hF.tr F2 (by decide) (by decide)
  have G : ∀ c, c ∉ [0, 1, 2, 3, 7, 8, 20] → stM (stM P 0 4 (nI 0)) 20 4 (nI 0) c = M c := fun c hc => by
    simp only [List.mem_cons, List.not_mem_nil, or_false] at hc
    rw [sm_ne (by omega), sm_ne (by omega)]
    exact FF c (by simp only [List.mem_cons, List.not_mem_nil, or_false]; omega)
  have e2 : ∀ c, c ≠ 0 → c ≠ 20 → stM (stM P 0 4 (nI 0)) 20 4 (nI 0) c = P c := fun c a1 a2 => by rw [sm_ne a2, sm_ne a1]
  have eN1 : N 1 = M 1 := hF 1 (by decide)
  refine ⟨by decide, by simp, trivial, ⟨⟨?_, ?_, ⟨?_, ?_, ?_⟩, ?_, ?_, ?_, ⟨?_, h9.2⟩, ?_, ?_, ?_, ?_⟩, Or.inl ?_, Or.inl ?_, ?_, ?_⟩, ?_, ?_⟩
  · unfold RTx at hT ⊢
    rw [e2 2 (by decide) (by decide), e2 3 (by decide) (by decide), F2 2 (by decide), F2 3 (by decide)]
    exact hT
  · unfold RTx at h2 ⊢
    rw [G 4 (by decide), G 5 (by decide)]
    exact h2
  · unfold RS at R2 ⊢
    rw [e2 7 (by decide) (by decide), e2 8 (by decide) (by decide)]
    exact R2
  · unfold ROr at h4 ⊢
    rw [G 9 (by decide), G 10 (by decide), G 11 (by decide)]
    exact h4
  · unfold REv at h5 ⊢
    rw [G 12 (by decide), G 13 (by decide), G 14 (by decide), G 15 (by decide)]
    exact h5
  · rw [e2 1 (by decide) (by decide), e1, u_eq]; rfl
  · rw [e2 1 (by decide) (by decide), e1, u_ne (by decide), eN1]
    exact h7
  · unfold RSn at h8 ⊢
    rw [G 16 (by decide), G 17 (by decide), G 18 (by decide), G 19 (by decide)]
    exact h8
  · rw [sm_ne (by decide), sm_eq, u_ne (by decide), FF 0 (by decide)]
    exact h9.1
  · unfold RSh at h10 ⊢
    rw [G 54 (by decide), G 55 (by decide)]
    exact h10
  · unfold RSh at h11 ⊢
    rw [G 56 (by decide), G 57 (by decide)]
    exact h11
  · unfold RSh at h12 ⊢
    rw [G 58 (by decide), G 59 (by decide)]
    exact h12
  · unfold RSh at h13 ⊢
    rw [G 60 (by decide), G 61 (by decide)]
    exact h13
  · rw [sm_ne (by decide), sm_eq, u_eq]
  · rw [sm_eq, u_eq]
  · rw [G 21 (by decide)]; exact hk1
  · rw [G 38 (by decide)]; exact hk2
  · intro c hc
    exact G c (by simp only [List.mem_cons, List.not_mem_nil, or_false]; omega)
  · rw [e2 2 (by decide) (by decide), F2 2 (by decide)]
set_option maxHeartbeats 2000000 in
theorem chg1 (h : CI M g) {N : Mem} {n : Nat} {t : Nat → Nat} (hF : Fr [4, 5] M N) (hT : RTx N 4 35 n t) : Ct 96 [.ref 0, .int (nI 1)] N (fun r P => r = none ∧ CI P (setT1 g n t) ∧ Up M P ∧ P 4 = N 4) := by
  simp only [E_96, B_96_0, B_96_1, B_96_2, cB, r_iconst_p, r_iconst_m, r_bipush_p, r_bipush_m, r_sipush_p, r_sipush_m, r_ldc_p, r_ldc_m, r_ldc_w_p, r_ldc_w_m, r_lconst_p, r_lconst_m, r_ldc2_w_p, r_ldc2_w_m, r_iload, r_iload_n, r_lload, r_lload_n, r_aload, r_aload_n, r_istore, r_istore_n, r_astore, r_astore_n, r_lstore, r_lstore_n, r_iinc_p, r_iinc_m, r_iadd, r_isub, r_imul, r_iand, r_ior, r_ixor, r_ishl, r_ishr, r_iushr, r_idiv, r_irem, r_ladd, r_lsub, r_lmul, r_ldiv, r_lrem, r_lshl, r_lcmp, r_i2l, r_i2b, r_i2s, r_dup_i, r_dup_r, r_dup2_ii, r_dup2_ir, r_dup2_l, r_pop, r_getfield, r_putfield, r_iaload, r_iastore, r_aaload, r_arraylength, r_if_eq, r_icmp_eq, r_if_ne, r_icmp_ne, r_if_lt, r_icmp_lt, r_if_ge, r_icmp_ge, r_if_gt, r_icmp_gt, r_if_le, r_icmp_le, r_goto, r_switch, r_ireturn0, r_ireturn1, r_lreturn, r_areturn, r_return, r_inv0, r_inv1, r_inv2, r_inv3, r_inv4, r_inv5, r_min, r_max, r_acopy, onI_s, onL_s, onR_s, onO_s, fv0, fv1, fv2, fv3, fp1, fp20, fp21, fp3, tl_s, tl_n, lg0, lg1, lg2, lg3, lg4, lg5, lg6, lg7, lg8, lg9, lg10, lg11, lg12, lg13, lg14, lg15, lg16, lg17, ls0, ls1, ls2, ls3, ls4, ls5, ls6, ls7, ls8, ls9, ls10, ls11, ls12, ls13, ls14, ls15, ls16, ls17, lk0, lk1, lk2, lk3, lk4, lk5, lk6, lk7, lk8, lk9, lk10, lk11, lk12, lk13, lk14, lk15, lk16, lk17, kl_n, kl_i, kl_r, kl_l, Nat.reduceAdd, Nat.reduceLeDiff, not_false_eq_true, r_ins0, r_ins1, r_ins2, r_ins3, r_ins4, r_ins5]
  rw [brc_pos (by decide)]
  refine ⟨trivial, by simp, (s_parseOrders hT).mono ?_⟩
  rintro r P ⟨rfl, F2, e1, R2⟩
  simp only [B_96_0, B_96_1, B_96_2, cB, (s_noteChange P).ct, r_iconst_p, r_iconst_m, r_bipush_p, r_bipush_m, r_sipush_p, r_sipush_m, r_ldc_p, r_ldc_m, r_ldc_w_p, r_ldc_w_m, r_lconst_p, r_lconst_m, r_ldc2_w_p, r_ldc2_w_m, r_iload, r_iload_n, r_lload, r_lload_n, r_aload, r_aload_n, r_istore, r_istore_n, r_astore, r_astore_n, r_lstore, r_lstore_n, r_iinc_p, r_iinc_m, r_iadd, r_isub, r_imul, r_iand, r_ior, r_ixor, r_ishl, r_ishr, r_iushr, r_idiv, r_irem, r_ladd, r_lsub, r_lmul, r_ldiv, r_lrem, r_lshl, r_lcmp, r_i2l, r_i2b, r_i2s, r_dup_i, r_dup_r, r_dup2_ii, r_dup2_ir, r_dup2_l, r_pop, r_getfield, r_putfield, r_iaload, r_iastore, r_aaload, r_arraylength, r_if_eq, r_icmp_eq, r_if_ne, r_icmp_ne, r_if_lt, r_icmp_lt, r_if_ge, r_icmp_ge, r_if_gt, r_icmp_gt, r_if_le, r_icmp_le, r_goto, r_switch, r_ireturn0, r_ireturn1, r_lreturn, r_areturn, r_return, r_inv0, r_inv1, r_inv2, r_inv3, r_inv4, r_inv5, r_min, r_max, r_acopy, onI_s, onL_s, onR_s, onO_s, fv0, fv1, fv2, fv3, fp1, fp20, fp21, fp3, tl_s, tl_n, lg0, lg1, lg2, lg3, lg4, lg5, lg6, lg7, lg8, lg9, lg10, lg11, lg12, lg13, lg14, lg15, lg16, lg17, ls0, ls1, ls2, ls3, ls4, ls5, ls6, ls7, ls8, ls9, ls10, ls11, ls12, ls13, ls14, ls15, ls16, ls17, lk0, lk1, lk2, lk3, lk4, lk5, lk6, lk7, lk8, lk9, lk10, lk11, lk12, lk13, lk14, lk15, lk16, lk17, kl_n, kl_i, kl_r, kl_l, Nat.reduceAdd, Nat.reduceLeDiff, not_false_eq_true, r_ins0, r_ins1, r_ins2, r_ins3, r_ins4, r_ins5]
  obtain ⟨⟨h1, h2, ⟨h3, h4, h5⟩, h6, h7, h8, h9, h10, h11, h12, h13⟩, hS, hT2, hk1, hk2⟩ := h
  have FF : Fr [1, 4, 5, 9, 10, 11] M P := hF.tr F2 (by decide) (by decide)
  have G : ∀ c, c ∉ [0, 1, 4, 5, 9, 10, 11, 20] → stM (stM P 0 4 (nI 0)) 20 4 (nI 0) c = M c := fun c hc => by
    simp only [List.mem_cons, List.not_mem_nil, or_false] at hc
    rw [sm_ne (by omega), sm_ne (by omega)]
    exact FF c (by simp only [List.mem_cons, List.not_mem_nil, or_false]; omega)
  have e2 : ∀ c, c ≠ 0 → c ≠ 20 → stM (stM P 0 4 (nI 0)) 20 4 (nI 0) c = P c := fun c a1 a2 => by rw [sm_ne a2, sm_ne a1]
  have eN1 : N 1 = M 1 := hF 1 (by decide)
  refine ⟨by decide, by simp, trivial, ⟨⟨?_, ?_, ⟨?_, ?_, ?_⟩, ?_, ?_, ?_, ⟨?_, h9.2⟩, ?_, ?_, ?_, ?_⟩, Or.inl ?_, Or.inl ?_, ?_, ?_⟩, ?_, ?_⟩
  · unfold RTx at h1 ⊢
    rw [G 2 (by decide), G 3 (by decide)]
    exact h1
  · unfold RTx at hT ⊢
    rw [e2 4 (by decide) (by decide), e2 5 (by decide) (by decide), F2 4 (by decide), F2 5 (by decide)]
    exact hT
  · unfold RS at h3 ⊢
    rw [G 7 (by decide), G 8 (by decide)]
    exact h3
  · unfold ROr at R2 ⊢
    rw [e2 9 (by decide) (by decide), e2 10 (by decide) (by decide), e2 11 (by decide) (by decide)]
    exact R2
  · unfold REv at h5 ⊢
    rw [G 12 (by decide), G 13 (by decide), G 14 (by decide), G 15 (by decide)]
    exact h5
  · rw [e2 1 (by decide) (by decide), e1, u_ne (by decide), eN1]
    exact h6
  · rw [e2 1 (by decide) (by decide), e1, u_eq]; rfl
  · unfold RSn at h8 ⊢
    rw [G 16 (by decide), G 17 (by decide), G 18 (by decide), G 19 (by decide)]
    exact h8
  · rw [sm_ne (by decide), sm_eq, u_ne (by decide), FF 0 (by decide)]
    exact h9.1
  · unfold RSh at h10 ⊢
    rw [G 54 (by decide), G 55 (by decide)]
    exact h10
  · unfold RSh at h11 ⊢
    rw [G 56 (by decide), G 57 (by decide)]
    exact h11
  · unfold RSh at h12 ⊢
    rw [G 58 (by decide), G 59 (by decide)]
    exact h12
  · unfold RSh at h13 ⊢
    rw [G 60 (by decide), G 61 (by decide)]
    exact h13
  · rw [sm_ne (by decide), sm_eq, u_eq]
  · rw [sm_eq, u_eq]
  · rw [G 21 (by decide)]; exact hk1
  · rw [G 38 (by decide)]; exact hk2
  · intro c hc
    exact G c (by simp only [List.mem_cons, List.not_mem_nil, or_false]; omega)
  · rw [e2 4 (by decide) (by decide), F2 4 (by decide)]
theorem s_textOf (M : Mem) {k : Nat} (hk : k < 2) : Ev 0 [.ref 1, .int (nI k)] M (some (.ref (if k = 0 then 2 else 4))) M := by
  apply Ev.of
  simp only [E_0, B_0_0, B_0_1, B_0_2, cB, r_iconst_p, r_iconst_m, r_bipush_p, r_bipush_m, r_sipush_p, r_sipush_m, r_ldc_p, r_ldc_m, r_ldc_w_p, r_ldc_w_m, r_lconst_p, r_lconst_m, r_ldc2_w_p, r_ldc2_w_m, r_iload, r_iload_n, r_lload, r_lload_n, r_aload, r_aload_n, r_istore, r_istore_n, r_astore, r_astore_n, r_lstore, r_lstore_n, r_iinc_p, r_iinc_m, r_iadd, r_isub, r_imul, r_iand, r_ior, r_ixor, r_ishl, r_ishr, r_iushr, r_idiv, r_irem, r_ladd, r_lsub, r_lmul, r_ldiv, r_lrem, r_lshl, r_lcmp, r_i2l, r_i2b, r_i2s, r_dup_i, r_dup_r, r_dup2_ii, r_dup2_ir, r_dup2_l, r_pop, r_getfield, r_putfield, r_iaload, r_iastore, r_aaload, r_arraylength, r_if_eq, r_icmp_eq, r_if_ne, r_icmp_ne, r_if_lt, r_icmp_lt, r_if_ge, r_icmp_ge, r_if_gt, r_icmp_gt, r_if_le, r_icmp_le, r_goto, r_switch, r_ireturn0, r_ireturn1, r_lreturn, r_areturn, r_return, r_inv0, r_inv1, r_inv2, r_inv3, r_inv4, r_inv5, r_min, r_max, r_acopy, onI_s, onL_s, onR_s, onO_s, fv0, fv1, fv2, fv3, fp1, fp20, fp21, fp3, tl_s, tl_n, lg0, lg1, lg2, lg3, lg4, lg5, lg6, lg7, lg8, lg9, lg10, lg11, lg12, lg13, lg14, lg15, lg16, lg17, ls0, ls1, ls2, ls3, ls4, ls5, ls6, ls7, ls8, ls9, ls10, ls11, ls12, ls13, ls14, ls15, ls16, ls17, lk0, lk1, lk2, lk3, lk4, lk5, lk6, lk7, lk8, lk9, lk10, lk11, lk12, lk13, lk14, lk15, lk16, lk17, kl_n, kl_i, kl_r, kl_l, Nat.reduceAdd, Nat.reduceLeDiff, not_false_eq_true, r_ins0, r_ins1, r_ins2, r_ins3, r_ins4, r_ins5]
  rw [q_eq (by omega) (by omega)]
  refine brc_i (fun hz => ?_) (fun hz => ?_)
  · rw [if_neg hz]; exact ⟨rfl, trivial⟩
  · rw [if_pos (Classical.not_not.mp hz)]; exact ⟨rfl, trivial⟩
theorem s_append_2 {n most : Nat} {t : Nat → Nat} {v : Nat} (hT : RTx M 2 most n t) (hn : n < most) (hm : most ≤ 41) (hv : v ≤ 255) : Ct 49 [.ref 2, .int (nI v)] M (fun r N => r = none ∧ Fr [2, 3] M N ∧ RTx N 2 most (n + 1) (un t n v)) := by
  obtain ⟨t1, t2, t3, t4, t5⟩ := hT
  simp only [E_49, B_49_0, B_49_1, cB, r_iconst_p, r_iconst_m, r_bipush_p, r_bipush_m, r_sipush_p, r_sipush_m, r_ldc_p, r_ldc_m, r_ldc_w_p, r_ldc_w_m, r_lconst_p, r_lconst_m, r_ldc2_w_p, r_ldc2_w_m, r_iload, r_iload_n, r_lload, r_lload_n, r_aload, r_aload_n, r_istore, r_istore_n, r_astore, r_astore_n, r_lstore, r_lstore_n, r_iinc_p, r_iinc_m, r_iadd, r_isub, r_imul, r_iand, r_ior, r_ixor, r_ishl, r_ishr, r_iushr, r_idiv, r_irem, r_ladd, r_lsub, r_lmul, r_ldiv, r_lrem, r_lshl, r_lcmp, r_i2l, r_i2b, r_i2s, r_dup_i, r_dup_r, r_dup2_ii, r_dup2_ir, r_dup2_l, r_pop, r_getfield, r_putfield, r_iaload, r_iastore, r_aaload, r_arraylength, r_if_eq, r_icmp_eq, r_if_ne, r_icmp_ne, r_if_lt, r_icmp_lt, r_if_ge, r_icmp_ge, r_if_gt, r_icmp_gt, r_if_le, r_icmp_le, r_goto, r_switch, r_ireturn0, r_ireturn1, r_lreturn, r_areturn, r_return, r_inv0, r_inv1, r_inv2, r_inv3, r_inv4, r_inv5, r_min, r_max, r_acopy, onI_s, onL_s, onR_s, onO_s, fv0, fv1, fv2, fv3, fp1, fp20, fp21, fp3, tl_s, tl_n, lg0, lg1, lg2, lg3, lg4, lg5, lg6, lg7, lg8, lg9, lg10, lg11, lg12, lg13, lg14, lg15, lg16, lg17, ls0, ls1, ls2, ls3, ls4, ls5, ls6, ls7, ls8, ls9, ls10, ls11, ls12, ls13, ls14, ls15, ls16, ls17, lk0, lk1, lk2, lk3, lk4, lk5, lk6, lk7, lk8, lk9, lk10, lk11, lk12, lk13, lk14, lk15, lk16, lk17, kl_n, kl_i, kl_r, kl_l, Nat.reduceAdd, Nat.reduceLeDiff, not_false_eq_true, r_ins0, r_ins1, r_ins2, r_ins3, r_ins4, r_ins5]
  rw [t1, t2, q_le (by omega) (by omega), brc_neg (by omega), inb_n (n := 41) rfl (by omega) (by omega), nI_clamp (by omega), sm_ne (show ¬ 2 = 3 by decide), t2, q_add]
  refine ⟨by omega, trivial, (Fr.rf.st (by decide)).st (by decide), ?_, ?_, by omega, fun i hi => ?_, fun i => ?_⟩
  · rw [sm_eq, u_ne (by decide), sm_ne (by decide)]; exact t1
  · rw [sm_eq, u_eq]
  · rw [sm_ne (by decide), sm_eq, u_if]
    unfold un
    by_cases e : i = n
    · rw [if_pos e, if_pos e]
    · rw [if_neg e, if_neg e]; exact t4 i (by omega)
  · unfold un
    split
    · exact hv
    · exact t5 i
theorem s_append_4 {n most : Nat} {t : Nat → Nat} {v : Nat} (hT : RTx M 4 most n t) (hn : n < most) (hm : most ≤ 41) (hv : v ≤ 255) : Ct 49 [.ref 4, .int (nI v)] M (fun r N => r = none ∧ Fr [4, 5] M N ∧ RTx N 4 most (n + 1) (un t n v)) := by
  obtain ⟨t1, t2, t3, t4, t5⟩ := hT
  simp only [E_49, B_49_0, B_49_1, cB, r_iconst_p, r_iconst_m, r_bipush_p, r_bipush_m, r_sipush_p, r_sipush_m, r_ldc_p, r_ldc_m, r_ldc_w_p, r_ldc_w_m, r_lconst_p, r_lconst_m, r_ldc2_w_p, r_ldc2_w_m, r_iload, r_iload_n, r_lload, r_lload_n, r_aload, r_aload_n, r_istore, r_istore_n, r_astore, r_astore_n, r_lstore, r_lstore_n, r_iinc_p, r_iinc_m, r_iadd, r_isub, r_imul, r_iand, r_ior, r_ixor, r_ishl, r_ishr, r_iushr, r_idiv, r_irem, r_ladd, r_lsub, r_lmul, r_ldiv, r_lrem, r_lshl, r_lcmp, r_i2l, r_i2b, r_i2s, r_dup_i, r_dup_r, r_dup2_ii, r_dup2_ir, r_dup2_l, r_pop, r_getfield, r_putfield, r_iaload, r_iastore, r_aaload, r_arraylength, r_if_eq, r_icmp_eq, r_if_ne, r_icmp_ne, r_if_lt, r_icmp_lt, r_if_ge, r_icmp_ge, r_if_gt, r_icmp_gt, r_if_le, r_icmp_le, r_goto, r_switch, r_ireturn0, r_ireturn1, r_lreturn, r_areturn, r_return, r_inv0, r_inv1, r_inv2, r_inv3, r_inv4, r_inv5, r_min, r_max, r_acopy, onI_s, onL_s, onR_s, onO_s, fv0, fv1, fv2, fv3, fp1, fp20, fp21, fp3, tl_s, tl_n, lg0, lg1, lg2, lg3, lg4, lg5, lg6, lg7, lg8, lg9, lg10, lg11, lg12, lg13, lg14, lg15, lg16, lg17, ls0, ls1, ls2, ls3, ls4, ls5, ls6, ls7, ls8, ls9, ls10, ls11, ls12, ls13, ls14, ls15, ls16, ls17, lk0, lk1, lk2, lk3, lk4, lk5, lk6, lk7, lk8, lk9, lk10, lk11, lk12, lk13, lk14, lk15, lk16, lk17, kl_n, kl_i, kl_r, kl_l, Nat.reduceAdd, Nat.reduceLeDiff, not_false_eq_true, r_ins0, r_ins1, r_ins2, r_ins3, r_ins4, r_ins5]
  rw [t1, t2, q_le (by omega) (by omega), brc_neg (by omega), inb_n (n := 41) rfl (by omega) (by omega), nI_clamp (by omega), sm_ne (show ¬ 4 = 5 by decide), t2, q_add]
  refine ⟨by omega, trivial, (Fr.rf.st (by decide)).st (by decide), ?_, ?_, by omega, fun i hi => ?_, fun i => ?_⟩
  · rw [sm_eq, u_ne (by decide), sm_ne (by decide)]; exact t1
  · rw [sm_eq, u_eq]
  · rw [sm_ne (by decide), sm_eq, u_if]
    unfold un
    by_cases e : i = n
    · rw [if_pos e, if_pos e]
    · rw [if_neg e, if_neg e]; exact t4 i (by omega)
  · unfold un
    split
    · exact hv
    · exact t5 i
set_option maxHeartbeats 2000000 in
theorem c_type (h : CI M g) (x b : Int32) : Ct 52 [.ref 0, .int x, .int b] M (fun r N => r = some (.int (aType g x b)) ∧ CI N (gType g x b) ∧ Up M N) := by
  unfold aType gType
  simp only [E_52, B_52_0, B_52_1, B_52_2, B_52_3, cB, (s_out x (show 1 < 2 ^ 31 by omega) M).ct, (s_out b (show 255 < 2 ^ 31 by omega) M).ct, r_iconst_p, r_iconst_m, r_bipush_p, r_bipush_m, r_sipush_p, r_sipush_m, r_ldc_p, r_ldc_m, r_ldc_w_p, r_ldc_w_m, r_lconst_p, r_lconst_m, r_ldc2_w_p, r_ldc2_w_m, r_iload, r_iload_n, r_lload, r_lload_n, r_aload, r_aload_n, r_istore, r_istore_n, r_astore, r_astore_n, r_lstore, r_lstore_n, r_iinc_p, r_iinc_m, r_iadd, r_isub, r_imul, r_iand, r_ior, r_ixor, r_ishl, r_ishr, r_iushr, r_idiv, r_irem, r_ladd, r_lsub, r_lmul, r_ldiv, r_lrem, r_lshl, r_lcmp, r_i2l, r_i2b, r_i2s, r_dup_i, r_dup_r, r_dup2_ii, r_dup2_ir, r_dup2_l, r_pop, r_getfield, r_putfield, r_iaload, r_iastore, r_aaload, r_arraylength, r_if_eq, r_icmp_eq, r_if_ne, r_icmp_ne, r_if_lt, r_icmp_lt, r_if_ge, r_icmp_ge, r_if_gt, r_icmp_gt, r_if_le, r_icmp_le, r_goto, r_switch, r_ireturn0, r_ireturn1, r_lreturn, r_areturn, r_return, r_inv0, r_inv1, r_inv2, r_inv3, r_inv4, r_inv5, r_min, r_max, r_acopy, onI_s, onL_s, onR_s, onO_s, fv0, fv1, fv2, fv3, fp1, fp20, fp21, fp3, tl_s, tl_n, lg0, lg1, lg2, lg3, lg4, lg5, lg6, lg7, lg8, lg9, lg10, lg11, lg12, lg13, lg14, lg15, lg16, lg17, ls0, ls1, ls2, ls3, ls4, ls5, ls6, ls7, ls8, ls9, ls10, ls11, ls12, ls13, ls14, ls15, ls16, ls17, lk0, lk1, lk2, lk3, lk4, lk5, lk6, lk7, lk8, lk9, lk10, lk11, lk12, lk13, lk14, lk15, lk16, lk17, kl_n, kl_i, kl_r, kl_l, Nat.reduceAdd, Nat.reduceLeDiff, not_false_eq_true, r_ins0, r_ins1, r_ins2, r_ins3, r_ins4, r_ins5]
  refine ⟨by simp, ?_⟩
  cases hx : rg x (1 + 1) with
  | false => rw [rF, n10, brc_nF, if_neg (fun q => by cases q.1), if_neg (fun q => by cases q.1)]; exact ⟨rfl, h, Up.rf⟩
  | true =>
    rw [rT, brc_neg (fun q => q rfl)]
    refine ⟨by simp, ?_⟩
    cases hb : rg b (255 + 1) with
    | false => rw [rF, n10, brc_F, if_neg (fun q => by cases q.2), if_neg (fun q => by cases q.2)]; exact ⟨rfl, h, Up.rf⟩
    | true =>
      obtain ⟨b1, e1⟩ := rg_T hx
      obtain ⟨b2, e2⟩ := rg_T hb
      rw [rT, brc_pos rfl, if_pos (show true = true ∧ true = true from ⟨rfl, rfl⟩), if_pos (show true = true ∧ true = true from ⟨rfl, rfl⟩)]
      generalize cl x = k at *
      generalize cl b = v at *
      subst e1
      subst e2
      refine ⟨trivial, by simp, ?_⟩
      rw [(s_textOf M b1).ct]
      obtain ⟨t1, t2, t3, t4, t5⟩ := id h.1.1
      obtain ⟨u1, u2, u3, u4, u5⟩ := id h.1.2.1
      rcases (show k = 0 ∨ k = 1 by omega) with rfl | rfl
      · simp only [if_true]
        simp only [B_52_0, B_52_1, B_52_2, B_52_3, cB, r_iconst_p, r_iconst_m, r_bipush_p, r_bipush_m, r_sipush_p, r_sipush_m, r_ldc_p, r_ldc_m, r_ldc_w_p, r_ldc_w_m, r_lconst_p, r_lconst_m, r_ldc2_w_p, r_ldc2_w_m, r_iload, r_iload_n, r_lload, r_lload_n, r_aload, r_aload_n, r_istore, r_istore_n, r_astore, r_astore_n, r_lstore, r_lstore_n, r_iinc_p, r_iinc_m, r_iadd, r_isub, r_imul, r_iand, r_ior, r_ixor, r_ishl, r_ishr, r_iushr, r_idiv, r_irem, r_ladd, r_lsub, r_lmul, r_ldiv, r_lrem, r_lshl, r_lcmp, r_i2l, r_i2b, r_i2s, r_dup_i, r_dup_r, r_dup2_ii, r_dup2_ir, r_dup2_l, r_pop, r_getfield, r_putfield, r_iaload, r_iastore, r_aaload, r_arraylength, r_if_eq, r_icmp_eq, r_if_ne, r_icmp_ne, r_if_lt, r_icmp_lt, r_if_ge, r_icmp_ge, r_if_gt, r_icmp_gt, r_if_le, r_icmp_le, r_goto, r_switch, r_ireturn0, r_ireturn1, r_lreturn, r_areturn, r_return, r_inv0, r_inv1, r_inv2, r_inv3, r_inv4, r_inv5, r_min, r_max, r_acopy, onI_s, onL_s, onR_s, onO_s, fv0, fv1, fv2, fv3, fp1, fp20, fp21, fp3, tl_s, tl_n, lg0, lg1, lg2, lg3, lg4, lg5, lg6, lg7, lg8, lg9, lg10, lg11, lg12, lg13, lg14, lg15, lg16, lg17, ls0, ls1, ls2, ls3, ls4, ls5, ls6, ls7, ls8, ls9, ls10, ls11, ls12, ls13, ls14, ls15, ls16, ls17, lk0, lk1, lk2, lk3, lk4, lk5, lk6, lk7, lk8, lk9, lk10, lk11, lk12, lk13, lk14, lk15, lk16, lk17, kl_n, kl_i, kl_r, kl_l, Nat.reduceAdd, Nat.reduceLeDiff, not_false_eq_true, r_ins0, r_ins1, r_ins2, r_ins3, r_ins4, r_ins5]
        rw [t1, t2, q_lt (by omega) (by omega)]
        refine brc_i (fun hz => ?_) (fun hz => ?_)
        · rw [if_pos hz, if_pos hz]
          refine ⟨trivial, by simp, (s_append_2 h.1.1 hz (by omega) (by omega)).mono ?_⟩
          rintro r N ⟨rfl, F1, T1⟩
          simp only [B_52_0, B_52_1, B_52_2, B_52_3, cB, r_iconst_p, r_iconst_m, r_bipush_p, r_bipush_m, r_sipush_p, r_sipush_m, r_ldc_p, r_ldc_m, r_ldc_w_p, r_ldc_w_m, r_lconst_p, r_lconst_m, r_ldc2_w_p, r_ldc2_w_m, r_iload, r_iload_n, r_lload, r_lload_n, r_aload, r_aload_n, r_istore, r_istore_n, r_astore, r_astore_n, r_lstore, r_lstore_n, r_iinc_p, r_iinc_m, r_iadd, r_isub, r_imul, r_iand, r_ior, r_ixor, r_ishl, r_ishr, r_iushr, r_idiv, r_irem, r_ladd, r_lsub, r_lmul, r_ldiv, r_lrem, r_lshl, r_lcmp, r_i2l, r_i2b, r_i2s, r_dup_i, r_dup_r, r_dup2_ii, r_dup2_ir, r_dup2_l, r_pop, r_getfield, r_putfield, r_iaload, r_iastore, r_aaload, r_arraylength, r_if_eq, r_icmp_eq, r_if_ne, r_icmp_ne, r_if_lt, r_icmp_lt, r_if_ge, r_icmp_ge, r_if_gt, r_icmp_gt, r_if_le, r_icmp_le, r_goto, r_switch, r_ireturn0, r_ireturn1, r_lreturn, r_areturn, r_return, r_inv0, r_inv1, r_inv2, r_inv3, r_inv4, r_inv5, r_min, r_max, r_acopy, onI_s, onL_s, onR_s, onO_s, fv0, fv1, fv2, fv3, fp1, fp20, fp21, fp3, tl_s, tl_n, lg0, lg1, lg2, lg3, lg4, lg5, lg6, lg7, lg8, lg9, lg10, lg11, lg12, lg13, lg14, lg15, lg16, lg17, ls0, ls1, ls2, ls3, ls4, ls5, ls6, ls7, ls8, ls9, ls10, ls11, ls12, ls13, ls14, ls15, ls16, ls17, lk0, lk1, lk2, lk3, lk4, lk5, lk6, lk7, lk8, lk9, lk10, lk11, lk12, lk13, lk14, lk15, lk16, lk17, kl_n, kl_i, kl_r, kl_l, Nat.reduceAdd, Nat.reduceLeDiff, not_false_eq_true, r_ins0, r_ins1, r_ins2, r_ins3, r_ins4, r_ins5]
          refine ⟨trivial, by simp, (chg0 h F1 T1).mono ?_⟩
          rintro r P ⟨rfl, c1, c2, c3⟩
          simp only [B_52_0, B_52_1, B_52_2, B_52_3, cB, r_iconst_p, r_iconst_m, r_bipush_p, r_bipush_m, r_sipush_p, r_sipush_m, r_ldc_p, r_ldc_m, r_ldc_w_p, r_ldc_w_m, r_lconst_p, r_lconst_m, r_ldc2_w_p, r_ldc2_w_m, r_iload, r_iload_n, r_lload, r_lload_n, r_aload, r_aload_n, r_istore, r_istore_n, r_astore, r_astore_n, r_lstore, r_lstore_n, r_iinc_p, r_iinc_m, r_iadd, r_isub, r_imul, r_iand, r_ior, r_ixor, r_ishl, r_ishr, r_iushr, r_idiv, r_irem, r_ladd, r_lsub, r_lmul, r_ldiv, r_lrem, r_lshl, r_lcmp, r_i2l, r_i2b, r_i2s, r_dup_i, r_dup_r, r_dup2_ii, r_dup2_ir, r_dup2_l, r_pop, r_getfield, r_putfield, r_iaload, r_iastore, r_aaload, r_arraylength, r_if_eq, r_icmp_eq, r_if_ne, r_icmp_ne, r_if_lt, r_icmp_lt, r_if_ge, r_icmp_ge, r_if_gt, r_icmp_gt, r_if_le, r_icmp_le, r_goto, r_switch, r_ireturn0, r_ireturn1, r_lreturn, r_areturn, r_return, r_inv0, r_inv1, r_inv2, r_inv3, r_inv4, r_inv5, r_min, r_max, r_acopy, onI_s, onL_s, onR_s, onO_s, fv0, fv1, fv2, fv3, fp1, fp20, fp21, fp3, tl_s, tl_n, lg0, lg1, lg2, lg3, lg4, lg5, lg6, lg7, lg8, lg9, lg10, lg11, lg12, lg13, lg14, lg15, lg16, lg17, ls0, ls1, ls2, ls3, ls4, ls5, ls6, ls7, ls8, ls9, ls10, ls11, ls12, ls13, ls14, ls15, ls16, ls17, lk0, lk1, lk2, lk3, lk4, lk5, lk6, lk7, lk8, lk9, lk10, lk11, lk12, lk13, lk14, lk15, lk16, lk17, kl_n, kl_i, kl_r, kl_l, Nat.reduceAdd, Nat.reduceLeDiff, not_false_eq_true, r_ins0, r_ins1, r_ins2, r_ins3, r_ins4, r_ins5]
          rw [c3, T1.2.1]
          exact ⟨rfl, c1, c2⟩
        · rw [if_neg hz, if_neg hz]; exact ⟨rfl, h, Up.rf⟩
      · simp only [show ((1 : Nat) = 0) = False by decide, if_false]
        simp only [B_52_0, B_52_1, B_52_2, B_52_3, cB, r_iconst_p, r_iconst_m, r_bipush_p, r_bipush_m, r_sipush_p, r_sipush_m, r_ldc_p, r_ldc_m, r_ldc_w_p, r_ldc_w_m, r_lconst_p, r_lconst_m, r_ldc2_w_p, r_ldc2_w_m, r_iload, r_iload_n, r_lload, r_lload_n, r_aload, r_aload_n, r_istore, r_istore_n, r_astore, r_astore_n, r_lstore, r_lstore_n, r_iinc_p, r_iinc_m, r_iadd, r_isub, r_imul, r_iand, r_ior, r_ixor, r_ishl, r_ishr, r_iushr, r_idiv, r_irem, r_ladd, r_lsub, r_lmul, r_ldiv, r_lrem, r_lshl, r_lcmp, r_i2l, r_i2b, r_i2s, r_dup_i, r_dup_r, r_dup2_ii, r_dup2_ir, r_dup2_l, r_pop, r_getfield, r_putfield, r_iaload, r_iastore, r_aaload, r_arraylength, r_if_eq, r_icmp_eq, r_if_ne, r_icmp_ne, r_if_lt, r_icmp_lt, r_if_ge, r_icmp_ge, r_if_gt, r_icmp_gt, r_if_le, r_icmp_le, r_goto, r_switch, r_ireturn0, r_ireturn1, r_lreturn, r_areturn, r_return, r_inv0, r_inv1, r_inv2, r_inv3, r_inv4, r_inv5, r_min, r_max, r_acopy, onI_s, onL_s, onR_s, onO_s, fv0, fv1, fv2, fv3, fp1, fp20, fp21, fp3, tl_s, tl_n, lg0, lg1, lg2, lg3, lg4, lg5, lg6, lg7, lg8, lg9, lg10, lg11, lg12, lg13, lg14, lg15, lg16, lg17, ls0, ls1, ls2, ls3, ls4, ls5, ls6, ls7, ls8, ls9, ls10, ls11, ls12, ls13, ls14, ls15, ls16, ls17, lk0, lk1, lk2, lk3, lk4, lk5, lk6, lk7, lk8, lk9, lk10, lk11, lk12, lk13, lk14, lk15, lk16, lk17, kl_n, kl_i, kl_r, kl_l, Nat.reduceAdd, Nat.reduceLeDiff, not_false_eq_true, r_ins0, r_ins1, r_ins2, r_ins3, r_ins4, r_ins5]
        rw [u1, u2, q_lt (by omega) (by omega)]
        refine brc_i (fun hz => ?_) (fun hz => ?_)
        · rw [if_pos hz, if_pos hz]
          refine ⟨trivial, by simp, (s_append_4 h.1.2.1 hz (by omega) (by omega)).mono ?_⟩
          rintro r N ⟨rfl, F1, T1⟩
          simp only [B_52_0, B_52_1, B_52_2, B_52_3, cB, r_iconst_p, r_iconst_m, r_bipush_p, r_bipush_m, r_sipush_p, r_sipush_m, r_ldc_p, r_ldc_m, r_ldc_w_p, r_ldc_w_m, r_lconst_p, r_lconst_m, r_ldc2_w_p, r_ldc2_w_m, r_iload, r_iload_n, r_lload, r_lload_n, r_aload, r_aload_n, r_istore, r_istore_n, r_astore, r_astore_n, r_lstore, r_lstore_n, r_iinc_p, r_iinc_m, r_iadd, r_isub, r_imul, r_iand, r_ior, r_ixor, r_ishl, r_ishr, r_iushr, r_idiv, r_irem, r_ladd, r_lsub, r_lmul, r_ldiv, r_lrem, r_lshl, r_lcmp, r_i2l, r_i2b, r_i2s, r_dup_i, r_dup_r, r_dup2_ii, r_dup2_ir, r_dup2_l, r_pop, r_getfield, r_putfield, r_iaload, r_iastore, r_aaload, r_arraylength, r_if_eq, r_icmp_eq, r_if_ne, r_icmp_ne, r_if_lt, r_icmp_lt, r_if_ge, r_icmp_ge, r_if_gt, r_icmp_gt, r_if_le, r_icmp_le, r_goto, r_switch, r_ireturn0, r_ireturn1, r_lreturn, r_areturn, r_return, r_inv0, r_inv1, r_inv2, r_inv3, r_inv4, r_inv5, r_min, r_max, r_acopy, onI_s, onL_s, onR_s, onO_s, fv0, fv1, fv2, fv3, fp1, fp20, fp21, fp3, tl_s, tl_n, lg0, lg1, lg2, lg3, lg4, lg5, lg6, lg7, lg8, lg9, lg10, lg11, lg12, lg13, lg14, lg15, lg16, lg17, ls0, ls1, ls2, ls3, ls4, ls5, ls6, ls7, ls8, ls9, ls10, ls11, ls12, ls13, ls14, ls15, ls16, ls17, lk0, lk1, lk2, lk3, lk4, lk5, lk6, lk7, lk8, lk9, lk10, lk11, lk12, lk13, lk14, lk15, lk16, lk17, kl_n, kl_i, kl_r, kl_l, Nat.reduceAdd, Nat.reduceLeDiff, not_false_eq_true, r_ins0, r_ins1, r_ins2, r_ins3, r_ins4, r_ins5]
          refine ⟨trivial, by simp, (chg1 h F1 T1).mono ?_⟩
          rintro r P ⟨rfl, c1, c2, c3⟩
          simp only [B_52_0, B_52_1, B_52_2, B_52_3, cB, r_iconst_p, r_iconst_m, r_bipush_p, r_bipush_m, r_sipush_p, r_sipush_m, r_ldc_p, r_ldc_m, r_ldc_w_p, r_ldc_w_m, r_lconst_p, r_lconst_m, r_ldc2_w_p, r_ldc2_w_m, r_iload, r_iload_n, r_lload, r_lload_n, r_aload, r_aload_n, r_istore, r_istore_n, r_astore, r_astore_n, r_lstore, r_lstore_n, r_iinc_p, r_iinc_m, r_iadd, r_isub, r_imul, r_iand, r_ior, r_ixor, r_ishl, r_ishr, r_iushr, r_idiv, r_irem, r_ladd, r_lsub, r_lmul, r_ldiv, r_lrem, r_lshl, r_lcmp, r_i2l, r_i2b, r_i2s, r_dup_i, r_dup_r, r_dup2_ii, r_dup2_ir, r_dup2_l, r_pop, r_getfield, r_putfield, r_iaload, r_iastore, r_aaload, r_arraylength, r_if_eq, r_icmp_eq, r_if_ne, r_icmp_ne, r_if_lt, r_icmp_lt, r_if_ge, r_icmp_ge, r_if_gt, r_icmp_gt, r_if_le, r_icmp_le, r_goto, r_switch, r_ireturn0, r_ireturn1, r_lreturn, r_areturn, r_return, r_inv0, r_inv1, r_inv2, r_inv3, r_inv4, r_inv5, r_min, r_max, r_acopy, onI_s, onL_s, onR_s, onO_s, fv0, fv1, fv2, fv3, fp1, fp20, fp21, fp3, tl_s, tl_n, lg0, lg1, lg2, lg3, lg4, lg5, lg6, lg7, lg8, lg9, lg10, lg11, lg12, lg13, lg14, lg15, lg16, lg17, ls0, ls1, ls2, ls3, ls4, ls5, ls6, ls7, ls8, ls9, ls10, ls11, ls12, ls13, ls14, ls15, ls16, ls17, lk0, lk1, lk2, lk3, lk4, lk5, lk6, lk7, lk8, lk9, lk10, lk11, lk12, lk13, lk14, lk15, lk16, lk17, kl_n, kl_i, kl_r, kl_l, Nat.reduceAdd, Nat.reduceLeDiff, not_false_eq_true, r_ins0, r_ins1, r_ins2, r_ins3, r_ins4, r_ins5]
          rw [c3, T1.2.1]
          exact ⟨rfl, c1, c2⟩
        · rw [if_neg hz, if_neg hz]; exact ⟨rfl, h, Up.rf⟩
theorem RTx.len {b most n n' : Nat} {t : Nat → Nat} (h : RTx M b most n t) (hn : n' ≤ n) : RTx (stM M b 2 (nI n')) b most n' t := by
  obtain ⟨t1, t2, t3, t4, t5⟩ := h
  refine ⟨by rw [sm_eq, u_ne (by decide)]; exact t1, by rw [sm_eq, u_eq], by omega, fun i hi => ?_, t5⟩
  rw [sm_ne (by omega)]
  exact t4 i (by omega)
set_option maxHeartbeats 2000000 in
theorem c_wipe (h : CI M g) (x : Int32) : Ct 53 [.ref 0, .int x] M (fun r N => r = some (.int (aWipe g x)) ∧ CI N (gWipe g x) ∧ Up M N) := by
  unfold aWipe gWipe
  simp only [E_53, B_53_0, B_53_1, cB, (s_out x (show 1 < 2 ^ 31 by omega) M).ct, r_iconst_p, r_iconst_m, r_bipush_p, r_bipush_m, r_sipush_p, r_sipush_m, r_ldc_p, r_ldc_m, r_ldc_w_p, r_ldc_w_m, r_lconst_p, r_lconst_m, r_ldc2_w_p, r_ldc2_w_m, r_iload, r_iload_n, r_lload, r_lload_n, r_aload, r_aload_n, r_istore, r_istore_n, r_astore, r_astore_n, r_lstore, r_lstore_n, r_iinc_p, r_iinc_m, r_iadd, r_isub, r_imul, r_iand, r_ior, r_ixor, r_ishl, r_ishr, r_iushr, r_idiv, r_irem, r_ladd, r_lsub, r_lmul, r_ldiv, r_lrem, r_lshl, r_lcmp, r_i2l, r_i2b, r_i2s, r_dup_i, r_dup_r, r_dup2_ii, r_dup2_ir, r_dup2_l, r_pop, r_getfield, r_putfield, r_iaload, r_iastore, r_aaload, r_arraylength, r_if_eq, r_icmp_eq, r_if_ne, r_icmp_ne, r_if_lt, r_icmp_lt, r_if_ge, r_icmp_ge, r_if_gt, r_icmp_gt, r_if_le, r_icmp_le, r_goto, r_switch, r_ireturn0, r_ireturn1, r_lreturn, r_areturn, r_return, r_inv0, r_inv1, r_inv2, r_inv3, r_inv4, r_inv5, r_min, r_max, r_acopy, onI_s, onL_s, onR_s, onO_s, fv0, fv1, fv2, fv3, fp1, fp20, fp21, fp3, tl_s, tl_n, lg0, lg1, lg2, lg3, lg4, lg5, lg6, lg7, lg8, lg9, lg10, lg11, lg12, lg13, lg14, lg15, lg16, lg17, ls0, ls1, ls2, ls3, ls4, ls5, ls6, ls7, ls8, ls9, ls10, ls11, ls12, ls13, ls14, ls15, ls16, ls17, lk0, lk1, lk2, lk3, lk4, lk5, lk6, lk7, lk8, lk9, lk10, lk11, lk12, lk13, lk14, lk15, lk16, lk17, kl_n, kl_i, kl_r, kl_l, Nat.reduceAdd, Nat.reduceLeDiff, not_false_eq_true, r_ins0, r_ins1, r_ins2, r_ins3, r_ins4, r_ins5]
  refine ⟨by simp, ?_⟩
  cases hx : rg x (1 + 1) with
  | false => rw [rF, n10, brc_F, if_neg (by decide), if_neg (by decide)]; exact ⟨rfl, h, Up.rf⟩
  | true =>
    obtain ⟨b1, e1⟩ := rg_T hx
    rw [rT, brc_pos rfl, if_pos rfl, if_pos rfl]
    generalize cl x = k at *
    subst e1
    refine ⟨trivial, by simp, ?_⟩
    rw [(s_textOf M b1).ct]
    rcases (show k = 0 ∨ k = 1 by omega) with rfl | rfl
    · simp only [if_true]
      simp only [B_53_0, B_53_1, cB, r_iconst_p, r_iconst_m, r_bipush_p, r_bipush_m, r_sipush_p, r_sipush_m, r_ldc_p, r_ldc_m, r_ldc_w_p, r_ldc_w_m, r_lconst_p, r_lconst_m, r_ldc2_w_p, r_ldc2_w_m, r_iload, r_iload_n, r_lload, r_lload_n, r_aload, r_aload_n, r_istore, r_istore_n, r_astore, r_astore_n, r_lstore, r_lstore_n, r_iinc_p, r_iinc_m, r_iadd, r_isub, r_imul, r_iand, r_ior, r_ixor, r_ishl, r_ishr, r_iushr, r_idiv, r_irem, r_ladd, r_lsub, r_lmul, r_ldiv, r_lrem, r_lshl, r_lcmp, r_i2l, r_i2b, r_i2s, r_dup_i, r_dup_r, r_dup2_ii, r_dup2_ir, r_dup2_l, r_pop, r_getfield, r_putfield, r_iaload, r_iastore, r_aaload, r_arraylength, r_if_eq, r_icmp_eq, r_if_ne, r_icmp_ne, r_if_lt, r_icmp_lt, r_if_ge, r_icmp_ge, r_if_gt, r_icmp_gt, r_if_le, r_icmp_le, r_goto, r_switch, r_ireturn0, r_ireturn1, r_lreturn, r_areturn, r_return, r_inv0, r_inv1, r_inv2, r_inv3, r_inv4, r_inv5, r_min, r_max, r_acopy, onI_s, onL_s, onR_s, onO_s, fv0, fv1, fv2, fv3, fp1, fp20, fp21, fp3, tl_s, tl_n, lg0, lg1, lg2, lg3, lg4, lg5, lg6, lg7, lg8, lg9, lg10, lg11, lg12, lg13, lg14, lg15, lg16, lg17, ls0, ls1, ls2, ls3, ls4, ls5, ls6, ls7, ls8, ls9, ls10, ls11, ls12, ls13, ls14, ls15, ls16, ls17, lk0, lk1, lk2, lk3, lk4, lk5, lk6, lk7, lk8, lk9, lk10, lk11, lk12, lk13, lk14, lk15, lk16, lk17, kl_n, kl_i, kl_r, kl_l, Nat.reduceAdd, Nat.reduceLeDiff, not_false_eq_true, r_ins0, r_ins1, r_ins2, r_ins3, r_ins4, r_ins5]
      rw [h.1.1.2.1]
      refine ⟨trivial, by simp, (chg0 h (Fr.rf.st (by decide)) (h.1.1.len (Nat.zero_le _))).mono ?_⟩
      rintro r P ⟨rfl, c1, c2, c3⟩
      simp only [B_53_0, B_53_1, cB, r_iconst_p, r_iconst_m, r_bipush_p, r_bipush_m, r_sipush_p, r_sipush_m, r_ldc_p, r_ldc_m, r_ldc_w_p, r_ldc_w_m, r_lconst_p, r_lconst_m, r_ldc2_w_p, r_ldc2_w_m, r_iload, r_iload_n, r_lload, r_lload_n, r_aload, r_aload_n, r_istore, r_istore_n, r_astore, r_astore_n, r_lstore, r_lstore_n, r_iinc_p, r_iinc_m, r_iadd, r_isub, r_imul, r_iand, r_ior, r_ixor, r_ishl, r_ishr, r_iushr, r_idiv, r_irem, r_ladd, r_lsub, r_lmul, r_ldiv, r_lrem, r_lshl, r_lcmp, r_i2l, r_i2b, r_i2s, r_dup_i, r_dup_r, r_dup2_ii, r_dup2_ir, r_dup2_l, r_pop, r_getfield, r_putfield, r_iaload, r_iastore, r_aaload, r_arraylength, r_if_eq, r_icmp_eq, r_if_ne, r_icmp_ne, r_if_lt, r_icmp_lt, r_if_ge, r_icmp_ge, r_if_gt, r_icmp_gt, r_if_le, r_icmp_le, r_goto, r_switch, r_ireturn0, r_ireturn1, r_lreturn, r_areturn, r_return, r_inv0, r_inv1, r_inv2, r_inv3, r_inv4, r_inv5, r_min, r_max, r_acopy, onI_s, onL_s, onR_s, onO_s, fv0, fv1, fv2, fv3, fp1, fp20, fp21, fp3, tl_s, tl_n, lg0, lg1, lg2, lg3, lg4, lg5, lg6, lg7, lg8, lg9, lg10, lg11, lg12, lg13, lg14, lg15, lg16, lg17, ls0, ls1, ls2, ls3, ls4, ls5, ls6, ls7, ls8, ls9, ls10, ls11, ls12, ls13, ls14, ls15, ls16, ls17, lk0, lk1, lk2, lk3, lk4, lk5, lk6, lk7, lk8, lk9, lk10, lk11, lk12, lk13, lk14, lk15, lk16, lk17, kl_n, kl_i, kl_r, kl_l, Nat.reduceAdd, Nat.reduceLeDiff, not_false_eq_true, r_ins0, r_ins1, r_ins2, r_ins3, r_ins4, r_ins5]
      exact ⟨trivial, c1, c2⟩
    · simp only [show ((1 : Nat) = 0) = False by decide, if_false]
      simp only [B_53_0, B_53_1, cB, r_iconst_p, r_iconst_m, r_bipush_p, r_bipush_m, r_sipush_p, r_sipush_m, r_ldc_p, r_ldc_m, r_ldc_w_p, r_ldc_w_m, r_lconst_p, r_lconst_m, r_ldc2_w_p, r_ldc2_w_m, r_iload, r_iload_n, r_lload, r_lload_n, r_aload, r_aload_n, r_istore, r_istore_n, r_astore, r_astore_n, r_lstore, r_lstore_n, r_iinc_p, r_iinc_m, r_iadd, r_isub, r_imul, r_iand, r_ior, r_ixor, r_ishl, r_ishr, r_iushr, r_idiv, r_irem, r_ladd, r_lsub, r_lmul, r_ldiv, r_lrem, r_lshl, r_lcmp, r_i2l, r_i2b, r_i2s, r_dup_i, r_dup_r, r_dup2_ii, r_dup2_ir, r_dup2_l, r_pop, r_getfield, r_putfield, r_iaload, r_iastore, r_aaload, r_arraylength, r_if_eq, r_icmp_eq, r_if_ne, r_icmp_ne, r_if_lt, r_icmp_lt, r_if_ge, r_icmp_ge, r_if_gt, r_icmp_gt, r_if_le, r_icmp_le, r_goto, r_switch, r_ireturn0, r_ireturn1, r_lreturn, r_areturn, r_return, r_inv0, r_inv1, r_inv2, r_inv3, r_inv4, r_inv5, r_min, r_max, r_acopy, onI_s, onL_s, onR_s, onO_s, fv0, fv1, fv2, fv3, fp1, fp20, fp21, fp3, tl_s, tl_n, lg0, lg1, lg2, lg3, lg4, lg5, lg6, lg7, lg8, lg9, lg10, lg11, lg12, lg13, lg14, lg15, lg16, lg17, ls0, ls1, ls2, ls3, ls4, ls5, ls6, ls7, ls8, ls9, ls10, ls11, ls12, ls13, ls14, ls15, ls16, ls17, lk0, lk1, lk2, lk3, lk4, lk5, lk6, lk7, lk8, lk9, lk10, lk11, lk12, lk13, lk14, lk15, lk16, lk17, kl_n, kl_i, kl_r, kl_l, Nat.reduceAdd, Nat.reduceLeDiff, not_false_eq_true, r_ins0, r_ins1, r_ins2, r_ins3, r_ins4, r_ins5]
      rw [h.1.2.1.2.1]
      refine ⟨trivial, by simp, (chg1 h (Fr.rf.st (by decide)) (h.1.2.1.len (Nat.zero_le _))).mono ?_⟩
      rintro r P ⟨rfl, c1, c2, c3⟩
      simp only [B_53_0, B_53_1, cB, r_iconst_p, r_iconst_m, r_bipush_p, r_bipush_m, r_sipush_p, r_sipush_m, r_ldc_p, r_ldc_m, r_ldc_w_p, r_ldc_w_m, r_lconst_p, r_lconst_m, r_ldc2_w_p, r_ldc2_w_m, r_iload, r_iload_n, r_lload, r_lload_n, r_aload, r_aload_n, r_istore, r_istore_n, r_astore, r_astore_n, r_lstore, r_lstore_n, r_iinc_p, r_iinc_m, r_iadd, r_isub, r_imul, r_iand, r_ior, r_ixor, r_ishl, r_ishr, r_iushr, r_idiv, r_irem, r_ladd, r_lsub, r_lmul, r_ldiv, r_lrem, r_lshl, r_lcmp, r_i2l, r_i2b, r_i2s, r_dup_i, r_dup_r, r_dup2_ii, r_dup2_ir, r_dup2_l, r_pop, r_getfield, r_putfield, r_iaload, r_iastore, r_aaload, r_arraylength, r_if_eq, r_icmp_eq, r_if_ne, r_icmp_ne, r_if_lt, r_icmp_lt, r_if_ge, r_icmp_ge, r_if_gt, r_icmp_gt, r_if_le, r_icmp_le, r_goto, r_switch, r_ireturn0, r_ireturn1, r_lreturn, r_areturn, r_return, r_inv0, r_inv1, r_inv2, r_inv3, r_inv4, r_inv5, r_min, r_max, r_acopy, onI_s, onL_s, onR_s, onO_s, fv0, fv1, fv2, fv3, fp1, fp20, fp21, fp3, tl_s, tl_n, lg0, lg1, lg2, lg3, lg4, lg5, lg6, lg7, lg8, lg9, lg10, lg11, lg12, lg13, lg14, lg15, lg16, lg17, ls0, ls1, ls2, ls3, ls4, ls5, ls6, ls7, ls8, ls9, ls10, ls11, ls12, ls13, ls14, ls15, ls16, ls17, lk0, lk1, lk2, lk3, lk4, lk5, lk6, lk7, lk8, lk9, lk10, lk11, lk12, lk13, lk14, lk15, lk16, lk17, kl_n, kl_i, kl_r, kl_l, Nat.reduceAdd, Nat.reduceLeDiff, not_false_eq_true, r_ins0, r_ins1, r_ins2, r_ins3, r_ins4, r_ins5]
      exact ⟨trivial, c1, c2⟩
set_option maxHeartbeats 2000000 in
theorem c_undo (h : CI M g) (x : Int32) : Ct 54 [.ref 0, .int x] M (fun r N => r = some (.int (aUndo g x)) ∧ CI N (gUndo g x) ∧ Up M N) := by
  unfold aUndo gUndo
  simp only [E_54, B_54_0, B_54_1, B_54_2, cB, (s_out x (show 1 < 2 ^ 31 by omega) M).ct, r_iconst_p, r_iconst_m, r_bipush_p, r_bipush_m, r_sipush_p, r_sipush_m, r_ldc_p, r_ldc_m, r_ldc_w_p, r_ldc_w_m, r_lconst_p, r_lconst_m, r_ldc2_w_p, r_ldc2_w_m, r_iload, r_iload_n, r_lload, r_lload_n, r_aload, r_aload_n, r_istore, r_istore_n, r_astore, r_astore_n, r_lstore, r_lstore_n, r_iinc_p, r_iinc_m, r_iadd, r_isub, r_imul, r_iand, r_ior, r_ixor, r_ishl, r_ishr, r_iushr, r_idiv, r_irem, r_ladd, r_lsub, r_lmul, r_ldiv, r_lrem, r_lshl, r_lcmp, r_i2l, r_i2b, r_i2s, r_dup_i, r_dup_r, r_dup2_ii, r_dup2_ir, r_dup2_l, r_pop, r_getfield, r_putfield, r_iaload, r_iastore, r_aaload, r_arraylength, r_if_eq, r_icmp_eq, r_if_ne, r_icmp_ne, r_if_lt, r_icmp_lt, r_if_ge, r_icmp_ge, r_if_gt, r_icmp_gt, r_if_le, r_icmp_le, r_goto, r_switch, r_ireturn0, r_ireturn1, r_lreturn, r_areturn, r_return, r_inv0, r_inv1, r_inv2, r_inv3, r_inv4, r_inv5, r_min, r_max, r_acopy, onI_s, onL_s, onR_s, onO_s, fv0, fv1, fv2, fv3, fp1, fp20, fp21, fp3, tl_s, tl_n, lg0, lg1, lg2, lg3, lg4, lg5, lg6, lg7, lg8, lg9, lg10, lg11, lg12, lg13, lg14, lg15, lg16, lg17, ls0, ls1, ls2, ls3, ls4, ls5, ls6, ls7, ls8, ls9, ls10, ls11, ls12, ls13, ls14, ls15, ls16, ls17, lk0, lk1, lk2, lk3, lk4, lk5, lk6, lk7, lk8, lk9, lk10, lk11, lk12, lk13, lk14, lk15, lk16, lk17, kl_n, kl_i, kl_r, kl_l, Nat.reduceAdd, Nat.reduceLeDiff, not_false_eq_true, r_ins0, r_ins1, r_ins2, r_ins3, r_ins4, r_ins5]
  refine ⟨by simp, ?_⟩
  have hl0 := h.1.1.2.2.1
  have hl1 := h.1.2.1.2.2.1
  cases hx : rg x (1 + 1) with
  | false => rw [rF, n10, brc_F, if_neg (by decide), if_neg (by decide)]; exact ⟨rfl, h, Up.rf⟩
  | true =>
    obtain ⟨b1, e1⟩ := rg_T hx
    rw [rT, brc_pos rfl, if_pos rfl, if_pos rfl]
    generalize cl x = k at *
    subst e1
    refine ⟨trivial, by simp, ?_⟩
    rw [(s_textOf M b1).ct]
    rcases (show k = 0 ∨ k = 1 by omega) with rfl | rfl
    · simp only [if_true]
      simp only [B_54_0, B_54_1, B_54_2, cB, r_iconst_p, r_iconst_m, r_bipush_p, r_bipush_m, r_sipush_p, r_sipush_m, r_ldc_p, r_ldc_m, r_ldc_w_p, r_ldc_w_m, r_lconst_p, r_lconst_m, r_ldc2_w_p, r_ldc2_w_m, r_iload, r_iload_n, r_lload, r_lload_n, r_aload, r_aload_n, r_istore, r_istore_n, r_astore, r_astore_n, r_lstore, r_lstore_n, r_iinc_p, r_iinc_m, r_iadd, r_isub, r_imul, r_iand, r_ior, r_ixor, r_ishl, r_ishr, r_iushr, r_idiv, r_irem, r_ladd, r_lsub, r_lmul, r_ldiv, r_lrem, r_lshl, r_lcmp, r_i2l, r_i2b, r_i2s, r_dup_i, r_dup_r, r_dup2_ii, r_dup2_ir, r_dup2_l, r_pop, r_getfield, r_putfield, r_iaload, r_iastore, r_aaload, r_arraylength, r_if_eq, r_icmp_eq, r_if_ne, r_icmp_ne, r_if_lt, r_icmp_lt, r_if_ge, r_icmp_ge, r_if_gt, r_icmp_gt, r_if_le, r_icmp_le, r_goto, r_switch, r_ireturn0, r_ireturn1, r_lreturn, r_areturn, r_return, r_inv0, r_inv1, r_inv2, r_inv3, r_inv4, r_inv5, r_min, r_max, r_acopy, onI_s, onL_s, onR_s, onO_s, fv0, fv1, fv2, fv3, fp1, fp20, fp21, fp3, tl_s, tl_n, lg0, lg1, lg2, lg3, lg4, lg5, lg6, lg7, lg8, lg9, lg10, lg11, lg12, lg13, lg14, lg15, lg16, lg17, ls0, ls1, ls2, ls3, ls4, ls5, ls6, ls7, ls8, ls9, ls10, ls11, ls12, ls13, ls14, ls15, ls16, ls17, lk0, lk1, lk2, lk3, lk4, lk5, lk6, lk7, lk8, lk9, lk10, lk11, lk12, lk13, lk14, lk15, lk16, lk17, kl_n, kl_i, kl_r, kl_l, Nat.reduceAdd, Nat.reduceLeDiff, not_false_eq_true, r_ins0, r_ins1, r_ins2, r_ins3, r_ins4, r_ins5]
      rw [h.1.1.2.1, q_eq (by omega) (by omega)]
      refine brc_i (fun hz => ?_) (fun hz => ?_)
      · rw [if_neg hz, if_neg hz, q_sub (by omega)]
        refine ⟨trivial, by simp, (chg0 h (Fr.rf.st (by decide)) (h.1.1.len (Nat.sub_le _ _))).mono ?_⟩
        rintro r P ⟨rfl, c1, c2, c3⟩
        simp only [B_54_0, B_54_1, B_54_2, cB, r_iconst_p, r_iconst_m, r_bipush_p, r_bipush_m, r_sipush_p, r_sipush_m, r_ldc_p, r_ldc_m, r_ldc_w_p, r_ldc_w_m, r_lconst_p, r_lconst_m, r_ldc2_w_p, r_ldc2_w_m, r_iload, r_iload_n, r_lload, r_lload_n, r_aload, r_aload_n, r_istore, r_istore_n, r_astore, r_astore_n, r_lstore, r_lstore_n, r_iinc_p, r_iinc_m, r_iadd, r_isub, r_imul, r_iand, r_ior, r_ixor, r_ishl, r_ishr, r_iushr, r_idiv, r_irem, r_ladd, r_lsub, r_lmul, r_ldiv, r_lrem, r_lshl, r_lcmp, r_i2l, r_i2b, r_i2s, r_dup_i, r_dup_r, r_dup2_ii, r_dup2_ir, r_dup2_l, r_pop, r_getfield, r_putfield, r_iaload, r_iastore, r_aaload, r_arraylength, r_if_eq, r_icmp_eq, r_if_ne, r_icmp_ne, r_if_lt, r_icmp_lt, r_if_ge, r_icmp_ge, r_if_gt, r_icmp_gt, r_if_le, r_icmp_le, r_goto, r_switch, r_ireturn0, r_ireturn1, r_lreturn, r_areturn, r_return, r_inv0, r_inv1, r_inv2, r_inv3, r_inv4, r_inv5, r_min, r_max, r_acopy, onI_s, onL_s, onR_s, onO_s, fv0, fv1, fv2, fv3, fp1, fp20, fp21, fp3, tl_s, tl_n, lg0, lg1, lg2, lg3, lg4, lg5, lg6, lg7, lg8, lg9, lg10, lg11, lg12, lg13, lg14, lg15, lg16, lg17, ls0, ls1, ls2, ls3, ls4, ls5, ls6, ls7, ls8, ls9, ls10, ls11, ls12, ls13, ls14, ls15, ls16, ls17, lk0, lk1, lk2, lk3, lk4, lk5, lk6, lk7, lk8, lk9, lk10, lk11, lk12, lk13, lk14, lk15, lk16, lk17, kl_n, kl_i, kl_r, kl_l, Nat.reduceAdd, Nat.reduceLeDiff, not_false_eq_true, r_ins0, r_ins1, r_ins2, r_ins3, r_ins4, r_ins5]
        rw [c3, sm_eq, u_eq]
        exact ⟨rfl, c1, c2⟩
      · rw [if_pos (Classical.not_not.mp hz), if_pos (Classical.not_not.mp hz)]; exact ⟨rfl, h, Up.rf⟩
    · simp only [show ((1 : Nat) = 0) = False by decide, if_false]
      simp only [B_54_0, B_54_1, B_54_2, cB, r_iconst_p, r_iconst_m, r_bipush_p, r_bipush_m, r_sipush_p, r_sipush_m, r_ldc_p, r_ldc_m, r_ldc_w_p, r_ldc_w_m, r_lconst_p, r_lconst_m, r_ldc2_w_p, r_ldc2_w_m, r_iload, r_iload_n, r_lload, r_lload_n, r_aload, r_aload_n, r_istore, r_istore_n, r_astore, r_astore_n, r_lstore, r_lstore_n, r_iinc_p, r_iinc_m, r_iadd, r_isub, r_imul, r_iand, r_ior, r_ixor, r_ishl, r_ishr, r_iushr, r_idiv, r_irem, r_ladd, r_lsub, r_lmul, r_ldiv, r_lrem, r_lshl, r_lcmp, r_i2l, r_i2b, r_i2s, r_dup_i, r_dup_r, r_dup2_ii, r_dup2_ir, r_dup2_l, r_pop, r_getfield, r_putfield, r_iaload, r_iastore, r_aaload, r_arraylength, r_if_eq, r_icmp_eq, r_if_ne, r_icmp_ne, r_if_lt, r_icmp_lt, r_if_ge, r_icmp_ge, r_if_gt, r_icmp_gt, r_if_le, r_icmp_le, r_goto, r_switch, r_ireturn0, r_ireturn1, r_lreturn, r_areturn, r_return, r_inv0, r_inv1, r_inv2, r_inv3, r_inv4, r_inv5, r_min, r_max, r_acopy, onI_s, onL_s, onR_s, onO_s, fv0, fv1, fv2, fv3, fp1, fp20, fp21, fp3, tl_s, tl_n, lg0, lg1, lg2, lg3, lg4, lg5, lg6, lg7, lg8, lg9, lg10, lg11, lg12, lg13, lg14, lg15, lg16, lg17, ls0, ls1, ls2, ls3, ls4, ls5, ls6, ls7, ls8, ls9, ls10, ls11, ls12, ls13, ls14, ls15, ls16, ls17, lk0, lk1, lk2, lk3, lk4, lk5, lk6, lk7, lk8, lk9, lk10, lk11, lk12, lk13, lk14, lk15, lk16, lk17, kl_n, kl_i, kl_r, kl_l, Nat.reduceAdd, Nat.reduceLeDiff, not_false_eq_true, r_ins0, r_ins1, r_ins2, r_ins3, r_ins4, r_ins5]
      rw [h.1.2.1.2.1, q_eq (by omega) (by omega)]
      refine brc_i (fun hz => ?_) (fun hz => ?_)
      · rw [if_neg hz, if_neg hz, q_sub (by omega)]
        refine ⟨trivial, by simp, (chg1 h (Fr.rf.st (by decide)) (h.1.2.1.len (Nat.sub_le _ _))).mono ?_⟩
        rintro r P ⟨rfl, c1, c2, c3⟩
        simp only [B_54_0, B_54_1, B_54_2, cB, r_iconst_p, r_iconst_m, r_bipush_p, r_bipush_m, r_sipush_p, r_sipush_m, r_ldc_p, r_ldc_m, r_ldc_w_p, r_ldc_w_m, r_lconst_p, r_lconst_m, r_ldc2_w_p, r_ldc2_w_m, r_iload, r_iload_n, r_lload, r_lload_n, r_aload, r_aload_n, r_istore, r_istore_n, r_astore, r_astore_n, r_lstore, r_lstore_n, r_iinc_p, r_iinc_m, r_iadd, r_isub, r_imul, r_iand, r_ior, r_ixor, r_ishl, r_ishr, r_iushr, r_idiv, r_irem, r_ladd, r_lsub, r_lmul, r_ldiv, r_lrem, r_lshl, r_lcmp, r_i2l, r_i2b, r_i2s, r_dup_i, r_dup_r, r_dup2_ii, r_dup2_ir, r_dup2_l, r_pop, r_getfield, r_putfield, r_iaload, r_iastore, r_aaload, r_arraylength, r_if_eq, r_icmp_eq, r_if_ne, r_icmp_ne, r_if_lt, r_icmp_lt, r_if_ge, r_icmp_ge, r_if_gt, r_icmp_gt, r_if_le, r_icmp_le, r_goto, r_switch, r_ireturn0, r_ireturn1, r_lreturn, r_areturn, r_return, r_inv0, r_inv1, r_inv2, r_inv3, r_inv4, r_inv5, r_min, r_max, r_acopy, onI_s, onL_s, onR_s, onO_s, fv0, fv1, fv2, fv3, fp1, fp20, fp21, fp3, tl_s, tl_n, lg0, lg1, lg2, lg3, lg4, lg5, lg6, lg7, lg8, lg9, lg10, lg11, lg12, lg13, lg14, lg15, lg16, lg17, ls0, ls1, ls2, ls3, ls4, ls5, ls6, ls7, ls8, ls9, ls10, ls11, ls12, ls13, ls14, ls15, ls16, ls17, lk0, lk1, lk2, lk3, lk4, lk5, lk6, lk7, lk8, lk9, lk10, lk11, lk12, lk13, lk14, lk15, lk16, lk17, kl_n, kl_i, kl_r, kl_l, Nat.reduceAdd, Nat.reduceLeDiff, not_false_eq_true, r_ins0, r_ins1, r_ins2, r_ins3, r_ins4, r_ins5]
        rw [c3, sm_eq, u_eq]
        exact ⟨rfl, c1, c2⟩
      · rw [if_pos (Classical.not_not.mp hz), if_pos (Classical.not_not.mp hz)]; exact ⟨rfl, h, Up.rf⟩
end CW
