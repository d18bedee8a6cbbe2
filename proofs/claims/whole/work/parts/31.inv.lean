/-! the state of the system, and what the class' cells hold of it -/
/-- x is one of 0 .. n-1 -/
def rg (x : Int32) (n : Nat) : Bool := decide (0 ≤ x.toInt ∧ x.toInt < (n : Int))
def cl (x : Int32) : Nat := x.toNatClampNeg
theorem rg_T {x : Int32} {n : Nat} (h : rg x n = true) : cl x < n ∧ x = nI (cl x) := by
  unfold rg at h
  rw [decide_eq_true_eq] at h
  have hr := Int32.toInt_lt x
  obtain ⟨j, hj, e⟩ := nI_of (x := x) (by rw [Int32.lt_iff_toInt_lt]; show ¬ x.toInt < 0; omega)
  have e2 : cl x = j := by unfold cl; rw [e]; exact nI_clamp hj
  rw [e2]
  refine ⟨?_, e⟩
  have h2 := h.2
  rw [e, nI_toInt hj] at h2
  omega
theorem rg_nI {j n : Nat} (hj : j < 2 ^ 31) : rg (nI j) n = decide (j < n) := by
  unfold rg
  rw [nI_toInt hj]
  apply decide_eq_decide.mpr
  omega
theorem cl_nI {j : Nat} (hj : j < 2 ^ 31) : cl (nI j) = j := nI_clamp hj
theorem s_out (x : Int32) {m : Nat} (hm : m < 2 ^ 31) (M : Mem) : Ev 93 [.int x, .int (nI m)] M (some (.int (nI (!rg x (m + 1)).toNat))) M := by
  have h := s_outside x (nI m) M
  have e : (if x < nI 0 ∨ nI m < x then nI 1 else nI 0) = nI (!rg x (m + 1)).toNat := by
    unfold rg
    by_cases q : x < nI 0 ∨ nI m < x
    · rw [if_pos q, decide_eq_false]
      · rfl
      · rw [Int32.lt_iff_toInt_lt, Int32.lt_iff_toInt_lt, nI_toInt (by omega), nI_toInt hm] at q
        omega
    · rw [if_neg q, decide_eq_true]
      · rfl
      · rw [Int32.lt_iff_toInt_lt, Int32.lt_iff_toInt_lt, nI_toInt (by omega), nI_toInt hm] at q
        omega
  rw [e] at h
  exact h
theorem s_outn (x : Int32) {n : Nat} (hn : n < 2 ^ 31) (M : Mem) : Ev 93 [.int x, .int (nI n - nI 1)] M (some (.int (nI (!rg x n).toNat))) M := by
  by_cases h0 : n = 0
  · subst h0
    have h := s_outside x (nI 0 - nI 1) M
    have e : (if x < nI 0 ∨ nI 0 - nI 1 < x then nI 1 else nI 0) = nI (!rg x 0).toNat := by
      rw [if_pos]
      · unfold rg; rw [decide_eq_false (by omega)]; rfl
      · rw [Int32.lt_iff_toInt_lt, Int32.lt_iff_toInt_lt, nI_toInt (by omega), show (nI 0 - nI 1).toInt = -1 by decide]
        omega
    rw [e] at h
    exact h
  · rw [q_sub (by omega)]
    have h := s_out x (m := n - 1) (by omega) M
    rw [show n - 1 + 1 = n by omega] at h
    exact h
theorem rT : nI (!true).toNat = nI 0 := rfl
theorem rF : nI (!false).toNat = nI 1 := rfl
theorem n10 : (nI 1 = nI 0) = False := by decide
theorem n01 : (nI 0 = nI 1) = False := by decide
/-- texts; events; what was seen; sheets (form and 1, 0: lost; items; them); finding -/
abbrev Sg : Type := (Nat × (Nat → Nat)) × (Nat × (Nat → Nat)) × (Nat × (Nat → Nat) × (Nat → Nat) × (Nat → Nat)) × (Nat × (Nat → Nat) × (Nat → Nat) × (Nat → Nat)) × ((Nat → Nat) × (Nat → Nat) × (Nat → Nat → Int32)) × Nat
abbrev n0 (g : Sg) : Nat := g.1.1
abbrev t0 (g : Sg) : Nat → Nat := g.1.2
abbrev n1 (g : Sg) : Nat := g.2.1.1
abbrev t1 (g : Sg) : Nat → Nat := g.2.1.2
abbrev gne (g : Sg) : Nat := g.2.2.1.1
abbrev gek (g : Sg) : Nat → Nat := g.2.2.1.2.1
abbrev gew (g : Sg) : Nat → Nat := g.2.2.1.2.2.1
abbrev gec (g : Sg) : Nat → Nat := g.2.2.1.2.2.2
abbrev gns (g : Sg) : Nat := g.2.2.2.1.1
abbrev gnw (g : Sg) : Nat → Nat := g.2.2.2.1.2.1
abbrev gnc (g : Sg) : Nat → Nat := g.2.2.2.1.2.2.1
abbrev gnv (g : Sg) : Nat → Nat := g.2.2.2.1.2.2.2
abbrev gfm (g : Sg) : Nat → Nat := g.2.2.2.2.1.1
abbrev gsz (g : Sg) : Nat → Nat := g.2.2.2.2.1.2.1
abbrev git (g : Sg) : Nat → Nat → Int32 := g.2.2.2.2.1.2.2
abbrev gfd (g : Sg) : Nat := g.2.2.2.2.2
abbrev gB (g : Sg) : Col := bkC (t0 g) (n0 g)
abbrev gno (g : Sg) : Nat := noF (t1 g) (n1 g)
abbrev gow (g : Sg) : Nat → Nat := owF (t1 g) (n1 g)
abbrev goq (g : Sg) : Nat → Nat := oqF (t1 g) (n1 g)
def I0 (g : Sg) : Inp := InW (gB g) (gno g) (gow g) (goq g) (evw (gek g) (gew g) (gec g) 255 (gne g))
/-- a sheet's two cells -/
def RSh (M : Mem) (c f n : Nat) (it : Nat → Int32) : Prop := M c 1 = ix f ∧ f ≤ 3 ∧ M c 2 = nI n ∧ n ≤ 60 ∧ ∀ i, i < n → M (c + 1) i = it i
/-- what was told, as the class keeps it -/
def CB (M : Mem) (g : Sg) : Prop := RTx M 2 41 (n0 g) (t0 g) ∧ RTx M 4 35 (n1 g) (t1 g) ∧ (RS M 7 8 (gB g) ∧ ROr M 9 (gno g) (gow g) (goq g) ∧ REv M (gne g) (gek g) (gew g) (gec g)) ∧ M 1 6 = ix (pB (t0 g) (n0 g)).1 ∧ M 1 7 = ix (fO (t1 g) (n1 g)) ∧ RSn M (gns g) (gnw g) (gnc g) (gnv g) ∧ (M 0 5 = nI (gfd g) ∧ gfd g ≤ 5) ∧ RSh M 54 (gfm g 0) (gsz g 0) (git g 0) ∧ RSh M 56 (gfm g 1) (gsz g 1) (git g 1) ∧ RSh M 58 (gfm g 2) (gsz g 2) (git g 2) ∧ RSh M 60 (gfm g 3) (gsz g 3) (git g 3)
/-- the told summer, if it is known -/
def SK (M : Mem) (g : Sg) : Prop := M 0 4 = nI 0 ∨ (M 0 4 = nI 1 ∧ Oc 38 1 (I0 g) M ∧ M 42 2 = nI (gno g))
/-- the table of sets, if it is known -/
def TK (M : Mem) (g : Sg) : Prop := M 20 4 = nI 0 ∨ (M 20 4 = nI 1 ∧ Tab (gB g) (gno g) (gow g) (goq g) (gne g) (gek g) (gew g) (gec g) M (2 ^ gne g))
def CI (M : Mem) (g : Sg) : Prop := CB M g ∧ SK M g ∧ TK M g ∧ M 21 8 = nI 0 ∧ M 38 8 = nI 1
def Up (M N : Mem) : Prop := ∀ c, 62 ≤ c → N c = M c
def Lw (M N : Mem) : Prop := ∀ c, c < 62 → N c = M c
theorem Up.rf {M : Mem} : Up M M := fun _ _ => rfl
theorem Up.tr {M N P : Mem} (h : Up M N) (h2 : Up N P) : Up M P := fun c hc => (h2 c hc).trans (h c hc)
theorem Up.of {l : List Nat} {M N : Mem} (h : Fr l M N) (hl : ∀ c, c ∈ l → c < 62) : Up M N := fun c hc => h c (fun q => by have := hl c q; omega)
theorem CB.RT {M : Mem} {g : Sg} (h : CB M g) : RT M (gB g) (gno g) (gow g) (goq g) (gne g) (gek g) (gew g) (gec g) := ⟨h.2.2.1.1, h.2.2.1.2.1, h.2.2.1.2.2, bkC_ok _ _, no_le h.2.1.2.2.1, fun i => ow_le _ _ i, fun i => oq_le _ _ i⟩
theorem CB.ok {M : Mem} {g : Sg} (h : CB M g) (x : Wth) : okI (InW (gB g) (gno g) (gow g) (goq g) x) := h.RT.ok x
theorem CB.mv {M N : Mem} {g : Sg} (h : CB M g) (e : ∀ c, (1 ≤ c ∧ c ≤ 19) ∨ (54 ≤ c ∧ c ≤ 61) → N c = M c) (e0 : N 0 5 = M 0 5) : CB N g := by
  unfold CB RTx RS ROr REv RSn RSh at h ⊢
  rw [e 2 (by omega), e 3 (by omega), e 4 (by omega), e 5 (by omega), e 7 (by omega), e 8 (by omega), e 9 (by omega), e 10 (by omega), e 11 (by omega), e 12 (by omega), e 13 (by omega), e 14 (by omega), e 15 (by omega), e 1 (by omega), e 16 (by omega), e 17 (by omega), e 18 (by omega), e 19 (by omega), e0, e 54 (by omega), e 55 (by omega), e 56 (by omega), e 57 (by omega), e 58 (by omega), e 59 (by omega), e 60 (by omega), e 61 (by omega)]
  exact h
theorem Oc.mv {M N : Mem} {b k : Nat} {I : Inp} (h : Oc b k I M) (e : ∀ c, c = b ∨ c = b + 9 ∨ c = b + 10 ∨ c = b + 11 ∨ c = b + 12 ∨ c = b + 14 → N c = M c) : Oc b k I N := by
  unfold Oc at h ⊢
  rw [e b (by omega), e (b + 9) (by omega), e (b + 10) (by omega), e (b + 11) (by omega), e (b + 12) (by omega), e (b + 14) (by omega)]
  exact h
/-- a question that touches the trial alone -/
theorem CI.trial {l : List Nat} {M N : Mem} {g : Sg} (h : CI M g) (hF : Fr l M N) (hl : ∀ c, c ∈ l → 20 ≤ c ∧ c ≤ 37) (h20 : TK N g) (h21 : ∀ j, j ≠ 10 → N 21 j = M 21 j) : CI N g ∧ Up M N := by
  have e : ∀ c, c < 20 ∨ 37 < c → N c = M c := fun c hc => hF c (fun q => by have := hl c q; omega)
  obtain ⟨h1, h2, h3, h4, h5⟩ := h
  refine ⟨⟨h1.mv (fun c hc => e c (by omega)) (by rw [e 0 (by omega)]), ?_, h20, by rw [h21 8 (by decide)]; exact h4, by rw [e 38 (by omega)]; exact h5⟩, fun c hc => e c (by omega)⟩
  unfold SK at h2 ⊢
  rw [e 0 (by omega), e 42 (by omega)]
  rcases h2 with h2 | ⟨a, b, c⟩
  · exact Or.inl h2
  · exact Or.inr ⟨a, b.mv (fun c hc => e c (by omega)), c⟩
theorem TK.mv {M N : Mem} {g : Sg} (h : TK M g) (h4 : N 20 4 = M 20 4) (h36 : N 36 = M 36) : TK N g := by
  unfold TK Tab at h ⊢
  rw [h4, h36]
  exact h
set_option maxHeartbeats 4000000 in
theorem s_toldSummer {M : Mem} {g : Sg} (h : CI M g) : Ct 98 [.ref 0] M (fun r N => r = some (.ref 38) ∧ CI N g ∧ Up M N ∧ Oc 38 1 (I0 g) N ∧ N 42 2 = nI (gno g) ∧ N 0 4 = nI 1) := by
  obtain ⟨h1, h2, h3, h4, h5⟩ := id h
  simp only [E_98, B_98_0, B_98_1, cB, cS, r_iconst_p, r_iconst_m, r_bipush_p, r_bipush_m, r_sipush_p, r_sipush_m, r_ldc_p, r_ldc_m, r_ldc_w_p, r_ldc_w_m, r_lconst_p, r_lconst_m, r_ldc2_w_p, r_ldc2_w_m, r_iload, r_iload_n, r_lload, r_lload_n, r_aload, r_aload_n, r_istore, r_istore_n, r_astore, r_astore_n, r_lstore, r_lstore_n, r_iinc_p, r_iinc_m, r_iadd, r_isub, r_imul, r_iand, r_ior, r_ixor, r_ishl, r_ishr, r_iushr, r_idiv, r_irem, r_ladd, r_lsub, r_lmul, r_ldiv, r_lrem, r_lshl, r_lcmp, r_i2l, r_i2b, r_i2s, r_dup_i, r_dup_r, r_dup2_ii, r_dup2_ir, r_dup2_l, r_pop, r_getfield, r_putfield, r_iaload, r_iastore, r_aaload, r_arraylength, r_if_eq, r_icmp_eq, r_if_ne, r_icmp_ne, r_if_lt, r_icmp_lt, r_if_ge, r_icmp_ge, r_if_gt, r_icmp_gt, r_if_le, r_icmp_le, r_goto, r_switch, r_ireturn0, r_ireturn1, r_lreturn, r_areturn, r_return, r_inv0, r_inv1, r_inv2, r_inv3, r_inv4, r_inv5, r_min, r_max, r_acopy, onI_s, onL_s, onR_s, onO_s, fv0, fv1, fv2, fv3, fp1, fp20, fp21, fp3, tl_s, tl_n, lg0, lg1, lg2, lg3, lg4, lg5, lg6, lg7, lg8, lg9, lg10, lg11, lg12, lg13, lg14, lg15, lg16, lg17, ls0, ls1, ls2, ls3, ls4, ls5, ls6, ls7, ls8, ls9, ls10, ls11, ls12, ls13, ls14, ls15, ls16, ls17, lk0, lk1, lk2, lk3, lk4, lk5, lk6, lk7, lk8, lk9, lk10, lk11, lk12, lk13, lk14, lk15, lk16, lk17, kl_n, kl_i, kl_r, kl_l, Nat.reduceAdd, Nat.reduceLeDiff, not_false_eq_true, r_ins0, r_ins1, r_ins2, r_ins3, r_ins4, r_ins5]
  rcases h2 with h2 | ⟨a, b, c⟩
  · rw [h2, brc_neg (fun q => q rfl)]
    refine ⟨trivial, by simp, ?_⟩
    have HR := h1.RT
    refine (s_prep_38 HR.1 HR.2.1 HR.2.2.2.2.1 HR.2.2.1 (by omega)).mono ?_
    rintro r N1 ⟨rfl, F1, R1, O1, W1⟩
    simp only [B_98_0, B_98_1, cB, cS, r_iconst_p, r_iconst_m, r_bipush_p, r_bipush_m, r_sipush_p, r_sipush_m, r_ldc_p, r_ldc_m, r_ldc_w_p, r_ldc_w_m, r_lconst_p, r_lconst_m, r_ldc2_w_p, r_ldc2_w_m, r_iload, r_iload_n, r_lload, r_lload_n, r_aload, r_aload_n, r_istore, r_istore_n, r_astore, r_astore_n, r_lstore, r_lstore_n, r_iinc_p, r_iinc_m, r_iadd, r_isub, r_imul, r_iand, r_ior, r_ixor, r_ishl, r_ishr, r_iushr, r_idiv, r_irem, r_ladd, r_lsub, r_lmul, r_ldiv, r_lrem, r_lshl, r_lcmp, r_i2l, r_i2b, r_i2s, r_dup_i, r_dup_r, r_dup2_ii, r_dup2_ir, r_dup2_l, r_pop, r_getfield, r_putfield, r_iaload, r_iastore, r_aaload, r_arraylength, r_if_eq, r_icmp_eq, r_if_ne, r_icmp_ne, r_if_lt, r_icmp_lt, r_if_ge, r_icmp_ge, r_if_gt, r_icmp_gt, r_if_le, r_icmp_le, r_goto, r_switch, r_ireturn0, r_ireturn1, r_lreturn, r_areturn, r_return, r_inv0, r_inv1, r_inv2, r_inv3, r_inv4, r_inv5, r_min, r_max, r_acopy, onI_s, onL_s, onR_s, onO_s, fv0, fv1, fv2, fv3, fp1, fp20, fp21, fp3, tl_s, tl_n, lg0, lg1, lg2, lg3, lg4, lg5, lg6, lg7, lg8, lg9, lg10, lg11, lg12, lg13, lg14, lg15, lg16, lg17, ls0, ls1, ls2, ls3, ls4, ls5, ls6, ls7, ls8, ls9, ls10, ls11, ls12, ls13, ls14, ls15, ls16, ls17, lk0, lk1, lk2, lk3, lk4, lk5, lk6, lk7, lk8, lk9, lk10, lk11, lk12, lk13, lk14, lk15, lk16, lk17, kl_n, kl_i, kl_r, kl_l, Nat.reduceAdd, Nat.reduceLeDiff, not_false_eq_true, r_ins0, r_ins1, r_ins2, r_ins3, r_ins4, r_ins5]
    refine ⟨trivial, by simp, ?_⟩
    refine (s_run_38 R1 O1 W1 (HR.ok _) (evw_okH HR _ _) (by rw [F1 38 (by decide)]; exact h5)).mono ?_
    rintro r N2 ⟨rfl, F2, Oc2, K2⟩
    simp only [B_98_0, B_98_1, cB, cS, r_iconst_p, r_iconst_m, r_bipush_p, r_bipush_m, r_sipush_p, r_sipush_m, r_ldc_p, r_ldc_m, r_ldc_w_p, r_ldc_w_m, r_lconst_p, r_lconst_m, r_ldc2_w_p, r_ldc2_w_m, r_iload, r_iload_n, r_lload, r_lload_n, r_aload, r_aload_n, r_istore, r_istore_n, r_astore, r_astore_n, r_lstore, r_lstore_n, r_iinc_p, r_iinc_m, r_iadd, r_isub, r_imul, r_iand, r_ior, r_ixor, r_ishl, r_ishr, r_iushr, r_idiv, r_irem, r_ladd, r_lsub, r_lmul, r_ldiv, r_lrem, r_lshl, r_lcmp, r_i2l, r_i2b, r_i2s, r_dup_i, r_dup_r, r_dup2_ii, r_dup2_ir, r_dup2_l, r_pop, r_getfield, r_putfield, r_iaload, r_iastore, r_aaload, r_arraylength, r_if_eq, r_icmp_eq, r_if_ne, r_icmp_ne, r_if_lt, r_icmp_lt, r_if_ge, r_icmp_ge, r_if_gt, r_icmp_gt, r_if_le, r_icmp_le, r_goto, r_switch, r_ireturn0, r_ireturn1, r_lreturn, r_areturn, r_return, r_inv0, r_inv1, r_inv2, r_inv3, r_inv4, r_inv5, r_min, r_max, r_acopy, onI_s, onL_s, onR_s, onO_s, fv0, fv1, fv2, fv3, fp1, fp20, fp21, fp3, tl_s, tl_n, lg0, lg1, lg2, lg3, lg4, lg5, lg6, lg7, lg8, lg9, lg10, lg11, lg12, lg13, lg14, lg15, lg16, lg17, ls0, ls1, ls2, ls3, ls4, ls5, ls6, ls7, ls8, ls9, ls10, ls11, ls12, ls13, ls14, ls15, ls16, ls17, lk0, lk1, lk2, lk3, lk4, lk5, lk6, lk7, lk8, lk9, lk10, lk11, lk12, lk13, lk14, lk15, lk16, lk17, kl_n, kl_i, kl_r, kl_l, Nat.reduceAdd, Nat.reduceLeDiff, not_false_eq_true, r_ins0, r_ins1, r_ins2, r_ins3, r_ins4, r_ins5]
    have e : ∀ c, c < 38 ∨ 52 < c → N2 c = M c := fun c hc => by
      rw [F2 c (by simp only [List.mem_cons, List.not_mem_nil, or_false]; omega), F1 c (by simp only [List.mem_cons, List.not_mem_nil, or_false]; omega)]
    have hOc : Oc 38 1 (I0 g) (stM N2 0 4 (nI 1)) := Oc.mv (M := N2) Oc2 (fun c hc => sm_ne (by omega))
    have h42 : stM N2 0 4 (nI 1) 42 2 = nI (gno g) := by rw [sm_ne (by decide), F2 42 (by decide)]; exact O1.1
    refine ⟨trivial, ⟨h1.mv (fun c hc => by rw [sm_ne (by omega)]; exact e c (by omega)) (by rw [sm_eq, u_ne (by decide), e 0 (by omega)]), Or.inr ⟨by rw [sm_eq, u_eq], hOc, h42⟩, h3.mv (by rw [sm_ne (by decide), e 20 (by omega)]) (by rw [sm_ne (by decide), e 36 (by omega)]), by rw [sm_ne (by decide), e 21 (by omega)]; exact h4, by rw [sm_ne (by decide), K2 8 (by decide), F1 38 (by decide)]; exact h5⟩, fun c hc => by rw [sm_ne (by omega)]; exact e c (by omega), hOc, h42, by rw [sm_eq, u_eq]⟩
  · rw [a, brc_pos (by rw [q_eq (by omega) (by omega)]; decide)]
    exact ⟨trivial, h, Up.rf, b, c, rfl⟩
theorem s_noteChange (M : Mem) : Ev 97 [.ref 0] M none (stM (stM M 0 4 (nI 0)) 20 4 (nI 0)) := by
  apply Ev.of
  simp only [E_97, B_97_0, cB, cP, r_iconst_p, r_iconst_m, r_bipush_p, r_bipush_m, r_sipush_p, r_sipush_m, r_ldc_p, r_ldc_m, r_ldc_w_p, r_ldc_w_m, r_lconst_p, r_lconst_m, r_ldc2_w_p, r_ldc2_w_m, r_iload, r_iload_n, r_lload, r_lload_n, r_aload, r_aload_n, r_istore, r_istore_n, r_astore, r_astore_n, r_lstore, r_lstore_n, r_iinc_p, r_iinc_m, r_iadd, r_isub, r_imul, r_iand, r_ior, r_ixor, r_ishl, r_ishr, r_iushr, r_idiv, r_irem, r_ladd, r_lsub, r_lmul, r_ldiv, r_lrem, r_lshl, r_lcmp, r_i2l, r_i2b, r_i2s, r_dup_i, r_dup_r, r_dup2_ii, r_dup2_ir, r_dup2_l, r_pop, r_getfield, r_putfield, r_iaload, r_iastore, r_aaload, r_arraylength, r_if_eq, r_icmp_eq, r_if_ne, r_icmp_ne, r_if_lt, r_icmp_lt, r_if_ge, r_icmp_ge, r_if_gt, r_icmp_gt, r_if_le, r_icmp_le, r_goto, r_switch, r_ireturn0, r_ireturn1, r_lreturn, r_areturn, r_return, r_inv0, r_inv1, r_inv2, r_inv3, r_inv4, r_inv5, r_min, r_max, r_acopy, onI_s, onL_s, onR_s, onO_s, fv0, fv1, fv2, fv3, fp1, fp20, fp21, fp3, tl_s, tl_n, lg0, lg1, lg2, lg3, lg4, lg5, lg6, lg7, lg8, lg9, lg10, lg11, lg12, lg13, lg14, lg15, lg16, lg17, ls0, ls1, ls2, ls3, ls4, ls5, ls6, ls7, ls8, ls9, ls10, ls11, ls12, ls13, ls14, ls15, ls16, ls17, lk0, lk1, lk2, lk3, lk4, lk5, lk6, lk7, lk8, lk9, lk10, lk11, lk12, lk13, lk14, lk15, lk16, lk17, kl_n, kl_i, kl_r, kl_l, Nat.reduceAdd, Nat.reduceLeDiff, not_false_eq_true, r_ins0, r_ins1, r_ins2, r_ins3, r_ins4, r_ins5]
  simp
theorem s_found (M : Mem) (n : Nat) : Ev 95 [.ref 0, .int (nI n)] M (some (.int (mI 10 - nI n))) (stM M 0 5 (nI n)) := by
  apply Ev.of
  simp only [E_95, B_95_0, cB, r_iconst_p, r_iconst_m, r_bipush_p, r_bipush_m, r_sipush_p, r_sipush_m, r_ldc_p, r_ldc_m, r_ldc_w_p, r_ldc_w_m, r_lconst_p, r_lconst_m, r_ldc2_w_p, r_ldc2_w_m, r_iload, r_iload_n, r_lload, r_lload_n, r_aload, r_aload_n, r_istore, r_istore_n, r_astore, r_astore_n, r_lstore, r_lstore_n, r_iinc_p, r_iinc_m, r_iadd, r_isub, r_imul, r_iand, r_ior, r_ixor, r_ishl, r_ishr, r_iushr, r_idiv, r_irem, r_ladd, r_lsub, r_lmul, r_ldiv, r_lrem, r_lshl, r_lcmp, r_i2l, r_i2b, r_i2s, r_dup_i, r_dup_r, r_dup2_ii, r_dup2_ir, r_dup2_l, r_pop, r_getfield, r_putfield, r_iaload, r_iastore, r_aaload, r_arraylength, r_if_eq, r_icmp_eq, r_if_ne, r_icmp_ne, r_if_lt, r_icmp_lt, r_if_ge, r_icmp_ge, r_if_gt, r_icmp_gt, r_if_le, r_icmp_le, r_goto, r_switch, r_ireturn0, r_ireturn1, r_lreturn, r_areturn, r_return, r_inv0, r_inv1, r_inv2, r_inv3, r_inv4, r_inv5, r_min, r_max, r_acopy, onI_s, onL_s, onR_s, onO_s, fv0, fv1, fv2, fv3, fp1, fp20, fp21, fp3, tl_s, tl_n, lg0, lg1, lg2, lg3, lg4, lg5, lg6, lg7, lg8, lg9, lg10, lg11, lg12, lg13, lg14, lg15, lg16, lg17, ls0, ls1, ls2, ls3, ls4, ls5, ls6, ls7, ls8, ls9, ls10, ls11, ls12, ls13, ls14, ls15, ls16, ls17, lk0, lk1, lk2, lk3, lk4, lk5, lk6, lk7, lk8, lk9, lk10, lk11, lk12, lk13, lk14, lk15, lk16, lk17, kl_n, kl_i, kl_r, kl_l, Nat.reduceAdd, Nat.reduceLeDiff, not_false_eq_true, r_ins0, r_ins1, r_ins2, r_ins3, r_ins4, r_ins5]
  simp
