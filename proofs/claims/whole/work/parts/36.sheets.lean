/-! IceHouse: sheets -/
def cut (f : Nat) (v : Int32) : Int32 := if f = 1 then v.toInt8.toInt32 else if f = 2 then v.toInt16.toInt32 else v
def hnd (f n j : Nat) (i : Int32) : Nat := if f = 0 then 1 else if f = j + 1 then (if rg i n = true then 0 else 2) else 3
def hrw (n : Nat) (a k : Int32) : Bool := decide (0 ≤ a.toInt ∧ 0 ≤ k.toInt ∧ a.toInt + k.toInt ≤ (n : Int))
def ui (f : Nat → Nat → Int32) (s : Nat) (it : Nat → Int32) : Nat → Nat → Int32 := fun j => if j = s then it else f j
def setS (g : Sg) (s f n : Nat) (it : Nat → Int32) : Sg := setSh g (un (gfm g) s f, un (gsz g) s n, ui (git g) s it)
theorem ix_nI {a b : Nat} (ha : a < 2 ^ 31) (hb : b < 2 ^ 31) : (ix a = nI b) = (a = b + 1) := by
  unfold ix
  by_cases h : a = 0
  · rw [if_pos h, q_mn (by omega) (by omega) (by omega)]; simp; omega
  · rw [if_neg h, q_eq (by omega) (by omega)]; apply propext; omega
theorem ix_ix {a b : Nat} (ha : a < 2 ^ 31) (hb : b < 2 ^ 31) : (ix a = ix b) = (a = b) := by
  by_cases h : b = 0
  · subst h
    exact ix_m1 ha
  · have e : ix b = nI (b - 1) := by unfold ix; rw [if_neg h]
    rw [e, ix_nI ha (by omega)]
    apply propext; omega
section CW
variable {M : Mem} {g : Sg}
theorem CI.shs (h : CI M g) {N : Mem} {s f n : Nat} {it : Nat → Int32} (hs : s < 4) (hF : Fr [54 + 2 * s, 55 + 2 * s] M N) (hE : RSh N (54 + 2 * s) f n it) : CI N (setS g s f n it) ∧ Up M N := by
  obtain ⟨⟨h1, h2, ⟨h3, h4, h5⟩, h6, h7, h8, h9, h10, h11, h12, h13⟩, hS, hT, hk1, hk2⟩ := h
  have G : ∀ c, c < 54 ∨ 61 < c → N c = M c := fun c hc => hF c (by simp only [List.mem_cons, List.not_mem_nil, or_false]; omega)
  have K : ∀ k, k < 4 → RSh M (54 + 2 * k) (gfm g k) (gsz g k) (git g k) → RSh N (54 + 2 * k) (un (gfm g) s f k) (un (gsz g) s n k) (ui (git g) s it k) := by
    intro k hk q
    unfold un ui
    by_cases e : k = s
    · subst e; rw [if_pos rfl, if_pos rfl, if_pos rfl]; exact hE
    · rw [if_neg e, if_neg e, if_neg e]
      unfold RSh at q ⊢
      rw [hF (54 + 2 * k) (by simp only [List.mem_cons, List.not_mem_nil, or_false]; omega), hF (54 + 2 * k + 1) (by simp only [List.mem_cons, List.not_mem_nil, or_false]; omega)]
      exact q
  refine ⟨⟨⟨?_, ?_, ⟨?_, ?_, ?_⟩, ?_, ?_, ?_, ⟨?_, h9.2⟩, K 0 (by omega) h10, K 1 (by omega) h11, K 2 (by omega) h12, K 3 (by omega) h13⟩, ?_, ?_, ?_, ?_⟩, fun c hc => G c (by omega)⟩
  · unfold RTx at h1 ⊢
    rw [G 2 (by decide), G 3 (by decide)]
    exact h1
  · unfold RTx at h2 ⊢
    rw [G 4 (by decide), G 5 (by decide)]
    exact h2
  · unfold RS at h3 ⊢
    rw [G 7 (by decide), G 8 (by decide)]
    exact h3
  · unfold ROr at h4 ⊢
    rw [G 9 (by decide), G 10 (by decide), G 11 (by decide)]
    exact h4
  · unfold REv at h5 ⊢
    rw [G 12 (by decide), G 13 (by decide), G 14 (by decide), G 15 (by decide)]
    exact h5
  · rw [G 1 (by decide)]; exact h6
  · rw [G 1 (by decide)]; exact h7
  · unfold RSn at h8 ⊢
    rw [G 16 (by decide), G 17 (by decide), G 18 (by decide), G 19 (by decide)]
    exact h8
  · rw [G 0 (by decide)]; exact h9.1
  · unfold SK at hS ⊢
    rw [G 0 (by decide), G 42 (by decide)]
    rcases hS with a | ⟨a, b, c⟩
    · exact Or.inl a
    · exact Or.inr ⟨a, b.mv (fun c hc => G c (by omega)), c⟩
  · exact hT.mv (by rw [G 20 (by decide)]) (G 36 (by decide))
  · rw [G 21 (by decide)]; exact hk1
  · rw [G 38 (by decide)]; exact hk2
theorem s_hind {s f n : Nat} {it : Nat → Int32} (hs : s < 4) (h : RSh M (54 + 2 * s) f n it) {j : Nat} (hj : j < 3) (i : Int32) : Ev 28 [.ref (54 + 2 * s), .int (nI j), .int i] M (some (.int (nI (hnd f n j i)))) M := by
  obtain ⟨h1, h2, h3, h4, h5⟩ := h
  apply Ev.of
  unfold hnd
  simp only [E_28, B_28_0, B_28_1, B_28_2, B_28_3, B_28_4, fS1 hs, fS2 hs, kS hs, h1, h3, (s_outn i (show n < 2 ^ 31 by omega) M).ct, r_iconst_p, r_iconst_m, r_bipush_p, r_bipush_m, r_sipush_p, r_sipush_m, r_ldc_p, r_ldc_m, r_ldc_w_p, r_ldc_w_m, r_lconst_p, r_lconst_m, r_ldc2_w_p, r_ldc2_w_m, r_iload, r_iload_n, r_lload, r_lload_n, r_aload, r_aload_n, r_istore, r_istore_n, r_astore, r_astore_n, r_lstore, r_lstore_n, r_iinc_p, r_iinc_m, r_iadd, r_isub, r_imul, r_iand, r_ior, r_ixor, r_ishl, r_ishr, r_iushr, r_idiv, r_irem, r_ladd, r_lsub, r_lmul, r_ldiv, r_lrem, r_lshl, r_lcmp, r_i2l, r_i2b, r_i2s, r_dup_i, r_dup_r, r_dup2_ii, r_dup2_ir, r_dup2_l, r_pop, r_getfield, r_putfield, r_iaload, r_iastore, r_aaload, r_arraylength, r_if_eq, r_icmp_eq, r_if_ne, r_icmp_ne, r_if_lt, r_icmp_lt, r_if_ge, r_icmp_ge, r_if_gt, r_icmp_gt, r_if_le, r_icmp_le, r_goto, r_switch, r_ireturn0, r_ireturn1, r_lreturn, r_areturn, r_return, r_inv0, r_inv1, r_inv2, r_inv3, r_inv4, r_inv5, r_min, r_max, r_acopy, onI_s, onL_s, onR_s, onO_s, fv0, fv1, fv2, fv3, fp1, fp20, fp21, fp3, tl_s, tl_n, lg0, lg1, lg2, lg3, lg4, lg5, lg6, lg7, lg8, lg9, lg10, lg11, lg12, lg13, lg14, lg15, lg16, lg17, ls0, ls1, ls2, ls3, ls4, ls5, ls6, ls7, ls8, ls9, ls10, ls11, ls12, ls13, ls14, ls15, ls16, ls17, lk0, lk1, lk2, lk3, lk4, lk5, lk6, lk7, lk8, lk9, lk10, lk11, lk12, lk13, lk14, lk15, lk16, lk17, kl_n, kl_i, kl_r, kl_l, Nat.reduceAdd, Nat.reduceLeDiff, not_false_eq_true, r_ins0, r_ins1, r_ins2, r_ins3, r_ins4, r_ins5]
  rw [ix_m1 (by omega), ix_nI (by omega) (by omega)]
  refine brc_i (fun hz => ?_) (fun hz => ?_)
  · rw [if_neg hz]
    refine brc_i (fun hq => ?_) (fun hq => ?_)
    · rw [if_pos hq]
      refine ⟨by simp, ?_⟩
      cases hx : rg i n with
      | false => rw [rF, n10, brc_F]; exact ⟨rfl, trivial⟩
      | true => rw [rT, brc_pos rfl]; exact ⟨rfl, trivial⟩
    · rw [if_neg hq]; exact ⟨rfl, trivial⟩
  · rw [if_pos (Classical.not_not.mp hz)]; exact ⟨rfl, trivial⟩
theorem s_put {s f n : Nat} {it : Nat → Int32} (hs : s < 4) (h : RSh M (54 + 2 * s) f n it) (i v : Int32) : Ev 30 [.ref (54 + 2 * s), .int i, .int v] M none (if rg i n = true then stM M (55 + 2 * s) (cl i) (cut f v) else M) := by
  obtain ⟨h1, h2, h3, h4, h5⟩ := h
  apply Ev.of
  simp only [E_30, B_30_0, B_30_1, B_30_2, B_30_3, B_30_4, fS0 hs, fS1 hs, fS2 hs, kS hs, h1, h3, (s_outn i (show n < 2 ^ 31 by omega) M).ct, r_iconst_p, r_iconst_m, r_bipush_p, r_bipush_m, r_sipush_p, r_sipush_m, r_ldc_p, r_ldc_m, r_ldc_w_p, r_ldc_w_m, r_lconst_p, r_lconst_m, r_ldc2_w_p, r_ldc2_w_m, r_iload, r_iload_n, r_lload, r_lload_n, r_aload, r_aload_n, r_istore, r_istore_n, r_astore, r_astore_n, r_lstore, r_lstore_n, r_iinc_p, r_iinc_m, r_iadd, r_isub, r_imul, r_iand, r_ior, r_ixor, r_ishl, r_ishr, r_iushr, r_idiv, r_irem, r_ladd, r_lsub, r_lmul, r_ldiv, r_lrem, r_lshl, r_lcmp, r_i2l, r_i2b, r_i2s, r_dup_i, r_dup_r, r_dup2_ii, r_dup2_ir, r_dup2_l, r_pop, r_getfield, r_putfield, r_iaload, r_iastore, r_aaload, r_arraylength, r_if_eq, r_icmp_eq, r_if_ne, r_icmp_ne, r_if_lt, r_icmp_lt, r_if_ge, r_icmp_ge, r_if_gt, r_icmp_gt, r_if_le, r_icmp_le, r_goto, r_switch, r_ireturn0, r_ireturn1, r_lreturn, r_areturn, r_return, r_inv0, r_inv1, r_inv2, r_inv3, r_inv4, r_inv5, r_min, r_max, r_acopy, onI_s, onL_s, onR_s, onO_s, fv0, fv1, fv2, fv3, fp1, fp20, fp21, fp3, tl_s, tl_n, lg0, lg1, lg2, lg3, lg4, lg5, lg6, lg7, lg8, lg9, lg10, lg11, lg12, lg13, lg14, lg15, lg16, lg17, ls0, ls1, ls2, ls3, ls4, ls5, ls6, ls7, ls8, ls9, ls10, ls11, ls12, ls13, ls14, ls15, ls16, ls17, lk0, lk1, lk2, lk3, lk4, lk5, lk6, lk7, lk8, lk9, lk10, lk11, lk12, lk13, lk14, lk15, lk16, lk17, kl_n, kl_i, kl_r, kl_l, Nat.reduceAdd, Nat.reduceLeDiff, not_false_eq_true, r_ins0, r_ins1, r_ins2, r_ins3, r_ins4, r_ins5]
  refine ⟨by simp, ?_⟩
  cases hx : rg i n with
  | false => rw [rF, n10, brc_nF, if_neg (by decide)]; exact ⟨trivial, rfl⟩
  | true =>
    obtain ⟨b1, e1⟩ := rg_T hx
    rw [rT, brc_neg (fun q => q rfl), if_pos rfl]
    generalize cl i = k at *
    subst e1
    unfold cut
    rw [ix_nI (by omega) (by omega), ix_nI (by omega) (by omega)]
    simp only [inb_n (aS hs) (show k < 2 ^ 31 by omega) (by omega), nI_clamp (show k < 2 ^ 31 by omega)]
    refine brc_i (fun hz => ?_) (fun hz => ?_)
    · rw [if_neg hz]
      refine brc_i (fun hq => ?_) (fun hq => ?_)
      · rw [if_neg hq]; exact ⟨by omega, trivial, rfl⟩
      · rw [if_pos (Classical.not_not.mp hq)]; exact ⟨by omega, trivial, rfl⟩
    · rw [if_pos (Classical.not_not.mp hz)]; exact ⟨by omega, trivial, rfl⟩
theorem s_renew {s : Nat} (hs : s < 4) (f n : Int32) (M : Mem) : Ev 27 [.ref (54 + 2 * s), .int f, .int n] M none (stM (stM (setC M (55 + 2 * s) (fun i => if i < 60 then nI 0 else M (55 + 2 * s) i)) (54 + 2 * s) 1 f) (54 + 2 * s) 2 n) := by
  apply Ev.of
  simp only [E_27, B_27_0, fS0 hs, fS1 hs, fS2 hs, kS hs, (s_fill (aS hs) (by omega) (nI 0) M).ct, r_iconst_p, r_iconst_m, r_bipush_p, r_bipush_m, r_sipush_p, r_sipush_m, r_ldc_p, r_ldc_m, r_ldc_w_p, r_ldc_w_m, r_lconst_p, r_lconst_m, r_ldc2_w_p, r_ldc2_w_m, r_iload, r_iload_n, r_lload, r_lload_n, r_aload, r_aload_n, r_istore, r_istore_n, r_astore, r_astore_n, r_lstore, r_lstore_n, r_iinc_p, r_iinc_m, r_iadd, r_isub, r_imul, r_iand, r_ior, r_ixor, r_ishl, r_ishr, r_iushr, r_idiv, r_irem, r_ladd, r_lsub, r_lmul, r_ldiv, r_lrem, r_lshl, r_lcmp, r_i2l, r_i2b, r_i2s, r_dup_i, r_dup_r, r_dup2_ii, r_dup2_ir, r_dup2_l, r_pop, r_getfield, r_putfield, r_iaload, r_iastore, r_aaload, r_arraylength, r_if_eq, r_icmp_eq, r_if_ne, r_icmp_ne, r_if_lt, r_icmp_lt, r_if_ge, r_icmp_ge, r_if_gt, r_icmp_gt, r_if_le, r_icmp_le, r_goto, r_switch, r_ireturn0, r_ireturn1, r_lreturn, r_areturn, r_return, r_inv0, r_inv1, r_inv2, r_inv3, r_inv4, r_inv5, r_min, r_max, r_acopy, onI_s, onL_s, onR_s, onO_s, fv0, fv1, fv2, fv3, fp1, fp20, fp21, fp3, tl_s, tl_n, lg0, lg1, lg2, lg3, lg4, lg5, lg6, lg7, lg8, lg9, lg10, lg11, lg12, lg13, lg14, lg15, lg16, lg17, ls0, ls1, ls2, ls3, ls4, ls5, ls6, ls7, ls8, ls9, ls10, ls11, ls12, ls13, ls14, ls15, ls16, ls17, lk0, lk1, lk2, lk3, lk4, lk5, lk6, lk7, lk8, lk9, lk10, lk11, lk12, lk13, lk14, lk15, lk16, lk17, kl_n, kl_i, kl_r, kl_l, Nat.reduceAdd, Nat.reduceLeDiff, not_false_eq_true, r_ins0, r_ins1, r_ins2, r_ins3, r_ins4, r_ins5]
  simp
theorem s_hasRow {s f n : Nat} {it : Nat → Int32} (hs : s < 4) (h : RSh M (54 + 2 * s) f n it) (a k : Int32) : Ev 29 [.ref (54 + 2 * s), .int a, .int k] M (some (.int (nI (hrw n a k).toNat))) M := by
  obtain ⟨h1, h2, h3, h4, h5⟩ := h
  apply Ev.of
  simp only [E_29, B_29_0, B_29_1, B_29_2, fS2 hs, kS hs, h3, r_iconst_p, r_iconst_m, r_bipush_p, r_bipush_m, r_sipush_p, r_sipush_m, r_ldc_p, r_ldc_m, r_ldc_w_p, r_ldc_w_m, r_lconst_p, r_lconst_m, r_ldc2_w_p, r_ldc2_w_m, r_iload, r_iload_n, r_lload, r_lload_n, r_aload, r_aload_n, r_istore, r_istore_n, r_astore, r_astore_n, r_lstore, r_lstore_n, r_iinc_p, r_iinc_m, r_iadd, r_isub, r_imul, r_iand, r_ior, r_ixor, r_ishl, r_ishr, r_iushr, r_idiv, r_irem, r_ladd, r_lsub, r_lmul, r_ldiv, r_lrem, r_lshl, r_lcmp, r_i2l, r_i2b, r_i2s, r_dup_i, r_dup_r, r_dup2_ii, r_dup2_ir, r_dup2_l, r_pop, r_getfield, r_putfield, r_iaload, r_iastore, r_aaload, r_arraylength, r_if_eq, r_icmp_eq, r_if_ne, r_icmp_ne, r_if_lt, r_icmp_lt, r_if_ge, r_icmp_ge, r_if_gt, r_icmp_gt, r_if_le, r_icmp_le, r_goto, r_switch, r_ireturn0, r_ireturn1, r_lreturn, r_areturn, r_return, r_inv0, r_inv1, r_inv2, r_inv3, r_inv4, r_inv5, r_min, r_max, r_acopy, onI_s, onL_s, onR_s, onO_s, fv0, fv1, fv2, fv3, fp1, fp20, fp21, fp3, tl_s, tl_n, lg0, lg1, lg2, lg3, lg4, lg5, lg6, lg7, lg8, lg9, lg10, lg11, lg12, lg13, lg14, lg15, lg16, lg17, ls0, ls1, ls2, ls3, ls4, ls5, ls6, ls7, ls8, ls9, ls10, ls11, ls12, ls13, ls14, ls15, ls16, ls17, lk0, lk1, lk2, lk3, lk4, lk5, lk6, lk7, lk8, lk9, lk10, lk11, lk12, lk13, lk14, lk15, lk16, lk17, kl_n, kl_i, kl_r, kl_l, Nat.reduceAdd, Nat.reduceLeDiff, not_false_eq_true, r_ins0, r_ins1, r_ins2, r_ins3, r_ins4, r_ins5]
  unfold hrw
  have z0 : (nI 0).toInt = 0 := rfl
  by_cases c1 : a < nI 0
  · rw [brc_pos c1, decide_eq_false]
    · exact ⟨Or.inl trivial, rfl, trivial⟩
    · rw [Int32.lt_iff_toInt_lt] at c1; omega
  rw [brc_neg c1]
  by_cases c2 : k < nI 0
  · rw [brc_pos c2, decide_eq_false]
    · exact ⟨Or.inl trivial, rfl, trivial⟩
    · rw [Int32.lt_iff_toInt_lt] at c2; omega
  rw [brc_neg c2]
  obtain ⟨x, hx, rfl⟩ := nI_of c1
  obtain ⟨y, hy, rfl⟩ := nI_of c2
  rw [nI_toInt hx, nI_toInt hy, q_lt (by omega) (by omega)]
  by_cases c3 : n < x
  · rw [brc_pos c3, decide_eq_false (by omega)]; exact ⟨Or.inl trivial, rfl, trivial⟩
  rw [brc_neg c3, q_sub (by omega), q_lt (by omega) (by omega)]
  by_cases c4 : n - x < y
  · rw [brc_pos c4, decide_eq_false (by omega)]; exact ⟨Or.inl trivial, rfl, trivial⟩
  rw [brc_neg c4, decide_eq_true (by omega)]; exact ⟨Or.inr trivial, rfl, trivial⟩
def aSheet (s f n : Int32) : Int32 := if rg s 4 = true ∧ rg f 3 = true ∧ n ≤ nI 60 then (if n < nI 0 then mI 15 else n) else mI 2
def gSheet (g : Sg) (s f n : Int32) : Sg := if rg s 4 = true ∧ rg f 3 = true ∧ n ≤ nI 60 then (if n < nI 0 then setFd g 5 else setS g (cl s) (cl f + 1) (cl n) (fun _ => nI 0)) else g
theorem c_sheet (h : CI M g) (s f n : Int32) : Ct 81 [.ref 0, .int s, .int f, .int n] M (fun r N => r = some (.int (aSheet s f n)) ∧ CI N (gSheet g s f n) ∧ Up M N) := by
  unfold aSheet gSheet
  simp only [E_81, B_81_0, B_81_1, B_81_2, B_81_3, cB, cH, (s_out s (show 3 < 2 ^ 31 by omega) M).ct, (s_out f (show 2 < 2 ^ 31 by omega) M).ct, r_iconst_p, r_iconst_m, r_bipush_p, r_bipush_m, r_sipush_p, r_sipush_m, r_ldc_p, r_ldc_m, r_ldc_w_p, r_ldc_w_m, r_lconst_p, r_lconst_m, r_ldc2_w_p, r_ldc2_w_m, r_iload, r_iload_n, r_lload, r_lload_n, r_aload, r_aload_n, r_istore, r_istore_n, r_astore, r_astore_n, r_lstore, r_lstore_n, r_iinc_p, r_iinc_m, r_iadd, r_isub, r_imul, r_iand, r_ior, r_ixor, r_ishl, r_ishr, r_iushr, r_idiv, r_irem, r_ladd, r_lsub, r_lmul, r_ldiv, r_lrem, r_lshl, r_lcmp, r_i2l, r_i2b, r_i2s, r_dup_i, r_dup_r, r_dup2_ii, r_dup2_ir, r_dup2_l, r_pop, r_getfield, r_putfield, r_iaload, r_iastore, r_aaload, r_arraylength, r_if_eq, r_icmp_eq, r_if_ne, r_icmp_ne, r_if_lt, r_icmp_lt, r_if_ge, r_icmp_ge, r_if_gt, r_icmp_gt, r_if_le, r_icmp_le, r_goto, r_switch, r_ireturn0, r_ireturn1, r_lreturn, r_areturn, r_return, r_inv0, r_inv1, r_inv2, r_inv3, r_inv4, r_inv5, r_min, r_max, r_acopy, onI_s, onL_s, onR_s, onO_s, fv0, fv1, fv2, fv3, fp1, fp20, fp21, fp3, tl_s, tl_n, lg0, lg1, lg2, lg3, lg4, lg5, lg6, lg7, lg8, lg9, lg10, lg11, lg12, lg13, lg14, lg15, lg16, lg17, ls0, ls1, ls2, ls3, ls4, ls5, ls6, ls7, ls8, ls9, ls10, ls11, ls12, ls13, ls14, ls15, ls16, ls17, lk0, lk1, lk2, lk3, lk4, lk5, lk6, lk7, lk8, lk9, lk10, lk11, lk12, lk13, lk14, lk15, lk16, lk17, kl_n, kl_i, kl_r, kl_l, Nat.reduceAdd, Nat.reduceLeDiff, not_false_eq_true, r_ins0, r_ins1, r_ins2, r_ins3, r_ins4, r_ins5]
  refine ⟨by simp, ?_⟩
  cases hx : rg s (3 + 1) with
  | false => rw [rF, n10, brc_nF, if_neg (fun q => by cases q.1), if_neg (fun q => by cases q.1)]; exact ⟨rfl, h, Up.rf⟩
  | true =>
    rw [rT, brc_neg (fun q => q rfl)]
    refine ⟨by simp, ?_⟩
    cases hf : rg f (2 + 1) with
    | false => rw [rF, n10, brc_nF, if_neg (fun q => by cases q.2.1), if_neg (fun q => by cases q.2.1)]; exact ⟨rfl, h, Up.rf⟩
    | true =>
      obtain ⟨b1, e1⟩ := rg_T hx
      obtain ⟨b2, e2⟩ := rg_T hf
      rw [rT, brc_neg (fun q => q rfl)]
      refine brc_i (fun hz => ?_) (fun hz => ?_)
      · have hz' : true = true ∧ true = true ∧ n ≤ nI 60 := ⟨rfl, rfl, hz⟩
        rw [if_pos hz', if_pos hz']
        clear hz'
        by_cases h0 : n < nI 0
        · rw [if_pos h0, if_pos h0, brc_neg (fun q => by rw [Int32.lt_iff_toInt_lt] at h0; rw [Int32.le_iff_toInt_le] at q; omega), (s_found M 5).ct]
          simp only [B_81_0, B_81_1, B_81_2, B_81_3, cB, r_iconst_p, r_iconst_m, r_bipush_p, r_bipush_m, r_sipush_p, r_sipush_m, r_ldc_p, r_ldc_m, r_ldc_w_p, r_ldc_w_m, r_lconst_p, r_lconst_m, r_ldc2_w_p, r_ldc2_w_m, r_iload, r_iload_n, r_lload, r_lload_n, r_aload, r_aload_n, r_istore, r_istore_n, r_astore, r_astore_n, r_lstore, r_lstore_n, r_iinc_p, r_iinc_m, r_iadd, r_isub, r_imul, r_iand, r_ior, r_ixor, r_ishl, r_ishr, r_iushr, r_idiv, r_irem, r_ladd, r_lsub, r_lmul, r_ldiv, r_lrem, r_lshl, r_lcmp, r_i2l, r_i2b, r_i2s, r_dup_i, r_dup_r, r_dup2_ii, r_dup2_ir, r_dup2_l, r_pop, r_getfield, r_putfield, r_iaload, r_iastore, r_aaload, r_arraylength, r_if_eq, r_icmp_eq, r_if_ne, r_icmp_ne, r_if_lt, r_icmp_lt, r_if_ge, r_icmp_ge, r_if_gt, r_icmp_gt, r_if_le, r_icmp_le, r_goto, r_switch, r_ireturn0, r_ireturn1, r_lreturn, r_areturn, r_return, r_inv0, r_inv1, r_inv2, r_inv3, r_inv4, r_inv5, r_min, r_max, r_acopy, onI_s, onL_s, onR_s, onO_s, fv0, fv1, fv2, fv3, fp1, fp20, fp21, fp3, tl_s, tl_n, lg0, lg1, lg2, lg3, lg4, lg5, lg6, lg7, lg8, lg9, lg10, lg11, lg12, lg13, lg14, lg15, lg16, lg17, ls0, ls1, ls2, ls3, ls4, ls5, ls6, ls7, ls8, ls9, ls10, ls11, ls12, ls13, ls14, ls15, ls16, ls17, lk0, lk1, lk2, lk3, lk4, lk5, lk6, lk7, lk8, lk9, lk10, lk11, lk12, lk13, lk14, lk15, lk16, lk17, kl_n, kl_i, kl_r, kl_l, Nat.reduceAdd, Nat.reduceLeDiff, not_false_eq_true, r_ins0, r_ins1, r_ins2, r_ins3, r_ins4, r_ins5]
          have := h.fnd (n := 5) (by omega)
          rw [m10 5 (by omega)]
          exact ⟨trivial, by simp, rfl, this.1, this.2⟩
        · obtain ⟨y, hy, rfl⟩ := nI_of h0
          rw [if_neg h0, if_neg h0, q_le (by omega) (by omega), brc_pos (by omega)]
          rw [q_le (by omega) (by omega)] at hz
          generalize cl s = s' at *
          generalize cl f = f' at *
          subst e1
          subst e2
          have gs := gS b1
          simp only [cH] at gs
          rw [gs]
          simp only [B_81_0, B_81_1, B_81_2, B_81_3, cB, cH, fS0 b1, fS1 b1, fS2 b1, kS b1, (s_renew b1 _ _ M).ct, r_iconst_p, r_iconst_m, r_bipush_p, r_bipush_m, r_sipush_p, r_sipush_m, r_ldc_p, r_ldc_m, r_ldc_w_p, r_ldc_w_m, r_lconst_p, r_lconst_m, r_ldc2_w_p, r_ldc2_w_m, r_iload, r_iload_n, r_lload, r_lload_n, r_aload, r_aload_n, r_istore, r_istore_n, r_astore, r_astore_n, r_lstore, r_lstore_n, r_iinc_p, r_iinc_m, r_iadd, r_isub, r_imul, r_iand, r_ior, r_ixor, r_ishl, r_ishr, r_iushr, r_idiv, r_irem, r_ladd, r_lsub, r_lmul, r_ldiv, r_lrem, r_lshl, r_lcmp, r_i2l, r_i2b, r_i2s, r_dup_i, r_dup_r, r_dup2_ii, r_dup2_ir, r_dup2_l, r_pop, r_getfield, r_putfield, r_iaload, r_iastore, r_aaload, r_arraylength, r_if_eq, r_icmp_eq, r_if_ne, r_icmp_ne, r_if_lt, r_icmp_lt, r_if_ge, r_icmp_ge, r_if_gt, r_icmp_gt, r_if_le, r_icmp_le, r_goto, r_switch, r_ireturn0, r_ireturn1, r_lreturn, r_areturn, r_return, r_inv0, r_inv1, r_inv2, r_inv3, r_inv4, r_inv5, r_min, r_max, r_acopy, onI_s, onL_s, onR_s, onO_s, fv0, fv1, fv2, fv3, fp1, fp20, fp21, fp3, tl_s, tl_n, lg0, lg1, lg2, lg3, lg4, lg5, lg6, lg7, lg8, lg9, lg10, lg11, lg12, lg13, lg14, lg15, lg16, lg17, ls0, ls1, ls2, ls3, ls4, ls5, ls6, ls7, ls8, ls9, ls10, ls11, ls12, ls13, ls14, ls15, ls16, ls17, lk0, lk1, lk2, lk3, lk4, lk5, lk6, lk7, lk8, lk9, lk10, lk11, lk12, lk13, lk14, lk15, lk16, lk17, kl_n, kl_i, kl_r, kl_l, Nat.reduceAdd, Nat.reduceLeDiff, not_false_eq_true, r_ins0, r_ins1, r_ins2, r_ins3, r_ins4, r_ins5]
          rw [show ([54, 56, 58, 60] : List Nat).length = 4 from rfl, q_in (by omega) (by omega), cl_nI hy]
          have := h.shs (N := stM (stM (setC M (55 + 2 * s') (fun i => if i < 60 then nI 0 else M (55 + 2 * s') i)) (54 + 2 * s') 1 (nI f')) (54 + 2 * s') 2 (nI y)) (f := f' + 1) (n := y) (it := fun _ => nI 0) b1 (fun c hc => by
            simp only [List.mem_cons, List.not_mem_nil, or_false] at hc
            rw [sm_ne (by omega), sm_ne (by omega), msc_ne (by omega)]) ⟨by rw [sm_eq, u_ne (by decide), sm_eq, u_eq, ix_s], by omega, by rw [sm_eq, u_eq], by omega, fun i hi => by rw [sm_ne (by omega), sm_ne (by omega), show 54 + 2 * s' + 1 = 55 + 2 * s' by omega, msc_eq, if_pos (by omega)]⟩
          exact ⟨b1, trivial, by simp, trivial, this.1, this.2⟩
      · rw [if_neg (fun q => hz q.2.2), if_neg (fun q => hz q.2.2)]; exact ⟨rfl, h, Up.rf⟩
def aLose (g : Sg) (s : Int32) : Int32 := if rg s 4 = true then (if gfm g (cl s) = 0 then mI 11 else nI (gsz g (cl s))) else mI 2
def gLose (g : Sg) (s : Int32) : Sg := if rg s 4 = true then (if gfm g (cl s) = 0 then setFd g 1 else setS g (cl s) 0 (gsz g (cl s)) (git g (cl s))) else g
theorem c_lose (h : CI M g) (s : Int32) : Ct 82 [.ref 0, .int s] M (fun r N => r = some (.int (aLose g s)) ∧ CI N (gLose g s) ∧ Up M N) := by
  unfold aLose gLose
  simp only [E_82, B_82_0, B_82_1, B_82_2, cB, cH, (s_out s (show 3 < 2 ^ 31 by omega) M).ct, r_iconst_p, r_iconst_m, r_bipush_p, r_bipush_m, r_sipush_p, r_sipush_m, r_ldc_p, r_ldc_m, r_ldc_w_p, r_ldc_w_m, r_lconst_p, r_lconst_m, r_ldc2_w_p, r_ldc2_w_m, r_iload, r_iload_n, r_lload, r_lload_n, r_aload, r_aload_n, r_istore, r_istore_n, r_astore, r_astore_n, r_lstore, r_lstore_n, r_iinc_p, r_iinc_m, r_iadd, r_isub, r_imul, r_iand, r_ior, r_ixor, r_ishl, r_ishr, r_iushr, r_idiv, r_irem, r_ladd, r_lsub, r_lmul, r_ldiv, r_lrem, r_lshl, r_lcmp, r_i2l, r_i2b, r_i2s, r_dup_i, r_dup_r, r_dup2_ii, r_dup2_ir, r_dup2_l, r_pop, r_getfield, r_putfield, r_iaload, r_iastore, r_aaload, r_arraylength, r_if_eq, r_icmp_eq, r_if_ne, r_icmp_ne, r_if_lt, r_icmp_lt, r_if_ge, r_icmp_ge, r_if_gt, r_icmp_gt, r_if_le, r_icmp_le, r_goto, r_switch, r_ireturn0, r_ireturn1, r_lreturn, r_areturn, r_return, r_inv0, r_inv1, r_inv2, r_inv3, r_inv4, r_inv5, r_min, r_max, r_acopy, onI_s, onL_s, onR_s, onO_s, fv0, fv1, fv2, fv3, fp1, fp20, fp21, fp3, tl_s, tl_n, lg0, lg1, lg2, lg3, lg4, lg5, lg6, lg7, lg8, lg9, lg10, lg11, lg12, lg13, lg14, lg15, lg16, lg17, ls0, ls1, ls2, ls3, ls4, ls5, ls6, ls7, ls8, ls9, ls10, ls11, ls12, ls13, ls14, ls15, ls16, ls17, lk0, lk1, lk2, lk3, lk4, lk5, lk6, lk7, lk8, lk9, lk10, lk11, lk12, lk13, lk14, lk15, lk16, lk17, kl_n, kl_i, kl_r, kl_l, Nat.reduceAdd, Nat.reduceLeDiff, not_false_eq_true, r_ins0, r_ins1, r_ins2, r_ins3, r_ins4, r_ins5]
  refine ⟨by simp, ?_⟩
  cases hx : rg s (3 + 1) with
  | false => rw [rF, n10, brc_F, if_neg (by decide), if_neg (by decide)]; exact ⟨rfl, h, Up.rf⟩
  | true =>
    obtain ⟨b1, e1⟩ := rg_T hx
    rw [rT, brc_pos rfl, if_pos rfl, if_pos rfl]
    generalize cl s = s' at *
    subst e1
    have gs := gS b1
    simp only [cH] at gs
    rw [gs]
    have q := h.1.sh b1
    simp only [B_82_0, B_82_1, B_82_2, cB, cH, fS0 b1, fS1 b1, fS2 b1, kS b1, sm_eq, u_ne (show ¬ 2 = 1 by decide), r_iconst_p, r_iconst_m, r_bipush_p, r_bipush_m, r_sipush_p, r_sipush_m, r_ldc_p, r_ldc_m, r_ldc_w_p, r_ldc_w_m, r_lconst_p, r_lconst_m, r_ldc2_w_p, r_ldc2_w_m, r_iload, r_iload_n, r_lload, r_lload_n, r_aload, r_aload_n, r_istore, r_istore_n, r_astore, r_astore_n, r_lstore, r_lstore_n, r_iinc_p, r_iinc_m, r_iadd, r_isub, r_imul, r_iand, r_ior, r_ixor, r_ishl, r_ishr, r_iushr, r_idiv, r_irem, r_ladd, r_lsub, r_lmul, r_ldiv, r_lrem, r_lshl, r_lcmp, r_i2l, r_i2b, r_i2s, r_dup_i, r_dup_r, r_dup2_ii, r_dup2_ir, r_dup2_l, r_pop, r_getfield, r_putfield, r_iaload, r_iastore, r_aaload, r_arraylength, r_if_eq, r_icmp_eq, r_if_ne, r_icmp_ne, r_if_lt, r_icmp_lt, r_if_ge, r_icmp_ge, r_if_gt, r_icmp_gt, r_if_le, r_icmp_le, r_goto, r_switch, r_ireturn0, r_ireturn1, r_lreturn, r_areturn, r_return, r_inv0, r_inv1, r_inv2, r_inv3, r_inv4, r_inv5, r_min, r_max, r_acopy, onI_s, onL_s, onR_s, onO_s, fv0, fv1, fv2, fv3, fp1, fp20, fp21, fp3, tl_s, tl_n, lg0, lg1, lg2, lg3, lg4, lg5, lg6, lg7, lg8, lg9, lg10, lg11, lg12, lg13, lg14, lg15, lg16, lg17, ls0, ls1, ls2, ls3, ls4, ls5, ls6, ls7, ls8, ls9, ls10, ls11, ls12, ls13, ls14, ls15, ls16, ls17, lk0, lk1, lk2, lk3, lk4, lk5, lk6, lk7, lk8, lk9, lk10, lk11, lk12, lk13, lk14, lk15, lk16, lk17, kl_n, kl_i, kl_r, kl_l, Nat.reduceAdd, Nat.reduceLeDiff, not_false_eq_true, r_ins0, r_ins1, r_ins2, r_ins3, r_ins4, r_ins5]
    rw [show ([54, 56, 58, 60] : List Nat).length = 4 from rfl, q_in (by omega) (by omega), q.1, q.2.2.1, ix_m1 (by have := q.2.1; omega)]
    refine ⟨b1, brc_i (fun hz => ?_) (fun hz => ?_)⟩
    · rw [if_neg hz, if_neg hz]
      have := h.shs (N := stM M (54 + 2 * s') 1 (mI 1)) (f := 0) (n := gsz g s') (it := git g s') b1 (fun c hc => by
        simp only [List.mem_cons, List.not_mem_nil, or_false] at hc
        rw [sm_ne (by omega)]) ⟨by rw [sm_eq, u_eq]; rfl, by omega, by rw [sm_eq, u_ne (by decide)]; exact q.2.2.1, q.2.2.2.1, fun i hi => by rw [sm_ne (by omega)]; exact q.2.2.2.2 i hi⟩
      exact ⟨rfl, this.1, this.2⟩
    · rw [if_pos (Classical.not_not.mp hz), if_pos (Classical.not_not.mp hz), (s_found M 1).ct]
      simp only [B_82_0, B_82_1, B_82_2, cB, r_iconst_p, r_iconst_m, r_bipush_p, r_bipush_m, r_sipush_p, r_sipush_m, r_ldc_p, r_ldc_m, r_ldc_w_p, r_ldc_w_m, r_lconst_p, r_lconst_m, r_ldc2_w_p, r_ldc2_w_m, r_iload, r_iload_n, r_lload, r_lload_n, r_aload, r_aload_n, r_istore, r_istore_n, r_astore, r_astore_n, r_lstore, r_lstore_n, r_iinc_p, r_iinc_m, r_iadd, r_isub, r_imul, r_iand, r_ior, r_ixor, r_ishl, r_ishr, r_iushr, r_idiv, r_irem, r_ladd, r_lsub, r_lmul, r_ldiv, r_lrem, r_lshl, r_lcmp, r_i2l, r_i2b, r_i2s, r_dup_i, r_dup_r, r_dup2_ii, r_dup2_ir, r_dup2_l, r_pop, r_getfield, r_putfield, r_iaload, r_iastore, r_aaload, r_arraylength, r_if_eq, r_icmp_eq, r_if_ne, r_icmp_ne, r_if_lt, r_icmp_lt, r_if_ge, r_icmp_ge, r_if_gt, r_icmp_gt, r_if_le, r_icmp_le, r_goto, r_switch, r_ireturn0, r_ireturn1, r_lreturn, r_areturn, r_return, r_inv0, r_inv1, r_inv2, r_inv3, r_inv4, r_inv5, r_min, r_max, r_acopy, onI_s, onL_s, onR_s, onO_s, fv0, fv1, fv2, fv3, fp1, fp20, fp21, fp3, tl_s, tl_n, lg0, lg1, lg2, lg3, lg4, lg5, lg6, lg7, lg8, lg9, lg10, lg11, lg12, lg13, lg14, lg15, lg16, lg17, ls0, ls1, ls2, ls3, ls4, ls5, ls6, ls7, ls8, ls9, ls10, ls11, ls12, ls13, ls14, ls15, ls16, ls17, lk0, lk1, lk2, lk3, lk4, lk5, lk6, lk7, lk8, lk9, lk10, lk11, lk12, lk13, lk14, lk15, lk16, lk17, kl_n, kl_i, kl_r, kl_l, Nat.reduceAdd, Nat.reduceLeDiff, not_false_eq_true, r_ins0, r_ins1, r_ins2, r_ins3, r_ins4, r_ins5]
      have := h.fnd (n := 1) (by omega)
      rw [m10 1 (by omega)]
      exact ⟨trivial, by simp, rfl, this.1, this.2⟩
/-- an item put -/
def itP (g : Sg) (s : Nat) (i : Nat) (v : Int32) : Nat → Int32 := fun j => if j = i then cut (gfm g s) v else git g s j
theorem CI.put (h : CI M g) {s i : Nat} (hs : s < 4) (v : Int32) : CI (stM M (55 + 2 * s) i (cut (gfm g s) v)) (setS g s (gfm g s) (gsz g s) (itP g s i v)) ∧ Up M (stM M (55 + 2 * s) i (cut (gfm g s) v)) := by
  have q := h.1.sh hs
  refine h.shs hs (fun c hc => ?_) ⟨?_, q.2.1, ?_, q.2.2.2.1, fun j hj => ?_⟩
  · simp only [List.mem_cons, List.not_mem_nil, or_false] at hc
    rw [sm_ne (by omega)]
  · rw [sm_ne (by omega)]; exact q.1
  · rw [sm_ne (by omega)]; exact q.2.2.1
  · rw [show 54 + 2 * s + 1 = 55 + 2 * s by omega, sm_eq, u_if]
    unfold itP
    by_cases e : j = i
    · rw [if_pos e, if_pos e]
    · rw [if_neg e, if_neg e, ← q.2.2.2.2 j hj, show 54 + 2 * s + 1 = 55 + 2 * s by omega]
theorem hnd_le (f n j : Nat) (i : Int32) : hnd f n j i ≤ 3 := by unfold hnd; split <;> (try split) <;> (try split) <;> omega
theorem hnd_0 {f n j : Nat} {i : Int32} (h : hnd f n j i = 0) : f = j + 1 ∧ rg i n = true := by
  unfold hnd at h
  by_cases h1 : f = 0
  · rw [if_pos h1] at h; omega
  · rw [if_neg h1] at h
    by_cases h2 : f = j + 1
    · rw [if_pos h2] at h
      cases hr : rg i n with
      | false => rw [hr, if_neg (by decide)] at h; omega
      | true => exact ⟨h2, rfl⟩
    · rw [if_neg h2] at h; omega
def aLay (g : Sg) (s f i : Int32) : Int32 := if rg s 4 = true ∧ rg f 3 = true then (if hnd (gfm g (cl s)) (gsz g (cl s)) (cl f) i = 0 then nI 1 else mI (10 + hnd (gfm g (cl s)) (gsz g (cl s)) (cl f) i)) else mI 2
def gLay (g : Sg) (s f i v : Int32) : Sg := if rg s 4 = true ∧ rg f 3 = true then (if hnd (gfm g (cl s)) (gsz g (cl s)) (cl f) i = 0 then setS g (cl s) (gfm g (cl s)) (gsz g (cl s)) (itP g (cl s) (cl i) v) else setFd g (hnd (gfm g (cl s)) (gsz g (cl s)) (cl f) i)) else g
theorem c_lay (h : CI M g) (s f i v : Int32) : Ct 83 [.ref 0, .int s, .int f, .int i, .int v] M (fun r N => r = some (.int (aLay g s f i)) ∧ CI N (gLay g s f i v) ∧ Up M N) := by
  unfold aLay gLay
  simp only [E_83, B_83_0, B_83_1, B_83_2, B_83_3, cB, cH, (s_out s (show 3 < 2 ^ 31 by omega) M).ct, (s_out f (show 2 < 2 ^ 31 by omega) M).ct, r_iconst_p, r_iconst_m, r_bipush_p, r_bipush_m, r_sipush_p, r_sipush_m, r_ldc_p, r_ldc_m, r_ldc_w_p, r_ldc_w_m, r_lconst_p, r_lconst_m, r_ldc2_w_p, r_ldc2_w_m, r_iload, r_iload_n, r_lload, r_lload_n, r_aload, r_aload_n, r_istore, r_istore_n, r_astore, r_astore_n, r_lstore, r_lstore_n, r_iinc_p, r_iinc_m, r_iadd, r_isub, r_imul, r_iand, r_ior, r_ixor, r_ishl, r_ishr, r_iushr, r_idiv, r_irem, r_ladd, r_lsub, r_lmul, r_ldiv, r_lrem, r_lshl, r_lcmp, r_i2l, r_i2b, r_i2s, r_dup_i, r_dup_r, r_dup2_ii, r_dup2_ir, r_dup2_l, r_pop, r_getfield, r_putfield, r_iaload, r_iastore, r_aaload, r_arraylength, r_if_eq, r_icmp_eq, r_if_ne, r_icmp_ne, r_if_lt, r_icmp_lt, r_if_ge, r_icmp_ge, r_if_gt, r_icmp_gt, r_if_le, r_icmp_le, r_goto, r_switch, r_ireturn0, r_ireturn1, r_lreturn, r_areturn, r_return, r_inv0, r_inv1, r_inv2, r_inv3, r_inv4, r_inv5, r_min, r_max, r_acopy, onI_s, onL_s, onR_s, onO_s, fv0, fv1, fv2, fv3, fp1, fp20, fp21, fp3, tl_s, tl_n, lg0, lg1, lg2, lg3, lg4, lg5, lg6, lg7, lg8, lg9, lg10, lg11, lg12, lg13, lg14, lg15, lg16, lg17, ls0, ls1, ls2, ls3, ls4, ls5, ls6, ls7, ls8, ls9, ls10, ls11, ls12, ls13, ls14, ls15, ls16, ls17, lk0, lk1, lk2, lk3, lk4, lk5, lk6, lk7, lk8, lk9, lk10, lk11, lk12, lk13, lk14, lk15, lk16, lk17, kl_n, kl_i, kl_r, kl_l, Nat.reduceAdd, Nat.reduceLeDiff, not_false_eq_true, r_ins0, r_ins1, r_ins2, r_ins3, r_ins4, r_ins5]
  refine ⟨by simp, ?_⟩
  cases hx : rg s (3 + 1) with
  | false => rw [rF, n10, brc_nF, if_neg (fun q => by cases q.1), if_neg (fun q => by cases q.1)]; exact ⟨rfl, h, Up.rf⟩
  | true =>
    rw [rT, brc_neg (fun q => q rfl)]
    refine ⟨by simp, ?_⟩
    cases hf : rg f (2 + 1) with
    | false => rw [rF, n10, brc_F, if_neg (fun q => by cases q.2), if_neg (fun q => by cases q.2)]; exact ⟨rfl, h, Up.rf⟩
    | true =>
      obtain ⟨b1, e1⟩ := rg_T hx
      obtain ⟨b2, e2⟩ := rg_T hf
      have hz' : true = true ∧ true = true := ⟨rfl, rfl⟩
      rw [rT, brc_pos rfl, if_pos hz', if_pos hz']
      clear hz'
      generalize cl s = s' at *
      generalize cl f = f' at *
      subst e1
      subst e2
      have gs := gS b1
      simp only [cH] at gs
      rw [gs]
      have q := h.1.sh b1
      simp only [B_83_0, B_83_1, B_83_2, B_83_3, cB, cH, fS0 b1, fS1 b1, fS2 b1, kS b1, (s_hind b1 q b2 i).ct, (s_put b1 q i v).ct, (s_found M (hnd (gfm g s') (gsz g s') f' i)).ct, r_iconst_p, r_iconst_m, r_bipush_p, r_bipush_m, r_sipush_p, r_sipush_m, r_ldc_p, r_ldc_m, r_ldc_w_p, r_ldc_w_m, r_lconst_p, r_lconst_m, r_ldc2_w_p, r_ldc2_w_m, r_iload, r_iload_n, r_lload, r_lload_n, r_aload, r_aload_n, r_istore, r_istore_n, r_astore, r_astore_n, r_lstore, r_lstore_n, r_iinc_p, r_iinc_m, r_iadd, r_isub, r_imul, r_iand, r_ior, r_ixor, r_ishl, r_ishr, r_iushr, r_idiv, r_irem, r_ladd, r_lsub, r_lmul, r_ldiv, r_lrem, r_lshl, r_lcmp, r_i2l, r_i2b, r_i2s, r_dup_i, r_dup_r, r_dup2_ii, r_dup2_ir, r_dup2_l, r_pop, r_getfield, r_putfield, r_iaload, r_iastore, r_aaload, r_arraylength, r_if_eq, r_icmp_eq, r_if_ne, r_icmp_ne, r_if_lt, r_icmp_lt, r_if_ge, r_icmp_ge, r_if_gt, r_icmp_gt, r_if_le, r_icmp_le, r_goto, r_switch, r_ireturn0, r_ireturn1, r_lreturn, r_areturn, r_return, r_inv0, r_inv1, r_inv2, r_inv3, r_inv4, r_inv5, r_min, r_max, r_acopy, onI_s, onL_s, onR_s, onO_s, fv0, fv1, fv2, fv3, fp1, fp20, fp21, fp3, tl_s, tl_n, lg0, lg1, lg2, lg3, lg4, lg5, lg6, lg7, lg8, lg9, lg10, lg11, lg12, lg13, lg14, lg15, lg16, lg17, ls0, ls1, ls2, ls3, ls4, ls5, ls6, ls7, ls8, ls9, ls10, ls11, ls12, ls13, ls14, ls15, ls16, ls17, lk0, lk1, lk2, lk3, lk4, lk5, lk6, lk7, lk8, lk9, lk10, lk11, lk12, lk13, lk14, lk15, lk16, lk17, kl_n, kl_i, kl_r, kl_l, Nat.reduceAdd, Nat.reduceLeDiff, not_false_eq_true, r_ins0, r_ins1, r_ins2, r_ins3, r_ins4, r_ins5]
      rw [show ([54, 56, 58, 60] : List Nat).length = 4 from rfl, q_in (by omega) (by omega), q_eq (by have := hnd_le (gfm g s') (gsz g s') f' i; omega) (by omega)]
      refine ⟨b1, trivial, by simp, brc_i (fun hz => ?_) (fun hz => ?_)⟩
      · obtain ⟨w1, w2⟩ := hnd_0 hz
        rw [if_pos hz, if_pos hz]
        simp only [B_83_0, B_83_1, B_83_2, B_83_3, gs, kS b1, (s_put b1 q i v).ct, r_iconst_p, r_iconst_m, r_bipush_p, r_bipush_m, r_sipush_p, r_sipush_m, r_ldc_p, r_ldc_m, r_ldc_w_p, r_ldc_w_m, r_lconst_p, r_lconst_m, r_ldc2_w_p, r_ldc2_w_m, r_iload, r_iload_n, r_lload, r_lload_n, r_aload, r_aload_n, r_istore, r_istore_n, r_astore, r_astore_n, r_lstore, r_lstore_n, r_iinc_p, r_iinc_m, r_iadd, r_isub, r_imul, r_iand, r_ior, r_ixor, r_ishl, r_ishr, r_iushr, r_idiv, r_irem, r_ladd, r_lsub, r_lmul, r_ldiv, r_lrem, r_lshl, r_lcmp, r_i2l, r_i2b, r_i2s, r_dup_i, r_dup_r, r_dup2_ii, r_dup2_ir, r_dup2_l, r_pop, r_getfield, r_putfield, r_iaload, r_iastore, r_aaload, r_arraylength, r_if_eq, r_icmp_eq, r_if_ne, r_icmp_ne, r_if_lt, r_icmp_lt, r_if_ge, r_icmp_ge, r_if_gt, r_icmp_gt, r_if_le, r_icmp_le, r_goto, r_switch, r_ireturn0, r_ireturn1, r_lreturn, r_areturn, r_return, r_inv0, r_inv1, r_inv2, r_inv3, r_inv4, r_inv5, r_min, r_max, r_acopy, onI_s, onL_s, onR_s, onO_s, fv0, fv1, fv2, fv3, fp1, fp20, fp21, fp3, tl_s, tl_n, lg0, lg1, lg2, lg3, lg4, lg5, lg6, lg7, lg8, lg9, lg10, lg11, lg12, lg13, lg14, lg15, lg16, lg17, ls0, ls1, ls2, ls3, ls4, ls5, ls6, ls7, ls8, ls9, ls10, ls11, ls12, ls13, ls14, ls15, ls16, ls17, lk0, lk1, lk2, lk3, lk4, lk5, lk6, lk7, lk8, lk9, lk10, lk11, lk12, lk13, lk14, lk15, lk16, lk17, kl_n, kl_i, kl_r, kl_l, Nat.reduceAdd, Nat.reduceLeDiff, not_false_eq_true, r_ins0, r_ins1, r_ins2, r_ins3, r_ins4, r_ins5]
        rw [w2, if_pos rfl]
        have := h.put b1 (i := cl i) v
        exact ⟨b1, trivial, by simp, trivial, this.1, this.2⟩
      · rw [if_neg hz, if_neg hz, m10 _ (by have := hnd_le (gfm g s') (gsz g s') f' i; omega)]
        have := h.fnd (n := hnd (gfm g s') (gsz g s') f' i) (by have := hnd_le (gfm g s') (gsz g s') f' i; omega)
        exact ⟨trivial, by simp, rfl, this.1, this.2⟩
def aGet (g : Sg) (s f i : Int32) : Int32 := if rg s 4 = true ∧ rg f 3 = true then (if hnd (gfm g (cl s)) (gsz g (cl s)) (cl f) i = 0 then git g (cl s) (cl i) else mI (2 ^ 31)) else mI (2 ^ 31)
def gGet (g : Sg) (s f i : Int32) : Sg := if rg s 4 = true ∧ rg f 3 = true then (if hnd (gfm g (cl s)) (gsz g (cl s)) (cl f) i = 0 then g else setFd g (hnd (gfm g (cl s)) (gsz g (cl s)) (cl f) i)) else g
theorem c_get (h : CI M g) (s f i : Int32) : Ct 84 [.ref 0, .int s, .int f, .int i] M (fun r N => r = some (.int (aGet g s f i)) ∧ CI N (gGet g s f i) ∧ Up M N) := by
  unfold aGet gGet
  simp only [E_84, B_84_0, B_84_1, B_84_2, B_84_3, cB, cH, (s_out s (show 3 < 2 ^ 31 by omega) M).ct, (s_out f (show 2 < 2 ^ 31 by omega) M).ct, r_iconst_p, r_iconst_m, r_bipush_p, r_bipush_m, r_sipush_p, r_sipush_m, r_ldc_p, r_ldc_m, r_ldc_w_p, r_ldc_w_m, r_lconst_p, r_lconst_m, r_ldc2_w_p, r_ldc2_w_m, r_iload, r_iload_n, r_lload, r_lload_n, r_aload, r_aload_n, r_istore, r_istore_n, r_astore, r_astore_n, r_lstore, r_lstore_n, r_iinc_p, r_iinc_m, r_iadd, r_isub, r_imul, r_iand, r_ior, r_ixor, r_ishl, r_ishr, r_iushr, r_idiv, r_irem, r_ladd, r_lsub, r_lmul, r_ldiv, r_lrem, r_lshl, r_lcmp, r_i2l, r_i2b, r_i2s, r_dup_i, r_dup_r, r_dup2_ii, r_dup2_ir, r_dup2_l, r_pop, r_getfield, r_putfield, r_iaload, r_iastore, r_aaload, r_arraylength, r_if_eq, r_icmp_eq, r_if_ne, r_icmp_ne, r_if_lt, r_icmp_lt, r_if_ge, r_icmp_ge, r_if_gt, r_icmp_gt, r_if_le, r_icmp_le, r_goto, r_switch, r_ireturn0, r_ireturn1, r_lreturn, r_areturn, r_return, r_inv0, r_inv1, r_inv2, r_inv3, r_inv4, r_inv5, r_min, r_max, r_acopy, onI_s, onL_s, onR_s, onO_s, fv0, fv1, fv2, fv3, fp1, fp20, fp21, fp3, tl_s, tl_n, lg0, lg1, lg2, lg3, lg4, lg5, lg6, lg7, lg8, lg9, lg10, lg11, lg12, lg13, lg14, lg15, lg16, lg17, ls0, ls1, ls2, ls3, ls4, ls5, ls6, ls7, ls8, ls9, ls10, ls11, ls12, ls13, ls14, ls15, ls16, ls17, lk0, lk1, lk2, lk3, lk4, lk5, lk6, lk7, lk8, lk9, lk10, lk11, lk12, lk13, lk14, lk15, lk16, lk17, kl_n, kl_i, kl_r, kl_l, Nat.reduceAdd, Nat.reduceLeDiff, not_false_eq_true, r_ins0, r_ins1, r_ins2, r_ins3, r_ins4, r_ins5]
  refine ⟨by simp, ?_⟩
  cases hx : rg s (3 + 1) with
  | false => rw [rF, n10, brc_nF, if_neg (fun q => by cases q.1), if_neg (fun q => by cases q.1)]; exact ⟨rfl, h, Up.rf⟩
  | true =>
    rw [rT, brc_neg (fun q => q rfl)]
    refine ⟨by simp, ?_⟩
    cases hf : rg f (2 + 1) with
    | false => rw [rF, n10, brc_F, if_neg (fun q => by cases q.2), if_neg (fun q => by cases q.2)]; exact ⟨rfl, h, Up.rf⟩
    | true =>
      obtain ⟨b1, e1⟩ := rg_T hx
      obtain ⟨b2, e2⟩ := rg_T hf
      have hz' : true = true ∧ true = true := ⟨rfl, rfl⟩
      rw [rT, brc_pos rfl, if_pos hz', if_pos hz']
      clear hz'
      generalize cl s = s' at *
      generalize cl f = f' at *
      subst e1
      subst e2
      have gs := gS b1
      simp only [cH] at gs
      rw [gs]
      have q := h.1.sh b1
      simp only [B_84_0, B_84_1, B_84_2, B_84_3, cB, cH, fS0 b1, fS1 b1, fS2 b1, kS b1, (s_hind b1 q b2 i).ct, r_iconst_p, r_iconst_m, r_bipush_p, r_bipush_m, r_sipush_p, r_sipush_m, r_ldc_p, r_ldc_m, r_ldc_w_p, r_ldc_w_m, r_lconst_p, r_lconst_m, r_ldc2_w_p, r_ldc2_w_m, r_iload, r_iload_n, r_lload, r_lload_n, r_aload, r_aload_n, r_istore, r_istore_n, r_astore, r_astore_n, r_lstore, r_lstore_n, r_iinc_p, r_iinc_m, r_iadd, r_isub, r_imul, r_iand, r_ior, r_ixor, r_ishl, r_ishr, r_iushr, r_idiv, r_irem, r_ladd, r_lsub, r_lmul, r_ldiv, r_lrem, r_lshl, r_lcmp, r_i2l, r_i2b, r_i2s, r_dup_i, r_dup_r, r_dup2_ii, r_dup2_ir, r_dup2_l, r_pop, r_getfield, r_putfield, r_iaload, r_iastore, r_aaload, r_arraylength, r_if_eq, r_icmp_eq, r_if_ne, r_icmp_ne, r_if_lt, r_icmp_lt, r_if_ge, r_icmp_ge, r_if_gt, r_icmp_gt, r_if_le, r_icmp_le, r_goto, r_switch, r_ireturn0, r_ireturn1, r_lreturn, r_areturn, r_return, r_inv0, r_inv1, r_inv2, r_inv3, r_inv4, r_inv5, r_min, r_max, r_acopy, onI_s, onL_s, onR_s, onO_s, fv0, fv1, fv2, fv3, fp1, fp20, fp21, fp3, tl_s, tl_n, lg0, lg1, lg2, lg3, lg4, lg5, lg6, lg7, lg8, lg9, lg10, lg11, lg12, lg13, lg14, lg15, lg16, lg17, ls0, ls1, ls2, ls3, ls4, ls5, ls6, ls7, ls8, ls9, ls10, ls11, ls12, ls13, ls14, ls15, ls16, ls17, lk0, lk1, lk2, lk3, lk4, lk5, lk6, lk7, lk8, lk9, lk10, lk11, lk12, lk13, lk14, lk15, lk16, lk17, kl_n, kl_i, kl_r, kl_l, Nat.reduceAdd, Nat.reduceLeDiff, not_false_eq_true, r_ins0, r_ins1, r_ins2, r_ins3, r_ins4, r_ins5]
      rw [show ([54, 56, 58, 60] : List Nat).length = 4 from rfl, q_in (by omega) (by omega), q_eq (by have := hnd_le (gfm g s') (gsz g s') f' i; omega) (by omega)]
      refine ⟨b1, trivial, by simp, brc_i (fun hz => ?_) (fun hz => ?_)⟩
      · obtain ⟨w1, w2⟩ := hnd_0 hz
        obtain ⟨b3, e3⟩ := rg_T w2
        have q4 := q.2.2.2.1
        rw [if_pos hz, if_pos hz]
        generalize cl i = i' at *
        subst e3
        simp only [B_84_0, B_84_1, B_84_2, B_84_3, gs, fS0 b1, r_iconst_p, r_iconst_m, r_bipush_p, r_bipush_m, r_sipush_p, r_sipush_m, r_ldc_p, r_ldc_m, r_ldc_w_p, r_ldc_w_m, r_lconst_p, r_lconst_m, r_ldc2_w_p, r_ldc2_w_m, r_iload, r_iload_n, r_lload, r_lload_n, r_aload, r_aload_n, r_istore, r_istore_n, r_astore, r_astore_n, r_lstore, r_lstore_n, r_iinc_p, r_iinc_m, r_iadd, r_isub, r_imul, r_iand, r_ior, r_ixor, r_ishl, r_ishr, r_iushr, r_idiv, r_irem, r_ladd, r_lsub, r_lmul, r_ldiv, r_lrem, r_lshl, r_lcmp, r_i2l, r_i2b, r_i2s, r_dup_i, r_dup_r, r_dup2_ii, r_dup2_ir, r_dup2_l, r_pop, r_getfield, r_putfield, r_iaload, r_iastore, r_aaload, r_arraylength, r_if_eq, r_icmp_eq, r_if_ne, r_icmp_ne, r_if_lt, r_icmp_lt, r_if_ge, r_icmp_ge, r_if_gt, r_icmp_gt, r_if_le, r_icmp_le, r_goto, r_switch, r_ireturn0, r_ireturn1, r_lreturn, r_areturn, r_return, r_inv0, r_inv1, r_inv2, r_inv3, r_inv4, r_inv5, r_min, r_max, r_acopy, onI_s, onL_s, onR_s, onO_s, fv0, fv1, fv2, fv3, fp1, fp20, fp21, fp3, tl_s, tl_n, lg0, lg1, lg2, lg3, lg4, lg5, lg6, lg7, lg8, lg9, lg10, lg11, lg12, lg13, lg14, lg15, lg16, lg17, ls0, ls1, ls2, ls3, ls4, ls5, ls6, ls7, ls8, ls9, ls10, ls11, ls12, ls13, ls14, ls15, ls16, ls17, lk0, lk1, lk2, lk3, lk4, lk5, lk6, lk7, lk8, lk9, lk10, lk11, lk12, lk13, lk14, lk15, lk16, lk17, kl_n, kl_i, kl_r, kl_l, Nat.reduceAdd, Nat.reduceLeDiff, not_false_eq_true, r_ins0, r_ins1, r_ins2, r_ins3, r_ins4, r_ins5]
        rw [inb_n (aS b1) (by omega) (by omega), nI_clamp (by omega), show 55 + 2 * s' = 54 + 2 * s' + 1 by omega, q.2.2.2.2 i' b3]
        exact ⟨b1, by omega, rfl, h, Up.rf⟩
      · rw [if_neg hz, if_neg hz]
        have := h.fnd (n := hnd (gfm g s') (gsz g s') f' i) (by have := hnd_le (gfm g s') (gsz g s') f' i; omega)
        exact ⟨rfl, this.1, this.2⟩
def aCopy (g : Sg) (s i t j n : Int32) : Int32 := if rg s 4 = true ∧ rg t 4 = true then (if gfm g (cl s) = 0 ∨ gfm g (cl t) = 0 then mI 11 else if gfm g (cl s) = gfm g (cl t) then (if hrw (gsz g (cl s)) i n = true ∧ hrw (gsz g (cl t)) j n = true then nI 1 else mI 12) else mI 14) else mI 2
def itC (g : Sg) (s i t j n : Nat) : Nat → Int32 := fun k => if j ≤ k ∧ k < j + n then git g s (i + (k - j)) else git g t k
def gCopy (g : Sg) (s i t j n : Int32) : Sg := if rg s 4 = true ∧ rg t 4 = true then (if gfm g (cl s) = 0 ∨ gfm g (cl t) = 0 then setFd g 1 else if gfm g (cl s) = gfm g (cl t) then (if hrw (gsz g (cl s)) i n = true ∧ hrw (gsz g (cl t)) j n = true then setS g (cl t) (gfm g (cl t)) (gsz g (cl t)) (itC g (cl s) (cl i) (cl t) (cl j) (cl n)) else setFd g 2) else setFd g 4) else g
theorem hrw_T {n : Nat} {a k : Int32} (h : hrw n a k = true) : cl a + cl k ≤ n ∧ ¬ a < nI 0 ∧ ¬ k < nI 0 ∧ a = nI (cl a) ∧ k = nI (cl k) := by
  unfold hrw at h
  rw [decide_eq_true_eq] at h
  have h1 : ¬ a < nI 0 := by rw [Int32.lt_iff_toInt_lt]; show ¬ a.toInt < 0; omega
  have h2 : ¬ k < nI 0 := by rw [Int32.lt_iff_toInt_lt]; show ¬ k.toInt < 0; omega
  obtain ⟨x, hx, rfl⟩ := nI_of h1
  obtain ⟨y, hy, rfl⟩ := nI_of h2
  rw [nI_toInt hx, nI_toInt hy] at h
  rw [cl_nI hx, cl_nI hy]
  exact ⟨by omega, h1, h2, rfl, rfl⟩
set_option maxHeartbeats 2000000 in
theorem c_copy (h : CI M g) (s i t j n : Int32) : Ct 85 [.ref 0, .int s, .int i, .int t, .int j, .int n] M (fun r N => r = some (.int (aCopy g s i t j n)) ∧ CI N (gCopy g s i t j n) ∧ Up M N) := by
  unfold aCopy gCopy
  simp only [E_85, B_85_0, B_85_1, B_85_2, B_85_3, B_85_4, B_85_5, B_85_6, B_85_7, cB, cH, (s_out s (show 3 < 2 ^ 31 by omega) M).ct, (s_out t (show 3 < 2 ^ 31 by omega) M).ct, r_iconst_p, r_iconst_m, r_bipush_p, r_bipush_m, r_sipush_p, r_sipush_m, r_ldc_p, r_ldc_m, r_ldc_w_p, r_ldc_w_m, r_lconst_p, r_lconst_m, r_ldc2_w_p, r_ldc2_w_m, r_iload, r_iload_n, r_lload, r_lload_n, r_aload, r_aload_n, r_istore, r_istore_n, r_astore, r_astore_n, r_lstore, r_lstore_n, r_iinc_p, r_iinc_m, r_iadd, r_isub, r_imul, r_iand, r_ior, r_ixor, r_ishl, r_ishr, r_iushr, r_idiv, r_irem, r_ladd, r_lsub, r_lmul, r_ldiv, r_lrem, r_lshl, r_lcmp, r_i2l, r_i2b, r_i2s, r_dup_i, r_dup_r, r_dup2_ii, r_dup2_ir, r_dup2_l, r_pop, r_getfield, r_putfield, r_iaload, r_iastore, r_aaload, r_arraylength, r_if_eq, r_icmp_eq, r_if_ne, r_icmp_ne, r_if_lt, r_icmp_lt, r_if_ge, r_icmp_ge, r_if_gt, r_icmp_gt, r_if_le, r_icmp_le, r_goto, r_switch, r_ireturn0, r_ireturn1, r_lreturn, r_areturn, r_return, r_inv0, r_inv1, r_inv2, r_inv3, r_inv4, r_inv5, r_min, r_max, r_acopy, onI_s, onL_s, onR_s, onO_s, fv0, fv1, fv2, fv3, fp1, fp20, fp21, fp3, tl_s, tl_n, lg0, lg1, lg2, lg3, lg4, lg5, lg6, lg7, lg8, lg9, lg10, lg11, lg12, lg13, lg14, lg15, lg16, lg17, ls0, ls1, ls2, ls3, ls4, ls5, ls6, ls7, ls8, ls9, ls10, ls11, ls12, ls13, ls14, ls15, ls16, ls17, lk0, lk1, lk2, lk3, lk4, lk5, lk6, lk7, lk8, lk9, lk10, lk11, lk12, lk13, lk14, lk15, lk16, lk17, kl_n, kl_i, kl_r, kl_l, Nat.reduceAdd, Nat.reduceLeDiff, not_false_eq_true, r_ins0, r_ins1, r_ins2, r_ins3, r_ins4, r_ins5]
  refine ⟨by simp, ?_⟩
  cases hx : rg s (3 + 1) with
  | false => rw [rF, n10, brc_nF, if_neg (fun q => by cases q.1), if_neg (fun q => by cases q.1)]; exact ⟨rfl, h, Up.rf⟩
  | true =>
    rw [rT, brc_neg (fun q => q rfl)]
    refine ⟨by simp, ?_⟩
    cases hf : rg t (3 + 1) with
    | false => rw [rF, n10, brc_F, if_neg (fun q => by cases q.2), if_neg (fun q => by cases q.2)]; exact ⟨rfl, h, Up.rf⟩
    | true =>
      obtain ⟨b1, e1⟩ := rg_T hx
      obtain ⟨b2, e2⟩ := rg_T hf
      have hz' : true = true ∧ true = true := ⟨rfl, rfl⟩
      rw [rT, brc_pos rfl, if_pos hz', if_pos hz']
      clear hz'
      generalize cl s = s' at *
      generalize cl t = t' at *
      subst e1
      subst e2
      have gs := gS b1
      have gt := gS b2
      simp only [cH] at gs gt
      rw [gs, gt]
      have q := h.1.sh b1
      have q' := h.1.sh b2
      simp only [B_85_0, B_85_1, B_85_2, B_85_3, B_85_4, B_85_5, B_85_6, B_85_7, cB, cH, fS0 b1, fS1 b1, fS2 b1, kS b1, fS0 b2, fS1 b2, fS2 b2, kS b2, q.1, q'.1, (s_hasRow b1 q i n).ct, (s_hasRow b2 q' j n).ct, (s_found M 1).ct, (s_found M 2).ct, (s_found M 4).ct, aS b1, aS b2, r_iconst_p, r_iconst_m, r_bipush_p, r_bipush_m, r_sipush_p, r_sipush_m, r_ldc_p, r_ldc_m, r_ldc_w_p, r_ldc_w_m, r_lconst_p, r_lconst_m, r_ldc2_w_p, r_ldc2_w_m, r_iload, r_iload_n, r_lload, r_lload_n, r_aload, r_aload_n, r_istore, r_istore_n, r_astore, r_astore_n, r_lstore, r_lstore_n, r_iinc_p, r_iinc_m, r_iadd, r_isub, r_imul, r_iand, r_ior, r_ixor, r_ishl, r_ishr, r_iushr, r_idiv, r_irem, r_ladd, r_lsub, r_lmul, r_ldiv, r_lrem, r_lshl, r_lcmp, r_i2l, r_i2b, r_i2s, r_dup_i, r_dup_r, r_dup2_ii, r_dup2_ir, r_dup2_l, r_pop, r_getfield, r_putfield, r_iaload, r_iastore, r_aaload, r_arraylength, r_if_eq, r_icmp_eq, r_if_ne, r_icmp_ne, r_if_lt, r_icmp_lt, r_if_ge, r_icmp_ge, r_if_gt, r_icmp_gt, r_if_le, r_icmp_le, r_goto, r_switch, r_ireturn0, r_ireturn1, r_lreturn, r_areturn, r_return, r_inv0, r_inv1, r_inv2, r_inv3, r_inv4, r_inv5, r_min, r_max, r_acopy, onI_s, onL_s, onR_s, onO_s, fv0, fv1, fv2, fv3, fp1, fp20, fp21, fp3, tl_s, tl_n, lg0, lg1, lg2, lg3, lg4, lg5, lg6, lg7, lg8, lg9, lg10, lg11, lg12, lg13, lg14, lg15, lg16, lg17, ls0, ls1, ls2, ls3, ls4, ls5, ls6, ls7, ls8, ls9, ls10, ls11, ls12, ls13, ls14, ls15, ls16, ls17, lk0, lk1, lk2, lk3, lk4, lk5, lk6, lk7, lk8, lk9, lk10, lk11, lk12, lk13, lk14, lk15, lk16, lk17, kl_n, kl_i, kl_r, kl_l, Nat.reduceAdd, Nat.reduceLeDiff, not_false_eq_true, r_ins0, r_ins1, r_ins2, r_ins3, r_ins4, r_ins5]
      rw [show ([54, 56, 58, 60] : List Nat).length = 4 from rfl, q_in (by omega) (by omega), q_in (by omega) (by omega), ix_m1 (by have := q.2.1; omega), ix_m1 (by have := q'.2.1; omega)]
      refine ⟨b1, b2, ?_⟩
      have F1 := h.fnd (n := 1) (by omega)
      have F2 := h.fnd (n := 2) (by omega)
      have F4 := h.fnd (n := 4) (by omega)
      by_cases z1 : gfm g s' = 0
      · rw [brc_pos z1, if_pos (Or.inl z1), if_pos (Or.inl z1), m10 1 (by omega)]
        exact ⟨trivial, by simp, rfl, F1.1, F1.2⟩
      rw [brc_neg z1]
      by_cases z2 : gfm g t' = 0
      · rw [brc_neg (fun q => q z2), if_pos (Or.inr z2), if_pos (Or.inr z2), m10 1 (by omega)]
        exact ⟨trivial, by simp, rfl, F1.1, F1.2⟩
      have z3 : ¬ (gfm g s' = 0 ∨ gfm g t' = 0) := by omega
      rw [brc_pos z2, if_neg z3, if_neg z3, ix_ix (by have := q.2.1; omega) (by have := q'.2.1; omega)]
      by_cases z4 : gfm g s' = gfm g t'
      · rw [brc_pos z4, if_pos z4, if_pos z4]
        refine ⟨trivial, by simp, ?_⟩
        cases r1 : hrw (gsz g s') i n with
        | false =>
          rw [show nI (false).toNat = nI 0 from rfl, brc_pos rfl, if_neg (fun q => by cases q.1), if_neg (fun q => by cases q.1), m10 2 (by omega)]
          exact ⟨trivial, by simp, rfl, F2.1, F2.2⟩
        | true =>
          rw [show nI (true).toNat = nI 1 from rfl, n10, brc_F]
          refine ⟨trivial, by simp, ?_⟩
          cases r2 : hrw (gsz g t') j n with
          | false =>
            rw [show nI (false).toNat = nI 0 from rfl, brc_neg (fun q => q rfl), if_neg (fun q => by cases q.2), if_neg (fun q => by cases q.2), m10 2 (by omega)]
            exact ⟨trivial, by simp, rfl, F2.1, F2.2⟩
          | true =>
            obtain ⟨w1, w2, w3, w4, w5⟩ := hrw_T r1
            obtain ⟨v1, v2, v3, v4, v5⟩ := hrw_T r2
            have hz' : true = true ∧ true = true := ⟨rfl, rfl⟩
            rw [show nI (true).toNat = nI 1 from rfl, n10, brc_nF, if_pos hz', if_pos hz']
            clear hz'
            have q4 := q.2.2.2.1
            have q4' := q'.2.2.2.1
            have := h.shs (N := cpyM M (55 + 2 * s') (55 + 2 * t') (cl i) (cl j) (cl n)) (f := gfm g t') (n := gsz g t') (it := itC g s' (cl i) t' (cl j) (cl n)) b2 (fun c hc => by
              simp only [List.mem_cons, List.not_mem_nil, or_false] at hc
              rw [cp_if, if_neg (by omega)]) ⟨by rw [cp_if, if_neg (by omega)]; exact q'.1, q'.2.1, by rw [cp_if, if_neg (by omega)]; exact q'.2.2.1, q4', fun k hk => by
                rw [show 54 + 2 * t' + 1 = 55 + 2 * t' by omega, cp_if, if_pos rfl]
                unfold itC
                by_cases e : cl j ≤ k ∧ k < cl j + cl n
                · rw [if_pos e, cpy_in e.1 e.2, show 55 + 2 * s' = 54 + 2 * s' + 1 by omega, q.2.2.2.2 _ (by omega)]
                · rw [if_neg e, pk_cpy_out (by omega), show 55 + 2 * t' = 54 + 2 * t' + 1 by omega, q'.2.2.2.2 _ hk]⟩
            exact ⟨⟨w2, v2, w3, (by show cl i + cl n ≤ 60; omega), (by show cl j + cl n ≤ 60; omega), by simp⟩, rfl, this.1, this.2⟩
      · rw [brc_neg z4, if_neg z4, if_neg z4, m10 4 (by omega)]
        exact ⟨trivial, by simp, rfl, F4.1, F4.2⟩
def aWrite (g : Sg) (c s : Int32) : Int32 := if rg c 6 = true ∧ rg s 4 = true then (if gfm g (cl s) = 0 then mI 11 else nI (min (gsz g (cl s)) 24)) else mI 2
def itW (g : Sg) (c s m : Nat) : Nat → Int32 := fun j => if j < m then cut (gfm g s) (nI (colW g j c).sum) else git g s j
def gWrite (g : Sg) (c s : Int32) : Sg := if rg c 6 = true ∧ rg s 4 = true then (if gfm g (cl s) = 0 then setFd g 1 else setS g (cl s) (gfm g (cl s)) (gsz g (cl s)) (itW g (cl c) (cl s) (min (gsz g (cl s)) 24))) else g
set_option maxHeartbeats 2000000 in
theorem c_write (h : CI M g) (c s : Int32) : Ct 86 [.ref 0, .int c, .int s] M (fun r N => r = some (.int (aWrite g c s)) ∧ CI N (gWrite g c s) ∧ Up M N) := by
  unfold aWrite gWrite
  simp only [E_86, B_86_0, B_86_1, B_86_2, B_86_3, B_86_5, cB, cH, (s_out c (show 5 < 2 ^ 31 by omega) M).ct, (s_out s (show 3 < 2 ^ 31 by omega) M).ct, r_iconst_p, r_iconst_m, r_bipush_p, r_bipush_m, r_sipush_p, r_sipush_m, r_ldc_p, r_ldc_m, r_ldc_w_p, r_ldc_w_m, r_lconst_p, r_lconst_m, r_ldc2_w_p, r_ldc2_w_m, r_iload, r_iload_n, r_lload, r_lload_n, r_aload, r_aload_n, r_istore, r_istore_n, r_astore, r_astore_n, r_lstore, r_lstore_n, r_iinc_p, r_iinc_m, r_iadd, r_isub, r_imul, r_iand, r_ior, r_ixor, r_ishl, r_ishr, r_iushr, r_idiv, r_irem, r_ladd, r_lsub, r_lmul, r_ldiv, r_lrem, r_lshl, r_lcmp, r_i2l, r_i2b, r_i2s, r_dup_i, r_dup_r, r_dup2_ii, r_dup2_ir, r_dup2_l, r_pop, r_getfield, r_putfield, r_iaload, r_iastore, r_aaload, r_arraylength, r_if_eq, r_icmp_eq, r_if_ne, r_icmp_ne, r_if_lt, r_icmp_lt, r_if_ge, r_icmp_ge, r_if_gt, r_icmp_gt, r_if_le, r_icmp_le, r_goto, r_switch, r_ireturn0, r_ireturn1, r_lreturn, r_areturn, r_return, r_inv0, r_inv1, r_inv2, r_inv3, r_inv4, r_inv5, r_min, r_max, r_acopy, onI_s, onL_s, onR_s, onO_s, fv0, fv1, fv2, fv3, fp1, fp20, fp21, fp3, tl_s, tl_n, lg0, lg1, lg2, lg3, lg4, lg5, lg6, lg7, lg8, lg9, lg10, lg11, lg12, lg13, lg14, lg15, lg16, lg17, ls0, ls1, ls2, ls3, ls4, ls5, ls6, ls7, ls8, ls9, ls10, ls11, ls12, ls13, ls14, ls15, ls16, ls17, lk0, lk1, lk2, lk3, lk4, lk5, lk6, lk7, lk8, lk9, lk10, lk11, lk12, lk13, lk14, lk15, lk16, lk17, kl_n, kl_i, kl_r, kl_l, Nat.reduceAdd, Nat.reduceLeDiff, not_false_eq_true, r_ins0, r_ins1, r_ins2, r_ins3, r_ins4, r_ins5]
  refine ⟨by simp, ?_⟩
  cases hx : rg c (5 + 1) with
  | false => rw [rF, n10, brc_nF, if_neg (fun q => by cases q.1), if_neg (fun q => by cases q.1)]; exact ⟨rfl, h, Up.rf⟩
  | true =>
    rw [rT, brc_neg (fun q => q rfl)]
    refine ⟨by simp, ?_⟩
    cases hf : rg s (3 + 1) with
    | false => rw [rF, n10, brc_F, if_neg (fun q => by cases q.2), if_neg (fun q => by cases q.2)]; exact ⟨rfl, h, Up.rf⟩
    | true =>
      obtain ⟨b1, e1⟩ := rg_T hx
      obtain ⟨b2, e2⟩ := rg_T hf
      have hz' : true = true ∧ true = true := ⟨rfl, rfl⟩
      rw [rT, brc_pos rfl, if_pos hz', if_pos hz']
      clear hz'
      generalize cl c = c' at *
      generalize cl s = s' at *
      subst e1
      subst e2
      have gs := gS b2
      simp only [cH] at gs
      rw [gs]
      have q := h.1.sh b2
      simp only [B_86_0, B_86_1, B_86_2, B_86_3, B_86_5, cB, cH, fS0 b2, fS1 b2, fS2 b2, kS b2, q.1, q.2.2.1, (s_found M 1).ct, r_iconst_p, r_iconst_m, r_bipush_p, r_bipush_m, r_sipush_p, r_sipush_m, r_ldc_p, r_ldc_m, r_ldc_w_p, r_ldc_w_m, r_lconst_p, r_lconst_m, r_ldc2_w_p, r_ldc2_w_m, r_iload, r_iload_n, r_lload, r_lload_n, r_aload, r_aload_n, r_istore, r_istore_n, r_astore, r_astore_n, r_lstore, r_lstore_n, r_iinc_p, r_iinc_m, r_iadd, r_isub, r_imul, r_iand, r_ior, r_ixor, r_ishl, r_ishr, r_iushr, r_idiv, r_irem, r_ladd, r_lsub, r_lmul, r_ldiv, r_lrem, r_lshl, r_lcmp, r_i2l, r_i2b, r_i2s, r_dup_i, r_dup_r, r_dup2_ii, r_dup2_ir, r_dup2_l, r_pop, r_getfield, r_putfield, r_iaload, r_iastore, r_aaload, r_arraylength, r_if_eq, r_icmp_eq, r_if_ne, r_icmp_ne, r_if_lt, r_icmp_lt, r_if_ge, r_icmp_ge, r_if_gt, r_icmp_gt, r_if_le, r_icmp_le, r_goto, r_switch, r_ireturn0, r_ireturn1, r_lreturn, r_areturn, r_return, r_inv0, r_inv1, r_inv2, r_inv3, r_inv4, r_inv5, r_min, r_max, r_acopy, onI_s, onL_s, onR_s, onO_s, fv0, fv1, fv2, fv3, fp1, fp20, fp21, fp3, tl_s, tl_n, lg0, lg1, lg2, lg3, lg4, lg5, lg6, lg7, lg8, lg9, lg10, lg11, lg12, lg13, lg14, lg15, lg16, lg17, ls0, ls1, ls2, ls3, ls4, ls5, ls6, ls7, ls8, ls9, ls10, ls11, ls12, ls13, ls14, ls15, ls16, ls17, lk0, lk1, lk2, lk3, lk4, lk5, lk6, lk7, lk8, lk9, lk10, lk11, lk12, lk13, lk14, lk15, lk16, lk17, kl_n, kl_i, kl_r, kl_l, Nat.reduceAdd, Nat.reduceLeDiff, not_false_eq_true, r_ins0, r_ins1, r_ins2, r_ins3, r_ins4, r_ins5]
      rw [show ([54, 56, 58, 60] : List Nat).length = 4 from rfl, q_in (by omega) (by omega), ix_m1 (by have := q.2.1; omega)]
      refine ⟨b2, brc_i (fun hz => ?_) (fun hz => ?_)⟩
      · rw [if_neg hz, if_neg hz]
        have q4 := q.2.2.2.1
        have em : (if nI 24 < nI (gsz g s') then nI 24 else nI (gsz g s')) = nI (min (gsz g s') 24) := by
          rw [Nat.min_def]
          by_cases e : 24 < gsz g s'
          · rw [if_pos (by rw [q_lt (by omega) (by omega)]; exact e), if_neg (by omega)]
          · rw [if_neg (by rw [q_lt (by omega) (by omega)]; exact e), if_pos (by omega)]
        rw [em]
        have hm1 : min (gsz g s') 24 ≤ gsz g s' := Nat.min_le_left _ _
        have hm2 : min (gsz g s') 24 ≤ 24 := Nat.min_le_right _ _
        generalize min (gsz g s') 24 = m at *
        refine ⟨by simp, trivial, by simp, (s_toldSummer h).mono ?_⟩
        rintro r N ⟨rfl, hN, hU, hO, -, -⟩
        simp only [B_86_0, B_86_1, B_86_2, B_86_3, B_86_5, cB, cS, r_iconst_p, r_iconst_m, r_bipush_p, r_bipush_m, r_sipush_p, r_sipush_m, r_ldc_p, r_ldc_m, r_ldc_w_p, r_ldc_w_m, r_lconst_p, r_lconst_m, r_ldc2_w_p, r_ldc2_w_m, r_iload, r_iload_n, r_lload, r_lload_n, r_aload, r_aload_n, r_istore, r_istore_n, r_astore, r_astore_n, r_lstore, r_lstore_n, r_iinc_p, r_iinc_m, r_iadd, r_isub, r_imul, r_iand, r_ior, r_ixor, r_ishl, r_ishr, r_iushr, r_idiv, r_irem, r_ladd, r_lsub, r_lmul, r_ldiv, r_lrem, r_lshl, r_lcmp, r_i2l, r_i2b, r_i2s, r_dup_i, r_dup_r, r_dup2_ii, r_dup2_ir, r_dup2_l, r_pop, r_getfield, r_putfield, r_iaload, r_iastore, r_aaload, r_arraylength, r_if_eq, r_icmp_eq, r_if_ne, r_icmp_ne, r_if_lt, r_icmp_lt, r_if_ge, r_icmp_ge, r_if_gt, r_icmp_gt, r_if_le, r_icmp_le, r_goto, r_switch, r_ireturn0, r_ireturn1, r_lreturn, r_areturn, r_return, r_inv0, r_inv1, r_inv2, r_inv3, r_inv4, r_inv5, r_min, r_max, r_acopy, onI_s, onL_s, onR_s, onO_s, fv0, fv1, fv2, fv3, fp1, fp20, fp21, fp3, tl_s, tl_n, lg0, lg1, lg2, lg3, lg4, lg5, lg6, lg7, lg8, lg9, lg10, lg11, lg12, lg13, lg14, lg15, lg16, lg17, ls0, ls1, ls2, ls3, ls4, ls5, ls6, ls7, ls8, ls9, ls10, ls11, ls12, ls13, ls14, ls15, ls16, ls17, lk0, lk1, lk2, lk3, lk4, lk5, lk6, lk7, lk8, lk9, lk10, lk11, lk12, lk13, lk14, lk15, lk16, lk17, kl_n, kl_i, kl_r, kl_l, Nat.reduceAdd, Nat.reduceLeDiff, not_false_eq_true, r_ins0, r_ins1, r_ins2, r_ins3, r_ins4, r_ins5]
        have qN := hN.1.sh b2
        have hI := h.1.I0
        generalize hQ : (fun (r : Option Value) (P : Mem) => r = some (.int (nI m)) ∧ CI P (setS g s' (gfm g s') (gsz g s') (itW g c' s' m)) ∧ Up M P) = Q
        have key : ∀ n i (P : Mem), i + n = m → Fr [55 + 2 * s'] N P → (∀ j, j < gsz g s' → P (55 + 2 * s') j = itW g c' s' i j) → WP 86 [] 4 [some (.ref 0), some (.int (nI c')), some (.int (nI s')), some (.ref (54 + 2 * s')), some (.int (nI m)), some (.ref 38), some (.int (nI i))] [] P Q := by
          intro n
          induction n with
          | zero =>
            intro i P hi hF hP
            rw [Nat.add_zero] at hi
            subst hi
            rw [B_86_4]
            simp only [B_86_0, B_86_1, B_86_2, B_86_3, B_86_5, cB, cS, r_iconst_p, r_iconst_m, r_bipush_p, r_bipush_m, r_sipush_p, r_sipush_m, r_ldc_p, r_ldc_m, r_ldc_w_p, r_ldc_w_m, r_lconst_p, r_lconst_m, r_ldc2_w_p, r_ldc2_w_m, r_iload, r_iload_n, r_lload, r_lload_n, r_aload, r_aload_n, r_istore, r_istore_n, r_astore, r_astore_n, r_lstore, r_lstore_n, r_iinc_p, r_iinc_m, r_iadd, r_isub, r_imul, r_iand, r_ior, r_ixor, r_ishl, r_ishr, r_iushr, r_idiv, r_irem, r_ladd, r_lsub, r_lmul, r_ldiv, r_lrem, r_lshl, r_lcmp, r_i2l, r_i2b, r_i2s, r_dup_i, r_dup_r, r_dup2_ii, r_dup2_ir, r_dup2_l, r_pop, r_getfield, r_putfield, r_iaload, r_iastore, r_aaload, r_arraylength, r_if_eq, r_icmp_eq, r_if_ne, r_icmp_ne, r_if_lt, r_icmp_lt, r_if_ge, r_icmp_ge, r_if_gt, r_icmp_gt, r_if_le, r_icmp_le, r_goto, r_switch, r_ireturn0, r_ireturn1, r_lreturn, r_areturn, r_return, r_inv0, r_inv1, r_inv2, r_inv3, r_inv4, r_inv5, r_min, r_max, r_acopy, onI_s, onL_s, onR_s, onO_s, fv0, fv1, fv2, fv3, fp1, fp20, fp21, fp3, tl_s, tl_n, lg0, lg1, lg2, lg3, lg4, lg5, lg6, lg7, lg8, lg9, lg10, lg11, lg12, lg13, lg14, lg15, lg16, lg17, ls0, ls1, ls2, ls3, ls4, ls5, ls6, ls7, ls8, ls9, ls10, ls11, ls12, ls13, ls14, ls15, ls16, ls17, lk0, lk1, lk2, lk3, lk4, lk5, lk6, lk7, lk8, lk9, lk10, lk11, lk12, lk13, lk14, lk15, lk16, lk17, kl_n, kl_i, kl_r, kl_l, Nat.reduceAdd, Nat.reduceLeDiff, not_false_eq_true, r_ins0, r_ins1, r_ins2, r_ins3, r_ins4, r_ins5]
            rw [q_le (by omega) (by omega), brc_pos (Nat.le_refl _), ← hQ]
            have := hN.shs (N := P) (f := gfm g s') (n := gsz g s') (it := itW g c' s' i) b2 (hF.sub (by simp)) ⟨by rw [hF _ (by simp only [List.mem_cons, List.not_mem_nil, or_false]; omega)]; exact qN.1, qN.2.1, by rw [hF _ (by simp only [List.mem_cons, List.not_mem_nil, or_false]; omega)]; exact qN.2.2.1, q4, fun j hj => by rw [show 54 + 2 * s' + 1 = 55 + 2 * s' by omega]; exact hP j hj⟩
            exact ⟨rfl, this.1, hU.tr this.2⟩
          | succ n ih =>
            intro i P hi hF hP
            have hO' : Oc 38 1 (I0 g) P := hO.mv (fun d hd => hF d (by simp; omega))
            have hk : P 38 8 = nI 1 := by rw [hF 38 (by simp; omega)]; exact hN.2.2.2.2
            have qP : RSh P (54 + 2 * s') (gfm g s') (gsz g s') (itW g c' s' i) := ⟨by rw [hF _ (by simp only [List.mem_cons, List.not_mem_nil, or_false]; omega)]; exact qN.1, qN.2.1, by rw [hF _ (by simp only [List.mem_cons, List.not_mem_nil, or_false]; omega)]; exact qN.2.2.1, q4, fun j hj => by rw [show 54 + 2 * s' + 1 = 55 + 2 * s' by omega]; exact hP j hj⟩
            rw [B_86_4]
            simp only [B_86_0, B_86_1, B_86_2, B_86_3, B_86_5, cB, cS, q_add, kS b2, (s_standingIn hO' hI hk (show i < 24 by omega) b1).ct, (s_put b2 qP (nI i) (nI (colW g i c').sum)).ct, rg_nI (show i < 2 ^ 31 by omega), cl_nI (show i < 2 ^ 31 by omega), decide_eq_true (show i < gsz g s' by omega), r_iconst_p, r_iconst_m, r_bipush_p, r_bipush_m, r_sipush_p, r_sipush_m, r_ldc_p, r_ldc_m, r_ldc_w_p, r_ldc_w_m, r_lconst_p, r_lconst_m, r_ldc2_w_p, r_ldc2_w_m, r_iload, r_iload_n, r_lload, r_lload_n, r_aload, r_aload_n, r_istore, r_istore_n, r_astore, r_astore_n, r_lstore, r_lstore_n, r_iinc_p, r_iinc_m, r_iadd, r_isub, r_imul, r_iand, r_ior, r_ixor, r_ishl, r_ishr, r_iushr, r_idiv, r_irem, r_ladd, r_lsub, r_lmul, r_ldiv, r_lrem, r_lshl, r_lcmp, r_i2l, r_i2b, r_i2s, r_dup_i, r_dup_r, r_dup2_ii, r_dup2_ir, r_dup2_l, r_pop, r_getfield, r_putfield, r_iaload, r_iastore, r_aaload, r_arraylength, r_if_eq, r_icmp_eq, r_if_ne, r_icmp_ne, r_if_lt, r_icmp_lt, r_if_ge, r_icmp_ge, r_if_gt, r_icmp_gt, r_if_le, r_icmp_le, r_goto, r_switch, r_ireturn0, r_ireturn1, r_lreturn, r_areturn, r_return, r_inv0, r_inv1, r_inv2, r_inv3, r_inv4, r_inv5, r_min, r_max, r_acopy, onI_s, onL_s, onR_s, onO_s, fv0, fv1, fv2, fv3, fp1, fp20, fp21, fp3, tl_s, tl_n, lg0, lg1, lg2, lg3, lg4, lg5, lg6, lg7, lg8, lg9, lg10, lg11, lg12, lg13, lg14, lg15, lg16, lg17, ls0, ls1, ls2, ls3, ls4, ls5, ls6, ls7, ls8, ls9, ls10, ls11, ls12, ls13, ls14, ls15, ls16, ls17, lk0, lk1, lk2, lk3, lk4, lk5, lk6, lk7, lk8, lk9, lk10, lk11, lk12, lk13, lk14, lk15, lk16, lk17, kl_n, kl_i, kl_r, kl_l, Nat.reduceAdd, Nat.reduceLeDiff, not_false_eq_true, r_ins0, r_ins1, r_ins2, r_ins3, r_ins4, r_ins5]
            rw [q_le (by omega) (by omega), brc_neg (by omega), if_pos trivial]
            refine ⟨trivial, by simp, trivial, by simp, ?_⟩
            refine ih (i + 1) _ (by omega) (hF.st (by simp)) (fun j hj => ?_)
            rw [sm_eq, u_if]
            unfold itW
            by_cases e : j = i
            · subst e; rw [if_pos rfl, if_pos (by omega)]
            · rw [if_neg e, hP j hj]
              unfold itW
              by_cases e2 : j < i
              · rw [if_pos e2, if_pos (by omega)]
              · rw [if_neg e2, if_neg (by omega)]
        have := key m 0 N (by omega) Fr.rf (fun j hj => by rw [show 55 + 2 * s' = 54 + 2 * s' + 1 by omega, qN.2.2.2.2 j hj]; unfold itW; rw [if_neg (by omega)])
        exact this
      · rw [if_pos (Classical.not_not.mp hz), if_pos (Classical.not_not.mp hz), m10 1 (by omega)]
        have F1 := h.fnd (n := 1) (by omega)
        exact ⟨trivial, by simp, rfl, F1.1, F1.2⟩
end CW
