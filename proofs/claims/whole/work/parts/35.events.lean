/-! IceHouse: events, what was seen -/
theorem CB.sh {M : Mem} {g : Sg} (h : CB M g) {s : Nat} (hs : s < 4) : RSh M (54 + 2 * s) (gfm g s) (gsz g s) (git g s) := by
  obtain ⟨-, -, -, -, -, -, -, a, b, c, d⟩ := h
  rcases (show s = 0 ∨ s = 1 ∨ s = 2 ∨ s = 3 by omega) with rfl | rfl | rfl | rfl
  · exact a
  · exact b
  · exact c
  · exact d
theorem fS0 {s : Nat} (hs : s < 4) : fld (54 + 2 * s) 5 0 = some (0, 55 + 2 * s, 0) := by
  rcases (show s = 0 ∨ s = 1 ∨ s = 2 ∨ s = 3 by omega) with rfl | rfl | rfl | rfl <;> rfl
theorem fS1 {s : Nat} (hs : s < 4) : fld (54 + 2 * s) 5 1 = some (1, 1, 0) := by
  rcases (show s = 0 ∨ s = 1 ∨ s = 2 ∨ s = 3 by omega) with rfl | rfl | rfl | rfl <;> rfl
theorem fS2 {s : Nat} (hs : s < 4) : fld (54 + 2 * s) 5 2 = some (1, 2, 0) := by
  rcases (show s = 0 ∨ s = 1 ∨ s = 2 ∨ s = 3 by omega) with rfl | rfl | rfl | rfl <;> rfl
theorem aS {s : Nat} (hs : s < 4) : alen (55 + 2 * s) = some 60 := by
  rcases (show s = 0 ∨ s = 1 ∨ s = 2 ∨ s = 3 by omega) with rfl | rfl | rfl | rfl <;> rfl
theorem kS {s : Nat} (hs : s < 4) : cls (54 + 2 * s) = 5 := by
  rcases (show s = 0 ∨ s = 1 ∨ s = 2 ∨ s = 3 by omega) with rfl | rfl | rfl | rfl <;> rfl
theorem gS {s : Nat} (hs : s < 4) : (rarr 53).getD (nI s).toNatClampNeg 0 = 54 + 2 * s := by
  rcases (show s = 0 ∨ s = 1 ∨ s = 2 ∨ s = 3 by omega) with rfl | rfl | rfl | rfl <;> rfl
theorem lS : (rarr 53).length = 4 := rfl
theorem ix_m1 {k : Nat} (hk : k < 2 ^ 31) : (ix k = mI 1) = (k = 0) := by
  unfold ix
  by_cases h : k = 0
  · rw [if_pos h]; simp [h]
  · rw [if_neg h, q_nm (by omega) (by omega) (by omega)]; simp [h]
theorem s_mayBe (a b c : Int32) (M : Mem) : Ev 6 [.int a, .int b, .int c] M (some (.int (nI (rg a 3 && (rg b 24 && rg c 6)).toNat))) M := by
  apply Ev.of
  simp only [E_6, B_6_0, B_6_1, B_6_2, (s_out a (show 2 < 2 ^ 31 by omega) M).ct, (s_out b (show 23 < 2 ^ 31 by omega) M).ct, (s_out c (show 5 < 2 ^ 31 by omega) M).ct, r_iconst_p, r_iconst_m, r_bipush_p, r_bipush_m, r_sipush_p, r_sipush_m, r_ldc_p, r_ldc_m, r_ldc_w_p, r_ldc_w_m, r_lconst_p, r_lconst_m, r_ldc2_w_p, r_ldc2_w_m, r_iload, r_iload_n, r_lload, r_lload_n, r_aload, r_aload_n, r_istore, r_istore_n, r_astore, r_astore_n, r_lstore, r_lstore_n, r_iinc_p, r_iinc_m, r_iadd, r_isub, r_imul, r_iand, r_ior, r_ixor, r_ishl, r_ishr, r_iushr, r_idiv, r_irem, r_ladd, r_lsub, r_lmul, r_ldiv, r_lrem, r_lshl, r_lcmp, r_i2l, r_i2b, r_i2s, r_dup_i, r_dup_r, r_dup2_ii, r_dup2_ir, r_dup2_l, r_pop, r_getfield, r_putfield, r_iaload, r_iastore, r_aaload, r_arraylength, r_if_eq, r_icmp_eq, r_if_ne, r_icmp_ne, r_if_lt, r_icmp_lt, r_if_ge, r_icmp_ge, r_if_gt, r_icmp_gt, r_if_le, r_icmp_le, r_goto, r_switch, r_ireturn0, r_ireturn1, r_lreturn, r_areturn, r_return, r_inv0, r_inv1, r_inv2, r_inv3, r_inv4, r_inv5, r_min, r_max, r_acopy, onI_s, onL_s, onR_s, onO_s, fv0, fv1, fv2, fv3, fp1, fp20, fp21, fp3, tl_s, tl_n, lg0, lg1, lg2, lg3, lg4, lg5, lg6, lg7, lg8, lg9, lg10, lg11, lg12, lg13, lg14, lg15, lg16, lg17, ls0, ls1, ls2, ls3, ls4, ls5, ls6, ls7, ls8, ls9, ls10, ls11, ls12, ls13, ls14, ls15, ls16, ls17, lk0, lk1, lk2, lk3, lk4, lk5, lk6, lk7, lk8, lk9, lk10, lk11, lk12, lk13, lk14, lk15, lk16, lk17, kl_n, kl_i, kl_r, kl_l, Nat.reduceAdd, Nat.reduceLeDiff, not_false_eq_true, r_ins0, r_ins1, r_ins2, r_ins3, r_ins4, r_ins5]
  refine ⟨by simp, ?_⟩
  cases rg a (2 + 1) with
  | false => rw [rF, n10, brc_nF]; exact ⟨Or.inl trivial, rfl, trivial⟩
  | true =>
    rw [rT, brc_neg (fun q => q rfl)]
    refine ⟨by simp, ?_⟩
    cases rg b (23 + 1) with
    | false => rw [rF, n10, brc_nF]; exact ⟨Or.inl trivial, rfl, trivial⟩
    | true =>
      rw [rT, brc_neg (fun q => q rfl)]
      refine ⟨by simp, ?_⟩
      cases rg c (5 + 1) with
      | false => rw [rF, n10, brc_nF]; exact ⟨Or.inl trivial, rfl, trivial⟩
      | true => rw [rT, brc_neg (fun q => q rfl)]; exact ⟨Or.inr trivial, rfl, trivial⟩
theorem s_evAppend {M : Mem} {ne : Nat} {ek ew ec : Nat → Nat} (h : REv M ne ek ew ec) (hn : ne < 8) {k w c : Nat} (hk : k ≤ 2) (hw : w ≤ 23) (hc : c ≤ 5) : Ct 7 [.ref 12, .int (nI k), .int (nI w), .int (nI c)] M (fun r N => r = none ∧ Fr [12, 13, 14, 15] M N ∧ REv N (ne + 1) (un ek ne k) (un ew ne w) (un ec ne c)) := by
  obtain ⟨h1, h2, h3, h4⟩ := h
  simp only [E_7, B_7_0, B_7_1, cB, h1, sm_ne (show ¬ 12 = 13 by decide), sm_ne (show ¬ 12 = 14 by decide), sm_ne (show ¬ 12 = 15 by decide), q_add, nI_clamp (show ne < 2 ^ 31 by omega), r_iconst_p, r_iconst_m, r_bipush_p, r_bipush_m, r_sipush_p, r_sipush_m, r_ldc_p, r_ldc_m, r_ldc_w_p, r_ldc_w_m, r_lconst_p, r_lconst_m, r_ldc2_w_p, r_ldc2_w_m, r_iload, r_iload_n, r_lload, r_lload_n, r_aload, r_aload_n, r_istore, r_istore_n, r_astore, r_astore_n, r_lstore, r_lstore_n, r_iinc_p, r_iinc_m, r_iadd, r_isub, r_imul, r_iand, r_ior, r_ixor, r_ishl, r_ishr, r_iushr, r_idiv, r_irem, r_ladd, r_lsub, r_lmul, r_ldiv, r_lrem, r_lshl, r_lcmp, r_i2l, r_i2b, r_i2s, r_dup_i, r_dup_r, r_dup2_ii, r_dup2_ir, r_dup2_l, r_pop, r_getfield, r_putfield, r_iaload, r_iastore, r_aaload, r_arraylength, r_if_eq, r_icmp_eq, r_if_ne, r_icmp_ne, r_if_lt, r_icmp_lt, r_if_ge, r_icmp_ge, r_if_gt, r_icmp_gt, r_if_le, r_icmp_le, r_goto, r_switch, r_ireturn0, r_ireturn1, r_lreturn, r_areturn, r_return, r_inv0, r_inv1, r_inv2, r_inv3, r_inv4, r_inv5, r_min, r_max, r_acopy, onI_s, onL_s, onR_s, onO_s, fv0, fv1, fv2, fv3, fp1, fp20, fp21, fp3, tl_s, tl_n, lg0, lg1, lg2, lg3, lg4, lg5, lg6, lg7, lg8, lg9, lg10, lg11, lg12, lg13, lg14, lg15, lg16, lg17, ls0, ls1, ls2, ls3, ls4, ls5, ls6, ls7, ls8, ls9, ls10, ls11, ls12, ls13, ls14, ls15, ls16, ls17, lk0, lk1, lk2, lk3, lk4, lk5, lk6, lk7, lk8, lk9, lk10, lk11, lk12, lk13, lk14, lk15, lk16, lk17, kl_n, kl_i, kl_r, kl_l, Nat.reduceAdd, Nat.reduceLeDiff, not_false_eq_true, r_ins0, r_ins1, r_ins2, r_ins3, r_ins4, r_ins5]
  rw [q_le (by omega) (by omega), brc_neg (by omega), inb_n (n := 8) rfl (by omega) (by omega), inb_n (n := 8) rfl (by omega) (by omega), inb_n (n := 8) rfl (by omega) (by omega)]
  refine ⟨hn, hn, hn, trivial, (((Fr.rf.st (by decide)).st (by decide)).st (by decide)).st (by decide), by rw [sm_eq, u_eq], by omega, fun i hi => ?_, fun i => ?_⟩
  · rw [sm_ne (show ¬ 13 = 12 by decide), sm_ne (show ¬ 13 = 15 by decide), sm_ne (show ¬ 13 = 14 by decide), sm_eq, sm_ne (show ¬ 14 = 12 by decide), sm_ne (show ¬ 14 = 15 by decide), sm_eq, sm_ne (show ¬ 14 = 13 by decide), sm_ne (show ¬ 15 = 12 by decide), sm_eq, sm_ne (show ¬ 15 = 14 by decide), sm_ne (show ¬ 15 = 13 by decide)]
    unfold un
    rw [u_if, u_if, u_if]
    by_cases e : i = ne
    · rw [if_pos e, if_pos e, if_pos e, if_pos e, if_pos e, if_pos e]; exact ⟨rfl, rfl, rfl⟩
    · rw [if_neg e, if_neg e, if_neg e, if_neg e, if_neg e, if_neg e]; exact h3 i (by omega)
  · have := h4 i
    unfold un
    split
    · exact ⟨hk, hw, hc⟩
    · exact this
def aEvent (g : Sg) (k w c : Int32) : Int32 := if rg k 3 = true ∧ rg w 24 = true ∧ rg c 6 = true then (if gne g < 8 then nI (gne g + 1) else mI 4) else mI 2
def gEvent (g : Sg) (k w c : Int32) : Sg := if (rg k 3 = true ∧ rg w 24 = true ∧ rg c 6 = true) ∧ gne g < 8 then setEv g (gne g + 1, un (gek g) (gne g) (cl k), un (gew g) (gne g) (cl w), un (gec g) (gne g) (cl c)) else g
def aBack (g : Sg) : Int32 := if gne g = 0 then mI 3 else nI (gne g - 1)
def gBack (g : Sg) : Sg := if gne g = 0 then g else setEv g (gne g - 1, gek g, gew g, gec g)
section CW
variable {M : Mem} {g : Sg}
theorem chgE (h : CI M g) {N : Mem} {q : Nat × (Nat → Nat) × (Nat → Nat) × (Nat → Nat)} (hF : Fr [12, 13, 14, 15] M N) (hE : REv N q.1 q.2.1 q.2.2.1 q.2.2.2) : CI (stM (stM N 0 4 (nI 0)) 20 4 (nI 0)) (setEv g q) ∧ Up M (stM (stM N 0 4 (nI 0)) 20 4 (nI 0)) := by
  obtain ⟨⟨h1, h2, ⟨h3, h4, h5⟩, h6, h7, h8, h9, h10, h11, h12, h13⟩, hS, hT2, hk1, hk2⟩ := h
  have G : ∀ c, c ∉ [0, 12, 13, 14, 15, 20] → stM (stM N 0 4 (nI 0)) 20 4 (nI 0) c = M c := fun c hc => by
    simp only [List.mem_cons, List.not_mem_nil, or_false] at hc
    rw [sm_ne (by omega), sm_ne (by omega)]
    exact hF c (by simp only [List.mem_cons, List.not_mem_nil, or_false]; omega)
  have e2 : ∀ c, c ≠ 0 → c ≠ 20 → stM (stM N 0 4 (nI 0)) 20 4 (nI 0) c = N c := fun c a1 a2 => by rw [sm_ne a2, sm_ne a1]
  refine ⟨⟨⟨?_, ?_, ⟨?_, ?_, ?_⟩, ?_, ?_, ?_, ⟨?_, h9.2⟩, ?_, ?_, ?_, ?_⟩, Or.inl ?_, Or.inl ?_, ?_, ?_⟩, ?_⟩
  · unfold RTx at h1 ⊢
    rw [G 2 (by decide), G 3 (by decide)]
    exact h1
  · unfold RTx at h2 ⊢
    rw [G 4 (by decide), G 5 (by decide)]
    exact h2
  · unfold RS at h3 ⊢
    rw [G 7 (by decide), G 8 (by decide)]
    exact h3
  · unfold ROr at h4 ⊢
    rw [G 9 (by decide), G 10 (by decide), G 11 (by decide)]
    exact h4
  · unfold REv at hE ⊢
    rw [e2 12 (by decide) (by decide), e2 13 (by decide) (by decide), e2 14 (by decide) (by decide), e2 15 (by decide) (by decide)]
    exact hE
  · rw [G 1 (by decide)]; exact h6
  · rw [G 1 (by decide)]; exact h7
  · unfold RSn at h8 ⊢
    rw [G 16 (by decide), G 17 (by decide), G 18 (by decide), G 19 (by decide)]
    exact h8
  · rw [sm_ne (by decide), sm_eq, u_ne (by decide), hF 0 (by decide)]
    exact h9.1
  · unfold RSh at h10 ⊢
    rw [G 54 (by decide), G 55 (by decide)]
    exact h10
  · unfold RSh at h11 ⊢
    rw [G 56 (by decide), G 57 (by decide)]
    exact h11
  · unfold RSh at h12 ⊢
    rw [G 58 (by decide), G 59 (by decide)]
    exact h12
  · unfold RSh at h13 ⊢
    rw [G 60 (by decide), G 61 (by decide)]
    exact h13
  · rw [sm_ne (by decide), sm_eq, u_eq]
  · rw [sm_eq, u_eq]
  · rw [G 21 (by decide)]; exact hk1
  · rw [G 38 (by decide)]; exact hk2
  · intro c hc
    exact G c (by simp only [List.mem_cons, List.not_mem_nil, or_false]; omega)
theorem c_event (h : CI M g) (k w c : Int32) : Ct 58 [.ref 0, .int k, .int w, .int c] M (fun r N => r = some (.int (aEvent g k w c)) ∧ CI N (gEvent g k w c) ∧ Up M N) := by
  have hE := h.1.2.2.1.2.2
  have h8 := hE.2.1
  unfold aEvent gEvent
  simp only [E_58, B_58_0, B_58_1, B_58_2, cB, (s_mayBe k w c M).ct, r_iconst_p, r_iconst_m, r_bipush_p, r_bipush_m, r_sipush_p, r_sipush_m, r_ldc_p, r_ldc_m, r_ldc_w_p, r_ldc_w_m, r_lconst_p, r_lconst_m, r_ldc2_w_p, r_ldc2_w_m, r_iload, r_iload_n, r_lload, r_lload_n, r_aload, r_aload_n, r_istore, r_istore_n, r_astore, r_astore_n, r_lstore, r_lstore_n, r_iinc_p, r_iinc_m, r_iadd, r_isub, r_imul, r_iand, r_ior, r_ixor, r_ishl, r_ishr, r_iushr, r_idiv, r_irem, r_ladd, r_lsub, r_lmul, r_ldiv, r_lrem, r_lshl, r_lcmp, r_i2l, r_i2b, r_i2s, r_dup_i, r_dup_r, r_dup2_ii, r_dup2_ir, r_dup2_l, r_pop, r_getfield, r_putfield, r_iaload, r_iastore, r_aaload, r_arraylength, r_if_eq, r_icmp_eq, r_if_ne, r_icmp_ne, r_if_lt, r_icmp_lt, r_if_ge, r_icmp_ge, r_if_gt, r_icmp_gt, r_if_le, r_icmp_le, r_goto, r_switch, r_ireturn0, r_ireturn1, r_lreturn, r_areturn, r_return, r_inv0, r_inv1, r_inv2, r_inv3, r_inv4, r_inv5, r_min, r_max, r_acopy, onI_s, onL_s, onR_s, onO_s, fv0, fv1, fv2, fv3, fp1, fp20, fp21, fp3, tl_s, tl_n, lg0, lg1, lg2, lg3, lg4, lg5, lg6, lg7, lg8, lg9, lg10, lg11, lg12, lg13, lg14, lg15, lg16, lg17, ls0, ls1, ls2, ls3, ls4, ls5, ls6, ls7, ls8, ls9, ls10, ls11, ls12, ls13, ls14, ls15, ls16, ls17, lk0, lk1, lk2, lk3, lk4, lk5, lk6, lk7, lk8, lk9, lk10, lk11, lk12, lk13, lk14, lk15, lk16, lk17, kl_n, kl_i, kl_r, kl_l, Nat.reduceAdd, Nat.reduceLeDiff, not_false_eq_true, r_ins0, r_ins1, r_ins2, r_ins3, r_ins4, r_ins5]
  refine ⟨by simp, ?_⟩
  by_cases hb : rg k 3 = true ∧ rg w 24 = true ∧ rg c 6 = true
  · rw [hb.1, hb.2.1, hb.2.2, show nI (true && (true && true)).toNat = nI 1 from rfl, n10, brc_nF, hE.1, q_lt (by omega) (by omega), if_pos ⟨rfl, rfl, rfl⟩]
    obtain ⟨b1, e1⟩ := rg_T hb.1
    obtain ⟨b2, e2⟩ := rg_T hb.2.1
    obtain ⟨b3, e3⟩ := rg_T hb.2.2
    refine brc_i (fun hz => ?_) (fun hz => ?_)
    · rw [if_pos hz, if_pos ⟨⟨rfl, rfl, rfl⟩, hz⟩]
      refine ⟨by decide, by simp, ?_⟩
      have hs := s_evAppend hE hz (k := cl k) (w := cl w) (c := cl c) (by omega) (by omega) (by omega)
      rw [← e1, ← e2, ← e3] at hs
      refine hs.mono ?_
      rintro r N ⟨rfl, F1, E1⟩
      simp only [B_58_0, B_58_1, B_58_2, cB, (s_noteChange N).ct, sm_ne (show ¬ 12 = 20 by decide), sm_ne (show ¬ 12 = 0 by decide), r_iconst_p, r_iconst_m, r_bipush_p, r_bipush_m, r_sipush_p, r_sipush_m, r_ldc_p, r_ldc_m, r_ldc_w_p, r_ldc_w_m, r_lconst_p, r_lconst_m, r_ldc2_w_p, r_ldc2_w_m, r_iload, r_iload_n, r_lload, r_lload_n, r_aload, r_aload_n, r_istore, r_istore_n, r_astore, r_astore_n, r_lstore, r_lstore_n, r_iinc_p, r_iinc_m, r_iadd, r_isub, r_imul, r_iand, r_ior, r_ixor, r_ishl, r_ishr, r_iushr, r_idiv, r_irem, r_ladd, r_lsub, r_lmul, r_ldiv, r_lrem, r_lshl, r_lcmp, r_i2l, r_i2b, r_i2s, r_dup_i, r_dup_r, r_dup2_ii, r_dup2_ir, r_dup2_l, r_pop, r_getfield, r_putfield, r_iaload, r_iastore, r_aaload, r_arraylength, r_if_eq, r_icmp_eq, r_if_ne, r_icmp_ne, r_if_lt, r_icmp_lt, r_if_ge, r_icmp_ge, r_if_gt, r_icmp_gt, r_if_le, r_icmp_le, r_goto, r_switch, r_ireturn0, r_ireturn1, r_lreturn, r_areturn, r_return, r_inv0, r_inv1, r_inv2, r_inv3, r_inv4, r_inv5, r_min, r_max, r_acopy, onI_s, onL_s, onR_s, onO_s, fv0, fv1, fv2, fv3, fp1, fp20, fp21, fp3, tl_s, tl_n, lg0, lg1, lg2, lg3, lg4, lg5, lg6, lg7, lg8, lg9, lg10, lg11, lg12, lg13, lg14, lg15, lg16, lg17, ls0, ls1, ls2, ls3, ls4, ls5, ls6, ls7, ls8, ls9, ls10, ls11, ls12, ls13, ls14, ls15, ls16, ls17, lk0, lk1, lk2, lk3, lk4, lk5, lk6, lk7, lk8, lk9, lk10, lk11, lk12, lk13, lk14, lk15, lk16, lk17, kl_n, kl_i, kl_r, kl_l, Nat.reduceAdd, Nat.reduceLeDiff, not_false_eq_true, r_ins0, r_ins1, r_ins2, r_ins3, r_ins4, r_ins5]
      have := chgE h F1 (q := (gne g + 1, un (gek g) (gne g) (cl k), un (gew g) (gne g) (cl w), un (gec g) (gne g) (cl c))) E1
      rw [E1.1]
      exact ⟨trivial, by simp, rfl, this.1, this.2⟩
    · rw [if_neg hz, if_neg (fun q => hz q.2)]; exact ⟨rfl, h, Up.rf⟩
  · rw [if_neg hb, if_neg (fun q => hb q.1)]
    have : (rg k 3 && (rg w 24 && rg c 6)) = false := by
      cases h1 : rg k 3 <;> cases h2 : rg w 24 <;> cases h3 : rg c 6 <;> first | rfl | exact absurd ⟨h1, h2, h3⟩ hb
    rw [this, show nI (false).toNat = nI 0 from rfl, brc_neg (fun q => q rfl)]
    exact ⟨rfl, h, Up.rf⟩
theorem c_back (h : CI M g) : Ct 59 [.ref 0] M (fun r N => r = some (.int (aBack g)) ∧ CI N (gBack g) ∧ Up M N) := by
  have hE := h.1.2.2.1.2.2
  have h8 := hE.2.1
  unfold aBack gBack
  simp only [E_59, B_59_0, B_59_1, cB, r_iconst_p, r_iconst_m, r_bipush_p, r_bipush_m, r_sipush_p, r_sipush_m, r_ldc_p, r_ldc_m, r_ldc_w_p, r_ldc_w_m, r_lconst_p, r_lconst_m, r_ldc2_w_p, r_ldc2_w_m, r_iload, r_iload_n, r_lload, r_lload_n, r_aload, r_aload_n, r_istore, r_istore_n, r_astore, r_astore_n, r_lstore, r_lstore_n, r_iinc_p, r_iinc_m, r_iadd, r_isub, r_imul, r_iand, r_ior, r_ixor, r_ishl, r_ishr, r_iushr, r_idiv, r_irem, r_ladd, r_lsub, r_lmul, r_ldiv, r_lrem, r_lshl, r_lcmp, r_i2l, r_i2b, r_i2s, r_dup_i, r_dup_r, r_dup2_ii, r_dup2_ir, r_dup2_l, r_pop, r_getfield, r_putfield, r_iaload, r_iastore, r_aaload, r_arraylength, r_if_eq, r_icmp_eq, r_if_ne, r_icmp_ne, r_if_lt, r_icmp_lt, r_if_ge, r_icmp_ge, r_if_gt, r_icmp_gt, r_if_le, r_icmp_le, r_goto, r_switch, r_ireturn0, r_ireturn1, r_lreturn, r_areturn, r_return, r_inv0, r_inv1, r_inv2, r_inv3, r_inv4, r_inv5, r_min, r_max, r_acopy, onI_s, onL_s, onR_s, onO_s, fv0, fv1, fv2, fv3, fp1, fp20, fp21, fp3, tl_s, tl_n, lg0, lg1, lg2, lg3, lg4, lg5, lg6, lg7, lg8, lg9, lg10, lg11, lg12, lg13, lg14, lg15, lg16, lg17, ls0, ls1, ls2, ls3, ls4, ls5, ls6, ls7, ls8, ls9, ls10, ls11, ls12, ls13, ls14, ls15, ls16, ls17, lk0, lk1, lk2, lk3, lk4, lk5, lk6, lk7, lk8, lk9, lk10, lk11, lk12, lk13, lk14, lk15, lk16, lk17, kl_n, kl_i, kl_r, kl_l, Nat.reduceAdd, Nat.reduceLeDiff, not_false_eq_true, r_ins0, r_ins1, r_ins2, r_ins3, r_ins4, r_ins5]
  rw [hE.1, q_eq (by omega) (by omega)]
  refine brc_i (fun hz => ?_) (fun hz => ?_)
  · rw [if_neg hz, if_neg hz, q_sub (by omega), (s_noteChange _).ct]
    simp only [B_59_0, B_59_1, cB, sm_ne (show ¬ 12 = 20 by decide), sm_ne (show ¬ 12 = 0 by decide), sm_eq, u_eq, r_iconst_p, r_iconst_m, r_bipush_p, r_bipush_m, r_sipush_p, r_sipush_m, r_ldc_p, r_ldc_m, r_ldc_w_p, r_ldc_w_m, r_lconst_p, r_lconst_m, r_ldc2_w_p, r_ldc2_w_m, r_iload, r_iload_n, r_lload, r_lload_n, r_aload, r_aload_n, r_istore, r_istore_n, r_astore, r_astore_n, r_lstore, r_lstore_n, r_iinc_p, r_iinc_m, r_iadd, r_isub, r_imul, r_iand, r_ior, r_ixor, r_ishl, r_ishr, r_iushr, r_idiv, r_irem, r_ladd, r_lsub, r_lmul, r_ldiv, r_lrem, r_lshl, r_lcmp, r_i2l, r_i2b, r_i2s, r_dup_i, r_dup_r, r_dup2_ii, r_dup2_ir, r_dup2_l, r_pop, r_getfield, r_putfield, r_iaload, r_iastore, r_aaload, r_arraylength, r_if_eq, r_icmp_eq, r_if_ne, r_icmp_ne, r_if_lt, r_icmp_lt, r_if_ge, r_icmp_ge, r_if_gt, r_icmp_gt, r_if_le, r_icmp_le, r_goto, r_switch, r_ireturn0, r_ireturn1, r_lreturn, r_areturn, r_return, r_inv0, r_inv1, r_inv2, r_inv3, r_inv4, r_inv5, r_min, r_max, r_acopy, onI_s, onL_s, onR_s, onO_s, fv0, fv1, fv2, fv3, fp1, fp20, fp21, fp3, tl_s, tl_n, lg0, lg1, lg2, lg3, lg4, lg5, lg6, lg7, lg8, lg9, lg10, lg11, lg12, lg13, lg14, lg15, lg16, lg17, ls0, ls1, ls2, ls3, ls4, ls5, ls6, ls7, ls8, ls9, ls10, ls11, ls12, ls13, ls14, ls15, ls16, ls17, lk0, lk1, lk2, lk3, lk4, lk5, lk6, lk7, lk8, lk9, lk10, lk11, lk12, lk13, lk14, lk15, lk16, lk17, kl_n, kl_i, kl_r, kl_l, Nat.reduceAdd, Nat.reduceLeDiff, not_false_eq_true, r_ins0, r_ins1, r_ins2, r_ins3, r_ins4, r_ins5]
    have E1 : REv (stM M 12 3 (nI (gne g - 1))) (gne g - 1) (gek g) (gew g) (gec g) := ⟨by rw [sm_eq, u_eq], by omega, fun i hi => by rw [sm_ne (by decide), sm_ne (by decide), sm_ne (by decide)]; exact hE.2.2.1 i (by omega), hE.2.2.2⟩
    have := chgE h (Fr.rf.st (by decide)) (q := (gne g - 1, gek g, gew g, gec g)) E1
    exact ⟨trivial, by simp, trivial, this.1, this.2⟩
  · rw [if_pos (Classical.not_not.mp hz), if_pos (Classical.not_not.mp hz)]; exact ⟨rfl, h, Up.rf⟩
/-- a finding -/
theorem CI.fnd (h : CI M g) {n : Nat} (hn : n ≤ 5) : CI (stM M 0 5 (nI n)) (setFd g n) ∧ Up M (stM M 0 5 (nI n)) := by
  obtain ⟨⟨h1, h2, ⟨h3, h4, h5⟩, h6, h7, h8, h9, h10, h11, h12, h13⟩, hS, hT, hk1, hk2⟩ := h
  have G : ∀ c, c ≠ 0 → stM M 0 5 (nI n) c = M c := fun c hc => sm_ne hc
  have hG : ∀ c, 1 ≤ c → stM M 0 5 (nI n) c = M c := fun c hc => sm_ne (by omega)
  have hCB : CB M (setFd g (gfd g)) := ⟨h1, h2, ⟨h3, h4, h5⟩, h6, h7, h8, h9, h10, h11, h12, h13⟩
  refine ⟨⟨?_, ?_, ?_, by rw [G 21 (by decide)]; exact hk1, by rw [G 38 (by decide)]; exact hk2⟩, fun c hc => G c (by omega)⟩
  · unfold CB RTx RS ROr REv RSn RSh
    simp only [G 2 (by decide), G 3 (by decide), G 4 (by decide), G 5 (by decide), G 7 (by decide), G 8 (by decide), G 9 (by decide), G 10 (by decide), G 11 (by decide), G 12 (by decide), G 13 (by decide), G 14 (by decide), G 15 (by decide), G 1 (by decide), G 16 (by decide), G 17 (by decide), G 18 (by decide), G 19 (by decide), G 54 (by decide), G 55 (by decide), G 56 (by decide), G 57 (by decide), G 58 (by decide), G 59 (by decide), G 60 (by decide), G 61 (by decide), Nat.reduceAdd]
    exact ⟨h1, h2, ⟨h3, h4, h5⟩, h6, h7, h8, ⟨by rw [sm_eq, u_eq]; rfl, hn⟩, h10, h11, h12, h13⟩
  · unfold SK at hS ⊢
    rw [G 42 (by decide), sm_eq, u_ne (by decide)]
    rcases hS with a | ⟨a, b, c⟩
    · exact Or.inl a
    · exact Or.inr ⟨a, b.mv (fun c hc => G c (by omega)), c⟩
  · exact hT.mv (by rw [G 20 (by decide)]) (G 36 (by decide))
theorem m10 : ∀ n, n ≤ 5 → mI 10 - nI n = mI (10 + n) := by decide
def rdOk (g : Sg) (s k : Nat) : Bool := decide (3 * k + 2 < gsz g s ∧ gne g + k < 8) && (rg (git g s (3 * k)) 3 && (rg (git g s (3 * k + 1)) 24 && rg (git g s (3 * k + 2)) 6))
def rdN (ok : Nat → Bool) : Nat → Nat → Nat
  | 0, k => k
  | f + 1, k => if ok k = true then rdN ok f (k + 1) else k
theorem rdN_s (ok : Nat → Bool) (f k : Nat) : rdN ok (f + 1) k = if ok k = true then rdN ok f (k + 1) else k := rfl
def rdE (g : Sg) (s m : Nat) : Nat × (Nat → Nat) × (Nat → Nat) × (Nat → Nat) := (gne g + m, (fun j => if gne g ≤ j ∧ j < gne g + m then cl (git g s (3 * (j - gne g))) else gek g j), (fun j => if gne g ≤ j ∧ j < gne g + m then cl (git g s (3 * (j - gne g) + 1)) else gew g j), (fun j => if gne g ≤ j ∧ j < gne g + m then cl (git g s (3 * (j - gne g) + 2)) else gec g j))
theorem rdE_0 (g : Sg) (s : Nat) : rdE g s 0 = (gne g, gek g, gew g, gec g) := by
  unfold rdE
  have e : ∀ j, ¬ (gne g ≤ j ∧ j < gne g) := fun j => by omega
  simp only [Nat.add_zero, e, if_false]
theorem un_s (n m : Nat) (f : Nat → Nat) (a : Nat → Nat) : un (fun j => if n ≤ j ∧ j < n + m then a (j - n) else f j) (n + m) (a m) = fun j => if n ≤ j ∧ j < n + (m + 1) then a (j - n) else f j := by
  funext j
  unfold un
  dsimp only
  by_cases e : j = n + m
  · subst e
    rw [if_pos rfl, if_pos (by omega), Nat.add_sub_cancel_left]
  · rw [if_neg e]
    by_cases q : n ≤ j ∧ j < n + m
    · rw [if_pos q, if_pos (by omega)]
    · rw [if_neg q, if_neg (by omega)]
theorem rdE_s (g : Sg) (s m : Nat) : rdE g s (m + 1) = ((rdE g s m).1 + 1, un (rdE g s m).2.1 (rdE g s m).1 (cl (git g s (3 * m))), un (rdE g s m).2.2.1 (rdE g s m).1 (cl (git g s (3 * m + 1))), un (rdE g s m).2.2.2 (rdE g s m).1 (cl (git g s (3 * m + 2)))) := by
  unfold rdE
  dsimp only
  rw [un_s (gne g) m (gek g) (fun j => cl (git g s (3 * j))), un_s (gne g) m (gew g) (fun j => cl (git g s (3 * j + 1))), un_s (gne g) m (gec g) (fun j => cl (git g s (3 * j + 2)))]
  rfl
def aRead (g : Sg) (x : Int32) : Int32 := if rg x 4 = true then (if gfm g (cl x) = 0 then mI 11 else nI (rdN (rdOk g (cl x)) 9 0)) else mI 2
def gRead (g : Sg) (x : Int32) : Sg := if rg x 4 = true then (if gfm g (cl x) = 0 then setFd g 1 else setEv g (rdE g (cl x) (rdN (rdOk g (cl x)) 9 0))) else g
set_option maxHeartbeats 4000000 in
theorem c_read (h : CI M g) (x : Int32) : Ct 60 [.ref 0, .int x] M (fun r N => r = some (.int (aRead g x)) ∧ CI N (gRead g x) ∧ Up M N) := by
  have hE := h.1.2.2.1.2.2
  have h8 := hE.2.1
  unfold aRead gRead
  simp only [E_60, B_60_0, B_60_1, B_60_2, B_60_4, B_60_5, cB, cH, (s_out x (show 3 < 2 ^ 31 by omega) M).ct, r_iconst_p, r_iconst_m, r_bipush_p, r_bipush_m, r_sipush_p, r_sipush_m, r_ldc_p, r_ldc_m, r_ldc_w_p, r_ldc_w_m, r_lconst_p, r_lconst_m, r_ldc2_w_p, r_ldc2_w_m, r_iload, r_iload_n, r_lload, r_lload_n, r_aload, r_aload_n, r_istore, r_istore_n, r_astore, r_astore_n, r_lstore, r_lstore_n, r_iinc_p, r_iinc_m, r_iadd, r_isub, r_imul, r_iand, r_ior, r_ixor, r_ishl, r_ishr, r_iushr, r_idiv, r_irem, r_ladd, r_lsub, r_lmul, r_ldiv, r_lrem, r_lshl, r_lcmp, r_i2l, r_i2b, r_i2s, r_dup_i, r_dup_r, r_dup2_ii, r_dup2_ir, r_dup2_l, r_pop, r_getfield, r_putfield, r_iaload, r_iastore, r_aaload, r_arraylength, r_if_eq, r_icmp_eq, r_if_ne, r_icmp_ne, r_if_lt, r_icmp_lt, r_if_ge, r_icmp_ge, r_if_gt, r_icmp_gt, r_if_le, r_icmp_le, r_goto, r_switch, r_ireturn0, r_ireturn1, r_lreturn, r_areturn, r_return, r_inv0, r_inv1, r_inv2, r_inv3, r_inv4, r_inv5, r_min, r_max, r_acopy, onI_s, onL_s, onR_s, onO_s, fv0, fv1, fv2, fv3, fp1, fp20, fp21, fp3, tl_s, tl_n, lg0, lg1, lg2, lg3, lg4, lg5, lg6, lg7, lg8, lg9, lg10, lg11, lg12, lg13, lg14, lg15, lg16, lg17, ls0, ls1, ls2, ls3, ls4, ls5, ls6, ls7, ls8, ls9, ls10, ls11, ls12, ls13, ls14, ls15, ls16, ls17, lk0, lk1, lk2, lk3, lk4, lk5, lk6, lk7, lk8, lk9, lk10, lk11, lk12, lk13, lk14, lk15, lk16, lk17, kl_n, kl_i, kl_r, kl_l, Nat.reduceAdd, Nat.reduceLeDiff, not_false_eq_true, r_ins0, r_ins1, r_ins2, r_ins3, r_ins4, r_ins5]
  refine ⟨by simp, ?_⟩
  cases hx : rg x (3 + 1) with
  | false => rw [rF, n10, brc_F, if_neg (by decide), if_neg (by decide)]; exact ⟨rfl, h, Up.rf⟩
  | true =>
    obtain ⟨b1, e1⟩ := rg_T hx
    rw [rT, brc_pos rfl, if_pos rfl, if_pos rfl]
    generalize cl x = s at *
    subst e1
    obtain ⟨s1, s2, s3, s4, s5⟩ := h.1.sh b1
    have gs := gS b1
    simp only [cH] at gs
    rw [gs]
    simp only [B_60_0, B_60_1, B_60_2, B_60_4, B_60_5, cB, cH, fS0 b1, fS1 b1, fS2 b1, kS b1, r_iconst_p, r_iconst_m, r_bipush_p, r_bipush_m, r_sipush_p, r_sipush_m, r_ldc_p, r_ldc_m, r_ldc_w_p, r_ldc_w_m, r_lconst_p, r_lconst_m, r_ldc2_w_p, r_ldc2_w_m, r_iload, r_iload_n, r_lload, r_lload_n, r_aload, r_aload_n, r_istore, r_istore_n, r_astore, r_astore_n, r_lstore, r_lstore_n, r_iinc_p, r_iinc_m, r_iadd, r_isub, r_imul, r_iand, r_ior, r_ixor, r_ishl, r_ishr, r_iushr, r_idiv, r_irem, r_ladd, r_lsub, r_lmul, r_ldiv, r_lrem, r_lshl, r_lcmp, r_i2l, r_i2b, r_i2s, r_dup_i, r_dup_r, r_dup2_ii, r_dup2_ir, r_dup2_l, r_pop, r_getfield, r_putfield, r_iaload, r_iastore, r_aaload, r_arraylength, r_if_eq, r_icmp_eq, r_if_ne, r_icmp_ne, r_if_lt, r_icmp_lt, r_if_ge, r_icmp_ge, r_if_gt, r_icmp_gt, r_if_le, r_icmp_le, r_goto, r_switch, r_ireturn0, r_ireturn1, r_lreturn, r_areturn, r_return, r_inv0, r_inv1, r_inv2, r_inv3, r_inv4, r_inv5, r_min, r_max, r_acopy, onI_s, onL_s, onR_s, onO_s, fv0, fv1, fv2, fv3, fp1, fp20, fp21, fp3, tl_s, tl_n, lg0, lg1, lg2, lg3, lg4, lg5, lg6, lg7, lg8, lg9, lg10, lg11, lg12, lg13, lg14, lg15, lg16, lg17, ls0, ls1, ls2, ls3, ls4, ls5, ls6, ls7, ls8, ls9, ls10, ls11, ls12, ls13, ls14, ls15, ls16, ls17, lk0, lk1, lk2, lk3, lk4, lk5, lk6, lk7, lk8, lk9, lk10, lk11, lk12, lk13, lk14, lk15, lk16, lk17, kl_n, kl_i, kl_r, kl_l, Nat.reduceAdd, Nat.reduceLeDiff, not_false_eq_true, r_ins0, r_ins1, r_ins2, r_ins3, r_ins4, r_ins5]
    rw [s1, ix_m1 (by omega), show ([54, 56, 58, 60] : List Nat).length = 4 from rfl, q_in (by omega) (by omega)]
    refine ⟨b1, brc_i (fun hz => ?_) (fun hz => ?_)⟩
    · rw [if_neg hz, if_neg hz]
      generalize hm : rdN (rdOk g s) 9 0 = m
      generalize hQ : (fun (r : Option Value) (N : Mem) => r = some (.int (nI m)) ∧ CI N (setEv g (rdE g s m)) ∧ Up M N) = Q
      have key : ∀ (f k : Nat) (N : Mem) (u v w : Option Value), k + f = 9 → gne g + k ≤ 8 → Fr [12, 13, 14, 15] M N → REv N (rdE g s k).1 (rdE g s k).2.1 (rdE g s k).2.2.1 (rdE g s k).2.2.2 → rdN (rdOk g s) f k = m → WP 60 [] 3 [some (.ref 0), some (.int (nI s)), some (.ref (54 + 2 * s)), some (.ref 12), some (.int (nI (gne g))), some (.int (nI (3 * k))), u, v, w] [] N Q := by
        intro f
        induction f with
        | zero => intro k N u v w hk hk8; omega
        | succ f ih =>
          intro k N u v w hk hk8 hF hR hr
          have hR1 : N 12 3 = nI (gne g + k) := hR.1
          have out : ∀ (u v w : Option Value), m = k → WP 60 [] 5 [some (.ref 0), some (.int (nI s)), some (.ref (54 + 2 * s)), some (.ref 12), some (.int (nI (gne g))), some (.int (nI (3 * k))), u, v, w] [] N Q := by
            intro u v w e
            subst e
            simp only [B_60_0, B_60_1, B_60_2, B_60_4, B_60_5, cB, cH, (s_noteChange N).ct, sm_ne (show ¬ 12 = 20 by decide), sm_ne (show ¬ 12 = 0 by decide), r_iconst_p, r_iconst_m, r_bipush_p, r_bipush_m, r_sipush_p, r_sipush_m, r_ldc_p, r_ldc_m, r_ldc_w_p, r_ldc_w_m, r_lconst_p, r_lconst_m, r_ldc2_w_p, r_ldc2_w_m, r_iload, r_iload_n, r_lload, r_lload_n, r_aload, r_aload_n, r_istore, r_istore_n, r_astore, r_astore_n, r_lstore, r_lstore_n, r_iinc_p, r_iinc_m, r_iadd, r_isub, r_imul, r_iand, r_ior, r_ixor, r_ishl, r_ishr, r_iushr, r_idiv, r_irem, r_ladd, r_lsub, r_lmul, r_ldiv, r_lrem, r_lshl, r_lcmp, r_i2l, r_i2b, r_i2s, r_dup_i, r_dup_r, r_dup2_ii, r_dup2_ir, r_dup2_l, r_pop, r_getfield, r_putfield, r_iaload, r_iastore, r_aaload, r_arraylength, r_if_eq, r_icmp_eq, r_if_ne, r_icmp_ne, r_if_lt, r_icmp_lt, r_if_ge, r_icmp_ge, r_if_gt, r_icmp_gt, r_if_le, r_icmp_le, r_goto, r_switch, r_ireturn0, r_ireturn1, r_lreturn, r_areturn, r_return, r_inv0, r_inv1, r_inv2, r_inv3, r_inv4, r_inv5, r_min, r_max, r_acopy, onI_s, onL_s, onR_s, onO_s, fv0, fv1, fv2, fv3, fp1, fp20, fp21, fp3, tl_s, tl_n, lg0, lg1, lg2, lg3, lg4, lg5, lg6, lg7, lg8, lg9, lg10, lg11, lg12, lg13, lg14, lg15, lg16, lg17, ls0, ls1, ls2, ls3, ls4, ls5, ls6, ls7, ls8, ls9, ls10, ls11, ls12, ls13, ls14, ls15, ls16, ls17, lk0, lk1, lk2, lk3, lk4, lk5, lk6, lk7, lk8, lk9, lk10, lk11, lk12, lk13, lk14, lk15, lk16, lk17, kl_n, kl_i, kl_r, kl_l, Nat.reduceAdd, Nat.reduceLeDiff, not_false_eq_true, r_ins0, r_ins1, r_ins2, r_ins3, r_ins4, r_ins5]
            rw [hR1, q_sub (by omega), Nat.add_sub_cancel_left, ← hQ]
            have := chgE h hF (q := rdE g s m) hR
            exact ⟨trivial, by simp, rfl, this.1, this.2⟩
          have eN : ∀ c, 54 ≤ c → N c = M c := fun c hc => hF c (by simp only [List.mem_cons, List.not_mem_nil, or_false]; omega)
          rw [rdN_s] at hr
          rw [B_60_3]
          simp only [B_60_0, B_60_1, B_60_2, B_60_4, cB, cH, fS0 b1, fS1 b1, fS2 b1, kS b1, q_add, (s_mayBe _ _ _ N).ct, r_iconst_p, r_iconst_m, r_bipush_p, r_bipush_m, r_sipush_p, r_sipush_m, r_ldc_p, r_ldc_m, r_ldc_w_p, r_ldc_w_m, r_lconst_p, r_lconst_m, r_ldc2_w_p, r_ldc2_w_m, r_iload, r_iload_n, r_lload, r_lload_n, r_aload, r_aload_n, r_istore, r_istore_n, r_astore, r_astore_n, r_lstore, r_lstore_n, r_iinc_p, r_iinc_m, r_iadd, r_isub, r_imul, r_iand, r_ior, r_ixor, r_ishl, r_ishr, r_iushr, r_idiv, r_irem, r_ladd, r_lsub, r_lmul, r_ldiv, r_lrem, r_lshl, r_lcmp, r_i2l, r_i2b, r_i2s, r_dup_i, r_dup_r, r_dup2_ii, r_dup2_ir, r_dup2_l, r_pop, r_getfield, r_putfield, r_iaload, r_iastore, r_aaload, r_arraylength, r_if_eq, r_icmp_eq, r_if_ne, r_icmp_ne, r_if_lt, r_icmp_lt, r_if_ge, r_icmp_ge, r_if_gt, r_icmp_gt, r_if_le, r_icmp_le, r_goto, r_switch, r_ireturn0, r_ireturn1, r_lreturn, r_areturn, r_return, r_inv0, r_inv1, r_inv2, r_inv3, r_inv4, r_inv5, r_min, r_max, r_acopy, onI_s, onL_s, onR_s, onO_s, fv0, fv1, fv2, fv3, fp1, fp20, fp21, fp3, tl_s, tl_n, lg0, lg1, lg2, lg3, lg4, lg5, lg6, lg7, lg8, lg9, lg10, lg11, lg12, lg13, lg14, lg15, lg16, lg17, ls0, ls1, ls2, ls3, ls4, ls5, ls6, ls7, ls8, ls9, ls10, ls11, ls12, ls13, ls14, ls15, ls16, ls17, lk0, lk1, lk2, lk3, lk4, lk5, lk6, lk7, lk8, lk9, lk10, lk11, lk12, lk13, lk14, lk15, lk16, lk17, kl_n, kl_i, kl_r, kl_l, Nat.reduceAdd, Nat.reduceLeDiff, not_false_eq_true, r_ins0, r_ins1, r_ins2, r_ins3, r_ins4, r_ins5]
          rw [eN (54 + 2 * s) (by omega), s3, hR1, q_le (by omega) (by omega), q_le (by omega) (by omega)]
          by_cases c1 : gsz g s ≤ 3 * k + 2
          · rw [brc_pos c1]
            refine out _ _ _ ?_
            rw [if_neg (by unfold rdOk; rw [decide_eq_false (by omega), Bool.false_and]; decide)] at hr
            exact hr.symm
          · rw [brc_neg c1]
            by_cases c2 : 8 ≤ gne g + k
            · rw [brc_pos c2]
              refine out _ _ _ ?_
              rw [if_neg (by unfold rdOk; rw [decide_eq_false (by omega), Bool.false_and]; decide)] at hr
              exact hr.symm
            · rw [brc_neg c2, inb_n (aS b1) (by omega) (by omega), inb_n (aS b1) (by omega) (by omega), inb_n (aS b1) (by omega) (by omega), nI_clamp (by omega), nI_clamp (by omega), nI_clamp (by omega), eN (55 + 2 * s) (by omega), show 55 + 2 * s = 54 + 2 * s + 1 by omega, s5 (3 * k) (by omega), s5 (3 * k + 1) (by omega), s5 (3 * k + 2) (by omega)]
              refine ⟨by omega, by omega, by omega, by simp, ?_⟩
              have eo : rdOk g s k = (rg (git g s (3 * k)) 3 && (rg (git g s (3 * k + 1)) 24 && rg (git g s (3 * k + 2)) 6)) := by unfold rdOk; rw [decide_eq_true (by omega), Bool.true_and]
              rw [eo] at hr
              cases hb : (rg (git g s (3 * k)) 3 && (rg (git g s (3 * k + 1)) 24 && rg (git g s (3 * k + 2)) 6)) with
              | false =>
                rw [show nI (false).toNat = nI 0 from rfl, brc_neg (fun q => q rfl)]
                rw [hb, if_neg (by decide)] at hr
                exact out _ _ _ hr.symm
              | true =>
                rw [show nI (true).toNat = nI 1 from rfl, n10, brc_nF]
                rw [if_pos hb] at hr
                simp only [Bool.and_eq_true] at hb
                obtain ⟨a1, f1⟩ := rg_T hb.1
                obtain ⟨a2, f2⟩ := rg_T hb.2.1
                obtain ⟨a3, f3⟩ := rg_T hb.2.2
                refine ⟨by decide, by simp, ?_⟩
                have hs := s_evAppend hR (show gne g + k < 8 by omega) (k := cl (git g s (3 * k))) (w := cl (git g s (3 * k + 1))) (c := cl (git g s (3 * k + 2))) (by omega) (by omega) (by omega)
                rw [← f1, ← f2, ← f3] at hs
                refine hs.mono ?_
                rintro r N' ⟨rfl, F', E'⟩
                simp only [B_60_0, B_60_1, B_60_2, B_60_4, B_60_5, cB, cH, q_add, r_iconst_p, r_iconst_m, r_bipush_p, r_bipush_m, r_sipush_p, r_sipush_m, r_ldc_p, r_ldc_m, r_ldc_w_p, r_ldc_w_m, r_lconst_p, r_lconst_m, r_ldc2_w_p, r_ldc2_w_m, r_iload, r_iload_n, r_lload, r_lload_n, r_aload, r_aload_n, r_istore, r_istore_n, r_astore, r_astore_n, r_lstore, r_lstore_n, r_iinc_p, r_iinc_m, r_iadd, r_isub, r_imul, r_iand, r_ior, r_ixor, r_ishl, r_ishr, r_iushr, r_idiv, r_irem, r_ladd, r_lsub, r_lmul, r_ldiv, r_lrem, r_lshl, r_lcmp, r_i2l, r_i2b, r_i2s, r_dup_i, r_dup_r, r_dup2_ii, r_dup2_ir, r_dup2_l, r_pop, r_getfield, r_putfield, r_iaload, r_iastore, r_aaload, r_arraylength, r_if_eq, r_icmp_eq, r_if_ne, r_icmp_ne, r_if_lt, r_icmp_lt, r_if_ge, r_icmp_ge, r_if_gt, r_icmp_gt, r_if_le, r_icmp_le, r_goto, r_switch, r_ireturn0, r_ireturn1, r_lreturn, r_areturn, r_return, r_inv0, r_inv1, r_inv2, r_inv3, r_inv4, r_inv5, r_min, r_max, r_acopy, onI_s, onL_s, onR_s, onO_s, fv0, fv1, fv2, fv3, fp1, fp20, fp21, fp3, tl_s, tl_n, lg0, lg1, lg2, lg3, lg4, lg5, lg6, lg7, lg8, lg9, lg10, lg11, lg12, lg13, lg14, lg15, lg16, lg17, ls0, ls1, ls2, ls3, ls4, ls5, ls6, ls7, ls8, ls9, ls10, ls11, ls12, ls13, ls14, ls15, ls16, ls17, lk0, lk1, lk2, lk3, lk4, lk5, lk6, lk7, lk8, lk9, lk10, lk11, lk12, lk13, lk14, lk15, lk16, lk17, kl_n, kl_i, kl_r, kl_l, Nat.reduceAdd, Nat.reduceLeDiff, not_false_eq_true, r_ins0, r_ins1, r_ins2, r_ins3, r_ins4, r_ins5]
                have hh := ih (k + 1) N' (some (.int (git g s (3 * k)))) (some (.int (git g s (3 * k + 1)))) (some (.int (git g s (3 * k + 2)))) (by omega) (by omega) (hF.tr F' (fun _ h => h) (by decide)) (by rw [rdE_s]; exact E') hr
                rw [show 3 * (k + 1) = 3 * k + 3 by omega] at hh
                exact hh
      rw [hE.1]
      exact key 9 0 M none none none (by omega) (by omega) Fr.rf (by rw [rdE_0]; exact hE) hm
    · rw [if_pos (Classical.not_not.mp hz), if_pos (Classical.not_not.mp hz)]
      rw [(s_found M 1).ct]
      simp only [B_60_0, B_60_1, B_60_2, B_60_4, B_60_5, cB, r_iconst_p, r_iconst_m, r_bipush_p, r_bipush_m, r_sipush_p, r_sipush_m, r_ldc_p, r_ldc_m, r_ldc_w_p, r_ldc_w_m, r_lconst_p, r_lconst_m, r_ldc2_w_p, r_ldc2_w_m, r_iload, r_iload_n, r_lload, r_lload_n, r_aload, r_aload_n, r_istore, r_istore_n, r_astore, r_astore_n, r_lstore, r_lstore_n, r_iinc_p, r_iinc_m, r_iadd, r_isub, r_imul, r_iand, r_ior, r_ixor, r_ishl, r_ishr, r_iushr, r_idiv, r_irem, r_ladd, r_lsub, r_lmul, r_ldiv, r_lrem, r_lshl, r_lcmp, r_i2l, r_i2b, r_i2s, r_dup_i, r_dup_r, r_dup2_ii, r_dup2_ir, r_dup2_l, r_pop, r_getfield, r_putfield, r_iaload, r_iastore, r_aaload, r_arraylength, r_if_eq, r_icmp_eq, r_if_ne, r_icmp_ne, r_if_lt, r_icmp_lt, r_if_ge, r_icmp_ge, r_if_gt, r_icmp_gt, r_if_le, r_icmp_le, r_goto, r_switch, r_ireturn0, r_ireturn1, r_lreturn, r_areturn, r_return, r_inv0, r_inv1, r_inv2, r_inv3, r_inv4, r_inv5, r_min, r_max, r_acopy, onI_s, onL_s, onR_s, onO_s, fv0, fv1, fv2, fv3, fp1, fp20, fp21, fp3, tl_s, tl_n, lg0, lg1, lg2, lg3, lg4, lg5, lg6, lg7, lg8, lg9, lg10, lg11, lg12, lg13, lg14, lg15, lg16, lg17, ls0, ls1, ls2, ls3, ls4, ls5, ls6, ls7, ls8, ls9, ls10, ls11, ls12, ls13, ls14, ls15, ls16, ls17, lk0, lk1, lk2, lk3, lk4, lk5, lk6, lk7, lk8, lk9, lk10, lk11, lk12, lk13, lk14, lk15, lk16, lk17, kl_n, kl_i, kl_r, kl_l, Nat.reduceAdd, Nat.reduceLeDiff, not_false_eq_true, r_ins0, r_ins1, r_ins2, r_ins3, r_ins4, r_ins5]
      have := h.fnd (n := 1) (by omega)
      rw [m10 1 (by omega)]
      exact ⟨trivial, by simp, rfl, this.1, this.2⟩
def aSeen (g : Sg) (w c v : Int32) : Int32 := if rg w 24 = true ∧ rg c 6 = true ∧ rg v 7 = true then (if gns g < 8 then nI (gns g + 1) else mI 4) else mI 2
def gSeen (g : Sg) (w c v : Int32) : Sg := if (rg w 24 = true ∧ rg c 6 = true ∧ rg v 7 = true) ∧ gns g < 8 then setSn g (gns g + 1, un (gnw g) (gns g) (cl w), un (gnc g) (gns g) (cl c), un (gnv g) (gns g) (cl v)) else g
theorem CI.sn (h : CI M g) {N : Mem} {q : Nat × (Nat → Nat) × (Nat → Nat) × (Nat → Nat)} (hF : Fr [16, 17, 18, 19] M N) (hE : RSn N q.1 q.2.1 q.2.2.1 q.2.2.2) : CI N (setSn g q) ∧ Up M N := by
  obtain ⟨⟨h1, h2, ⟨h3, h4, h5⟩, h6, h7, h8, h9, h10, h11, h12, h13⟩, hS, hT, hk1, hk2⟩ := h
  have G : ∀ c, c < 16 ∨ 19 < c → N c = M c := fun c hc => hF c (by simp only [List.mem_cons, List.not_mem_nil, or_false]; omega)
  refine ⟨⟨⟨?_, ?_, ⟨?_, ?_, ?_⟩, ?_, ?_, hE, ⟨?_, h9.2⟩, ?_, ?_, ?_, ?_⟩, ?_, ?_, ?_, ?_⟩, fun c hc => G c (by omega)⟩
  · unfold RTx at h1 ⊢
    rw [G 2 (by decide), G 3 (by decide)]
    exact h1
  · unfold RTx at h2 ⊢
    rw [G 4 (by decide), G 5 (by decide)]
    exact h2
  · unfold RS at h3 ⊢
    rw [G 7 (by decide), G 8 (by decide)]
    exact h3
  · unfold ROr at h4 ⊢
    rw [G 9 (by decide), G 10 (by decide), G 11 (by decide)]
    exact h4
  · unfold REv at h5 ⊢
    rw [G 12 (by decide), G 13 (by decide), G 14 (by decide), G 15 (by decide)]
    exact h5
  · rw [G 1 (by decide)]; exact h6
  · rw [G 1 (by decide)]; exact h7
  · rw [G 0 (by decide)]; exact h9.1
  · unfold RSh at h10 ⊢
    rw [G 54 (by decide), G 55 (by decide)]
    exact h10
  · unfold RSh at h11 ⊢
    rw [G 56 (by decide), G 57 (by decide)]
    exact h11
  · unfold RSh at h12 ⊢
    rw [G 58 (by decide), G 59 (by decide)]
    exact h12
  · unfold RSh at h13 ⊢
    rw [G 60 (by decide), G 61 (by decide)]
    exact h13
  · unfold SK at hS ⊢
    rw [G 0 (by decide), G 42 (by decide)]
    rcases hS with a | ⟨a, b, c⟩
    · exact Or.inl a
    · exact Or.inr ⟨a, b.mv (fun c hc => G c (by omega)), c⟩
  · exact hT.mv (by rw [G 20 (by decide)]) (G 36 (by decide))
  · rw [G 21 (by decide)]; exact hk1
  · rw [G 38 (by decide)]; exact hk2
theorem c_seen (h : CI M g) (w c v : Int32) : Ct 74 [.ref 0, .int w, .int c, .int v] M (fun r N => r = some (.int (aSeen g w c v)) ∧ CI N (gSeen g w c v) ∧ Up M N) := by
  obtain ⟨n1, n2, n3, n4⟩ := h.1.2.2.2.2.2.1
  unfold aSeen gSeen
  simp only [E_74, B_74_0, B_74_1, B_74_2, B_74_3, cB, (s_out w (show 23 < 2 ^ 31 by omega) M).ct, (s_out c (show 5 < 2 ^ 31 by omega) M).ct, (s_out v (show 6 < 2 ^ 31 by omega) M).ct, r_iconst_p, r_iconst_m, r_bipush_p, r_bipush_m, r_sipush_p, r_sipush_m, r_ldc_p, r_ldc_m, r_ldc_w_p, r_ldc_w_m, r_lconst_p, r_lconst_m, r_ldc2_w_p, r_ldc2_w_m, r_iload, r_iload_n, r_lload, r_lload_n, r_aload, r_aload_n, r_istore, r_istore_n, r_astore, r_astore_n, r_lstore, r_lstore_n, r_iinc_p, r_iinc_m, r_iadd, r_isub, r_imul, r_iand, r_ior, r_ixor, r_ishl, r_ishr, r_iushr, r_idiv, r_irem, r_ladd, r_lsub, r_lmul, r_ldiv, r_lrem, r_lshl, r_lcmp, r_i2l, r_i2b, r_i2s, r_dup_i, r_dup_r, r_dup2_ii, r_dup2_ir, r_dup2_l, r_pop, r_getfield, r_putfield, r_iaload, r_iastore, r_aaload, r_arraylength, r_if_eq, r_icmp_eq, r_if_ne, r_icmp_ne, r_if_lt, r_icmp_lt, r_if_ge, r_icmp_ge, r_if_gt, r_icmp_gt, r_if_le, r_icmp_le, r_goto, r_switch, r_ireturn0, r_ireturn1, r_lreturn, r_areturn, r_return, r_inv0, r_inv1, r_inv2, r_inv3, r_inv4, r_inv5, r_min, r_max, r_acopy, onI_s, onL_s, onR_s, onO_s, fv0, fv1, fv2, fv3, fp1, fp20, fp21, fp3, tl_s, tl_n, lg0, lg1, lg2, lg3, lg4, lg5, lg6, lg7, lg8, lg9, lg10, lg11, lg12, lg13, lg14, lg15, lg16, lg17, ls0, ls1, ls2, ls3, ls4, ls5, ls6, ls7, ls8, ls9, ls10, ls11, ls12, ls13, ls14, ls15, ls16, ls17, lk0, lk1, lk2, lk3, lk4, lk5, lk6, lk7, lk8, lk9, lk10, lk11, lk12, lk13, lk14, lk15, lk16, lk17, kl_n, kl_i, kl_r, kl_l, Nat.reduceAdd, Nat.reduceLeDiff, not_false_eq_true, r_ins0, r_ins1, r_ins2, r_ins3, r_ins4, r_ins5]
  refine ⟨by simp, ?_⟩
  cases hw : rg w (23 + 1) with
  | false => rw [rF, n10, brc_nF, if_neg (fun q => by cases q.1), if_neg (fun q => by cases q.1.1)]; exact ⟨rfl, h, Up.rf⟩
  | true =>
    rw [rT, brc_neg (fun q => q rfl)]
    refine ⟨by simp, ?_⟩
    cases hc : rg c (5 + 1) with
    | false => rw [rF, n10, brc_nF, if_neg (fun q => by cases q.2.1), if_neg (fun q => by cases q.1.2.1)]; exact ⟨rfl, h, Up.rf⟩
    | true =>
      rw [rT, brc_neg (fun q => q rfl)]
      refine ⟨by simp, ?_⟩
      cases hv : rg v (6 + 1) with
      | false => rw [rF, n10, brc_F, if_neg (fun q => by cases q.2.2), if_neg (fun q => by cases q.1.2.2)]; exact ⟨rfl, h, Up.rf⟩
      | true =>
        obtain ⟨b1, e1⟩ := rg_T hw
        obtain ⟨b2, e2⟩ := rg_T hc
        obtain ⟨b3, e3⟩ := rg_T hv
        rw [rT, brc_pos rfl, if_pos ⟨rfl, rfl, rfl⟩, n1, q_lt (by omega) (by omega)]
        generalize cl w = j at *
        generalize cl c = k at *
        generalize cl v = y at *
        subst e1
        subst e2
        subst e3
        refine brc_i (fun hz => ?_) (fun hz => ?_)
        · rw [if_pos hz, if_pos ⟨⟨rfl, rfl, rfl⟩, hz⟩]
          refine ⟨by decide, by simp, ?_⟩
          simp only [E_25, B_25_0, B_25_1, cB, n1, sm_ne (show ¬ 16 = 17 by decide), sm_ne (show ¬ 16 = 18 by decide), sm_ne (show ¬ 16 = 19 by decide), q_add, nI_clamp (show gns g < 2 ^ 31 by omega), r_iconst_p, r_iconst_m, r_bipush_p, r_bipush_m, r_sipush_p, r_sipush_m, r_ldc_p, r_ldc_m, r_ldc_w_p, r_ldc_w_m, r_lconst_p, r_lconst_m, r_ldc2_w_p, r_ldc2_w_m, r_iload, r_iload_n, r_lload, r_lload_n, r_aload, r_aload_n, r_istore, r_istore_n, r_astore, r_astore_n, r_lstore, r_lstore_n, r_iinc_p, r_iinc_m, r_iadd, r_isub, r_imul, r_iand, r_ior, r_ixor, r_ishl, r_ishr, r_iushr, r_idiv, r_irem, r_ladd, r_lsub, r_lmul, r_ldiv, r_lrem, r_lshl, r_lcmp, r_i2l, r_i2b, r_i2s, r_dup_i, r_dup_r, r_dup2_ii, r_dup2_ir, r_dup2_l, r_pop, r_getfield, r_putfield, r_iaload, r_iastore, r_aaload, r_arraylength, r_if_eq, r_icmp_eq, r_if_ne, r_icmp_ne, r_if_lt, r_icmp_lt, r_if_ge, r_icmp_ge, r_if_gt, r_icmp_gt, r_if_le, r_icmp_le, r_goto, r_switch, r_ireturn0, r_ireturn1, r_lreturn, r_areturn, r_return, r_inv0, r_inv1, r_inv2, r_inv3, r_inv4, r_inv5, r_min, r_max, r_acopy, onI_s, onL_s, onR_s, onO_s, fv0, fv1, fv2, fv3, fp1, fp20, fp21, fp3, tl_s, tl_n, lg0, lg1, lg2, lg3, lg4, lg5, lg6, lg7, lg8, lg9, lg10, lg11, lg12, lg13, lg14, lg15, lg16, lg17, ls0, ls1, ls2, ls3, ls4, ls5, ls6, ls7, ls8, ls9, ls10, ls11, ls12, ls13, ls14, ls15, ls16, ls17, lk0, lk1, lk2, lk3, lk4, lk5, lk6, lk7, lk8, lk9, lk10, lk11, lk12, lk13, lk14, lk15, lk16, lk17, kl_n, kl_i, kl_r, kl_l, Nat.reduceAdd, Nat.reduceLeDiff, not_false_eq_true, r_ins0, r_ins1, r_ins2, r_ins3, r_ins4, r_ins5]
          rw [q_le (by omega) (by omega), brc_neg (by omega), inb_n (n := 8) rfl (by omega) (by omega), inb_n (n := 8) rfl (by omega) (by omega), inb_n (n := 8) rfl (by omega) (by omega), sm_eq, u_eq]
          have := h.sn (N := stM (stM (stM (stM M 17 (gns g) (nI j)) 18 (gns g) (nI k)) 19 (gns g) (nI y)) 16 3 (nI (gns g + 1))) (q := (gns g + 1, un (gnw g) (gns g) j, un (gnc g) (gns g) k, un (gnv g) (gns g) y)) ((((Fr.rf.st (by decide)).st (by decide)).st (by decide)).st (by decide)) ⟨by rw [sm_eq, u_eq], by simp only; omega, fun i hi => ?_, fun i => ?_⟩
          · exact ⟨hz, hz, hz, rfl, this.1, this.2⟩
          · rw [sm_ne (show ¬ 17 = 16 by decide), sm_ne (show ¬ 17 = 19 by decide), sm_ne (show ¬ 17 = 18 by decide), sm_eq, sm_ne (show ¬ 18 = 16 by decide), sm_ne (show ¬ 18 = 19 by decide), sm_eq, sm_ne (show ¬ 18 = 17 by decide), sm_ne (show ¬ 19 = 16 by decide), sm_eq, sm_ne (show ¬ 19 = 18 by decide), sm_ne (show ¬ 19 = 17 by decide)]
            unfold un
            rw [u_if, u_if, u_if]
            simp only at hi
            dsimp only
            by_cases e : i = gns g
            · rw [if_pos e, if_pos e, if_pos e, if_pos e, if_pos e, if_pos e]; exact ⟨rfl, rfl, rfl⟩
            · rw [if_neg e, if_neg e, if_neg e, if_neg e, if_neg e, if_neg e]; exact n3 i (by omega)
          · have := n4 i
            unfold un
            simp only
            split
            · omega
            · exact this
        · rw [if_neg hz, if_neg (fun q => hz q.2)]; exact ⟨rfl, h, Up.rf⟩
def aForget (g : Sg) : Int32 := nI (gns g)
def gForget (g : Sg) : Sg := setSn g (0, gnw g, gnc g, gnv g)
theorem c_forget (h : CI M g) : Ct 75 [.ref 0] M (fun r N => r = some (.int (aForget g)) ∧ CI N (gForget g) ∧ Up M N) := by
  obtain ⟨n1, n2, n3, n4⟩ := h.1.2.2.2.2.2.1
  simp only [E_75, B_75_0, cB, n1, r_iconst_p, r_iconst_m, r_bipush_p, r_bipush_m, r_sipush_p, r_sipush_m, r_ldc_p, r_ldc_m, r_ldc_w_p, r_ldc_w_m, r_lconst_p, r_lconst_m, r_ldc2_w_p, r_ldc2_w_m, r_iload, r_iload_n, r_lload, r_lload_n, r_aload, r_aload_n, r_istore, r_istore_n, r_astore, r_astore_n, r_lstore, r_lstore_n, r_iinc_p, r_iinc_m, r_iadd, r_isub, r_imul, r_iand, r_ior, r_ixor, r_ishl, r_ishr, r_iushr, r_idiv, r_irem, r_ladd, r_lsub, r_lmul, r_ldiv, r_lrem, r_lshl, r_lcmp, r_i2l, r_i2b, r_i2s, r_dup_i, r_dup_r, r_dup2_ii, r_dup2_ir, r_dup2_l, r_pop, r_getfield, r_putfield, r_iaload, r_iastore, r_aaload, r_arraylength, r_if_eq, r_icmp_eq, r_if_ne, r_icmp_ne, r_if_lt, r_icmp_lt, r_if_ge, r_icmp_ge, r_if_gt, r_icmp_gt, r_if_le, r_icmp_le, r_goto, r_switch, r_ireturn0, r_ireturn1, r_lreturn, r_areturn, r_return, r_inv0, r_inv1, r_inv2, r_inv3, r_inv4, r_inv5, r_min, r_max, r_acopy, onI_s, onL_s, onR_s, onO_s, fv0, fv1, fv2, fv3, fp1, fp20, fp21, fp3, tl_s, tl_n, lg0, lg1, lg2, lg3, lg4, lg5, lg6, lg7, lg8, lg9, lg10, lg11, lg12, lg13, lg14, lg15, lg16, lg17, ls0, ls1, ls2, ls3, ls4, ls5, ls6, ls7, ls8, ls9, ls10, ls11, ls12, ls13, ls14, ls15, ls16, ls17, lk0, lk1, lk2, lk3, lk4, lk5, lk6, lk7, lk8, lk9, lk10, lk11, lk12, lk13, lk14, lk15, lk16, lk17, kl_n, kl_i, kl_r, kl_l, Nat.reduceAdd, Nat.reduceLeDiff, not_false_eq_true, r_ins0, r_ins1, r_ins2, r_ins3, r_ins4, r_ins5]
  have := h.sn (N := stM M 16 3 (nI 0)) (q := (0, gnw g, gnc g, gnv g)) (Fr.rf.st (by decide)) ⟨by rw [sm_eq, u_eq], by simp only; omega, fun i hi => by simp only at hi; omega, n4⟩
  exact ⟨rfl, this.1, this.2⟩
end CW
