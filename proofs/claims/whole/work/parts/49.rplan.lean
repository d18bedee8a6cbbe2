/-! the reference: plans: what they keep -/
/-- texts, what was seen, sheets, finding -/
def ST (M : Mem) (g : Sg) : Prop := TxM M 0 41 (n0 g) (t0 g) ∧ TxM M 1 35 (n1 g) (t1 g) ∧ SnM M (gns g) (gnw g) (gnc g) (gnv g) ∧ ShM M (gfm g) (gsz g) (git g) ∧ (M 62 4 = nI (gfd g) ∧ gfd g ≤ 5)
theorem ST.mv {M N : Mem} {g : Sg} (h : ST M g) (e : ∀ c, c = 63 ∨ c = 64 ∨ c = 65 ∨ c = 67 ∨ c = 68 ∨ c = 80 → N c = M c) (e2 : ∀ j, j = 4 ∨ j = 24 → N 62 j = M 62 j) : ST N g := by
  unfold ST TxM SnM ShM at h ⊢
  rw [e 63 (by omega), e 64 (by omega), e 65 (by omega), e 67 (by omega), e 68 (by omega), e 80 (by omega), e2 4 (by omega), e2 24 (by omega)]
  exact h
section RP
variable {M N : Mem} {B : Col} {no ne gn cv a b : Nat} {ow oq ek ew ec : Nat → Nat} {g : Sg}
theorem LV.mv (h : LV M B no ow oq ne ek ew ec gn cv a b) (e : ∀ c, c = 69 ∨ c = 70 ∨ c = 71 ∨ c = 72 → N c = M c) (e2 : ∀ j, j = 9 ∨ j = 11 ∨ j = 13 ∨ j = 14 ∨ j = 15 ∨ j = 16 → N 62 j = M 62 j) : LV N B no ow oq ne ek ew ec gn cv a b := by
  unfold LV RG OrM EvM at h ⊢
  rw [e 69 (by omega), e 70 (by omega), e 71 (by omega), e 72 (by omega), e2 9 (by omega), e2 11 (by omega), e2 13 (by omega), e2 14 (by omega), e2 15 (by omega), e2 16 (by omega)]
  exact h
theorem MF.ST (h : MF M g) : ST M g := ⟨h.1.1, h.1.2.1, h.1.2.2.2.1, h.1.2.2.2.2.1, h.1.2.2.2.2.2.1⟩
theorem mf_of (h : ST M g) (hL : LV M (gB g) (gno g) (gow g) (goq g) (gne g) (gek g) (gew g) (gec g) 0 0 0 0) : MF M g := by
  obtain ⟨h1, h2, h3, h4, h5⟩ := h
  obtain ⟨l1, l2, l3, l4, l5, l6, l7, ⟨l8, -⟩, ⟨l9, -⟩, l10, l11, -⟩ := hL
  exact ⟨⟨h1, h2, l7, h3, h4, h5, l8, l9, l10, l11⟩, l1, l3⟩
theorem ST.st (h : ST M g) {c i : Nat} {x : Int32} (hc : c = 66 ∨ (69 ≤ c ∧ c ≠ 80) ∨ (c = 62 ∧ i ≠ 4 ∧ i ≠ 24)) : ST (stM M c i x) g := h.mv (fun d hd => sm_ne (by omega)) (fun j hj => by
  by_cases e : c = 62
  · subst e; rw [sm_eq, u_ne (by omega)]
  · rw [sm_ne (fun q => e q.symm)])
theorem LV.g13 (h : LV M B no ow oq ne ek ew ec gn cv a b) {k : Nat} (hk : k < 256) : LV (stM M 62 13 (nI k)) B no ow oq ne ek ew ec k cv a b := by
  obtain ⟨l1, l2, l3, l4, l5, l6, l7, l8, l9, l10, l11, l12⟩ := h
  refine ⟨l1.ne (by decide) (by decide), l2, ⟨by rw [sm_eq, u_ne (by decide)]; exact l3.1, by rw [sm_ne (by decide)]; exact l3.2⟩, l4, l5, l6, ⟨by rw [sm_eq, u_ne (by decide)]; exact l7.1, l7.2.1, by rw [sm_ne (by decide)]; exact l7.2.2.1, l7.2.2.2⟩, ⟨by rw [sm_eq, u_eq], hk⟩, ⟨by rw [sm_eq, u_ne (by decide)]; exact l9.1, l9.2⟩, by rw [sm_eq, u_ne (by decide)]; exact l10, by rw [sm_eq, u_ne (by decide)]; exact l11, l12⟩
theorem LV.g14 (h : LV M B no ow oq ne ek ew ec gn cv a b) {k : Nat} (hk : k ≤ 6) : LV (stM M 62 14 (ix k)) B no ow oq ne ek ew ec gn k a b := by
  obtain ⟨l1, l2, l3, l4, l5, l6, l7, l8, l9, l10, l11, l12⟩ := h
  refine ⟨l1.ne (by decide) (by decide), l2, ⟨by rw [sm_eq, u_ne (by decide)]; exact l3.1, by rw [sm_ne (by decide)]; exact l3.2⟩, l4, l5, l6, ⟨by rw [sm_eq, u_ne (by decide)]; exact l7.1, l7.2.1, by rw [sm_ne (by decide)]; exact l7.2.2.1, l7.2.2.2⟩, ⟨by rw [sm_eq, u_ne (by decide)]; exact l8.1, l8.2⟩, ⟨by rw [sm_eq, u_eq], hk⟩, by rw [sm_eq, u_ne (by decide)]; exact l10, by rw [sm_eq, u_ne (by decide)]; exact l11, l12⟩
theorem LV.gab (h : LV M B no ow oq ne ek ew ec gn cv a b) {k m : Nat} (hk : k < 6) (hm : m < 6) : LV (stM (stM M 62 15 (nI k)) 62 16 (nI m)) B no ow oq ne ek ew ec gn cv k m := by
  obtain ⟨l1, l2, l3, l4, l5, l6, l7, l8, l9, l10, l11, l12⟩ := h
  refine ⟨(l1.ne (by decide) (by decide)).ne (by decide) (by decide), l2, ⟨by rw [sm_eq, u_ne (by decide), sm_eq, u_ne (by decide)]; exact l3.1, by rw [sm_ne (by decide), sm_ne (by decide)]; exact l3.2⟩, l4, l5, l6, ⟨by rw [sm_eq, u_ne (by decide), sm_eq, u_ne (by decide)]; exact l7.1, l7.2.1, by rw [sm_ne (by decide), sm_ne (by decide)]; exact l7.2.2.1, l7.2.2.2⟩, ⟨by rw [sm_eq, u_ne (by decide), sm_eq, u_ne (by decide)]; exact l8.1, l8.2⟩, ⟨by rw [sm_eq, u_ne (by decide), sm_eq, u_ne (by decide)]; exact l9.1, l9.2⟩, by rw [sm_eq, u_ne (by decide), sm_eq, u_eq], by rw [sm_eq, u_eq], hk, hm⟩
theorem LV.gow (h : LV M B no ow oq ne ek ew ec gn cv a b) {i w : Nat} (hw : w ≤ 23) : LV (stM M 71 (2 * i) (nI w)) B no (fun j => if j = i then w else ow j) oq ne ek ew ec gn cv a b := by
  obtain ⟨l1, l2, l3, l4, l5, l6, l7, l8, l9, l10, l11, l12⟩ := h
  refine ⟨l1.ne (by decide) (by decide), l2, ⟨by rw [sm_ne (by decide)]; exact l3.1, fun j hj => ⟨?_, ?_⟩⟩, l4, fun j => ?_, l6, ⟨by rw [sm_ne (by decide)]; exact l7.1, l7.2.1, by rw [sm_ne (by decide)]; exact l7.2.2.1, l7.2.2.2⟩, ⟨by rw [sm_ne (by decide)]; exact l8.1, l8.2⟩, ⟨by rw [sm_ne (by decide)]; exact l9.1, l9.2⟩, by rw [sm_ne (by decide)]; exact l10, by rw [sm_ne (by decide)]; exact l11, l12⟩
  · rw [sm_eq, u_if]
    dsimp only
    by_cases e : j = i
    · rw [if_pos (by omega), if_pos e]
    · rw [if_neg (by omega), if_neg e]; exact (l3.2 j hj).1
  · rw [sm_eq, u_ne (by omega)]; exact (l3.2 j hj).2
  · have := l5 j
    dsimp only
    split <;> omega
/-- a summer as the reference runs it inside its plans -/
theorem x_lives (hS : ST N g) (hL : LV N B no ow oq ne ek ew ec gn cv a b) : Ct 142 [.ref 62] N (fun r P => r = none ∧ ST P g ∧ LV P B no ow oq ne ek ew ec gn cv a b ∧ Lw N P ∧ OcM (LI B no ow oq ne ek ew ec gn cv a b) P ∧ Fr LL N P) := by
  refine (s_lives hL).mono ?_
  rintro r P ⟨rfl, hF, hO⟩
  have G : ∀ c, c < 73 ∨ 79 < c → P c = N c := fun c hc => hF c (fun q => by have := LLin q; omega)
  exact ⟨rfl, hS.mv (fun c hc => G c (by omega)) (fun j _ => by rw [G 62 (by omega)]), hL.mv (fun c hc => G c (by omega)) (fun j _ => by rw [G 62 (by omega)]), fun c hc => G c (by omega), hO, hF⟩
theorem LI_cov (c : Nat) : LI B no ow oq ne ek ew ec 0 (c + 1) 0 0 = InW B no ow oq (hap 2 0 c (evw ek ew ec 255 ne)) := by
  unfold LI wea
  rw [if_pos rfl, if_neg (by omega)]
  rfl
theorem LI_swp {c d : Nat} (h : ¬ c = d) : LI B no ow oq ne ek ew ec 0 0 c d = InW (swp B c d) no ow oq (evw ek ew ec 255 ne) := by
  unfold LI wea
  rw [if_neg h, if_pos rfl]
theorem LI_gn (k : Nat) : LI B no ow oq ne ek ew ec k 0 0 0 = InW B no ow oq (evw ek ew ec (255 - k) ne) := by
  unfold LI wea
  rw [if_pos rfl, if_pos rfl]
end RP
theorem mx_s (f : Nat → Nat) (n : Nat) : mx f (n + 1) = if (mx f n).2 < f n + 1 then (n + 1, f n + 1) else mx f n := rfl
theorem mnf_s (K : Nat) (f : Nat → Nat) (n : Nat) : mnf K f (n + 1) = if f n < (mnf K f n).2 then (n + 1, f n) else mnf K f n := rfl
section RW
variable {M : Mem} {g : Sg}
set_option maxHeartbeats 1000000 in
theorem m_coverBy (h : MF M g) {k : Nat} (hk : k < 2) : Ct 164 [.ref 62, .int (nI k)] M (fun r N => r = some (.int (if k = 0 then ix (mx (gcov g) 6).1 else ix (mx (gcov g) 6).2)) ∧ MF N g ∧ Lw M N) := by
  have hf : ∀ c, covF (gB g) (gno g) (gow g) (goq g) (gne g) (gek g) (gew g) (gec g) c = gcov g c := fun _ => rfl
  unfold covF at hf
  generalize gcov g = f at *
  generalize hQ : (fun (r : Option Value) (N : Mem) => r = some (.int (if k = 0 then ix (mx f 6).1 else ix (mx f 6).2)) ∧ MF N g ∧ Lw M N) = Q
  have key : ∀ (n c : Nat) (N : Mem) (v : Option Value), c + n = 6 → ST N g → LV N (gB g) (gno g) (gow g) (goq g) (gne g) (gek g) (gew g) (gec g) 0 c 0 0 → Lw M N → WP 164 [] 1 [some (.ref 62), some (.int (nI k)), some (.int (ix (mx f c).1)), some (.int (ix (mx f c).2)), some (.int (nI c)), v] [] N Q := by
    intro n
    induction n with
    | zero =>
      intro c N v hc hS hL hw
      obtain rfl : c = 6 := by omega
      rw [B_164_1]
      simp only [B_164_0, B_164_2, B_164_3, B_164_4, B_164_5, B_164_6, cm, r_iconst_p, r_iconst_m, r_bipush_p, r_bipush_m, r_sipush_p, r_sipush_m, r_ldc_p, r_ldc_m, r_ldc_w_p, r_ldc_w_m, r_lconst_p, r_lconst_m, r_ldc2_w_p, r_ldc2_w_m, r_iload, r_iload_n, r_lload, r_lload_n, r_aload, r_aload_n, r_istore, r_istore_n, r_astore, r_astore_n, r_lstore, r_lstore_n, r_iinc_p, r_iinc_m, r_iadd, r_isub, r_imul, r_iand, r_ior, r_ixor, r_ishl, r_ishr, r_iushr, r_idiv, r_irem, r_ladd, r_lsub, r_lmul, r_ldiv, r_lrem, r_lshl, r_lcmp, r_i2l, r_i2b, r_i2s, r_dup_i, r_dup_r, r_dup2_ii, r_dup2_ir, r_dup2_l, r_pop, r_getfield, r_putfield, r_iaload, r_iastore, r_aaload, r_arraylength, r_if_eq, r_icmp_eq, r_if_ne, r_icmp_ne, r_if_lt, r_icmp_lt, r_if_ge, r_icmp_ge, r_if_gt, r_icmp_gt, r_if_le, r_icmp_le, r_goto, r_switch, r_ireturn0, r_ireturn1, r_lreturn, r_areturn, r_return, r_inv0, r_inv1, r_inv2, r_inv3, r_inv4, r_inv5, r_min, r_max, r_acopy, onI_s, onL_s, onR_s, onO_s, fv0, fv1, fv2, fv3, fp1, fp20, fp21, fp3, tl_s, tl_n, lg0, lg1, lg2, lg3, lg4, lg5, lg6, lg7, lg8, lg9, lg10, lg11, lg12, lg13, lg14, lg15, lg16, lg17, ls0, ls1, ls2, ls3, ls4, ls5, ls6, ls7, ls8, ls9, ls10, ls11, ls12, ls13, ls14, ls15, ls16, ls17, lk0, lk1, lk2, lk3, lk4, lk5, lk6, lk7, lk8, lk9, lk10, lk11, lk12, lk13, lk14, lk15, lk16, lk17, kl_n, kl_i, kl_r, kl_l, Nat.reduceAdd, Nat.reduceLeDiff, not_false_eq_true, r_ins0, r_ins1, r_ins2, r_ins3, r_ins4, r_ins5]
      rw [brc_pos (Int32.le_refl _), q_eq (by omega) (by omega), ← hQ]
      have hE := hL.g14 (k := 0) (by omega)
      have hM : MF (stM N 62 14 (mI 1)) g := mf_of (hS.st (by omega)) hE
      refine brc_i (fun hz => ?_) (fun hz => ?_)
      · rw [if_neg hz]; exact ⟨rfl, hM, hw.st (by omega)⟩
      · rw [if_pos (Classical.not_not.mp hz)]; exact ⟨rfl, hM, hw.st (by omega)⟩
    | succ n ih =>
      intro c N v hc hS hL hw
      rw [B_164_1]
      simp only [B_164_0, B_164_2, B_164_3, B_164_5, B_164_6, cm, r_iconst_p, r_iconst_m, r_bipush_p, r_bipush_m, r_sipush_p, r_sipush_m, r_ldc_p, r_ldc_m, r_ldc_w_p, r_ldc_w_m, r_lconst_p, r_lconst_m, r_ldc2_w_p, r_ldc2_w_m, r_iload, r_iload_n, r_lload, r_lload_n, r_aload, r_aload_n, r_istore, r_istore_n, r_astore, r_astore_n, r_lstore, r_lstore_n, r_iinc_p, r_iinc_m, r_iadd, r_isub, r_imul, r_iand, r_ior, r_ixor, r_ishl, r_ishr, r_iushr, r_idiv, r_irem, r_ladd, r_lsub, r_lmul, r_ldiv, r_lrem, r_lshl, r_lcmp, r_i2l, r_i2b, r_i2s, r_dup_i, r_dup_r, r_dup2_ii, r_dup2_ir, r_dup2_l, r_pop, r_getfield, r_putfield, r_iaload, r_iastore, r_aaload, r_arraylength, r_if_eq, r_icmp_eq, r_if_ne, r_icmp_ne, r_if_lt, r_icmp_lt, r_if_ge, r_icmp_ge, r_if_gt, r_icmp_gt, r_if_le, r_icmp_le, r_goto, r_switch, r_ireturn0, r_ireturn1, r_lreturn, r_areturn, r_return, r_inv0, r_inv1, r_inv2, r_inv3, r_inv4, r_inv5, r_min, r_max, r_acopy, onI_s, onL_s, onR_s, onO_s, fv0, fv1, fv2, fv3, fp1, fp20, fp21, fp3, tl_s, tl_n, lg0, lg1, lg2, lg3, lg4, lg5, lg6, lg7, lg8, lg9, lg10, lg11, lg12, lg13, lg14, lg15, lg16, lg17, ls0, ls1, ls2, ls3, ls4, ls5, ls6, ls7, ls8, ls9, ls10, ls11, ls12, ls13, ls14, ls15, ls16, ls17, lk0, lk1, lk2, lk3, lk4, lk5, lk6, lk7, lk8, lk9, lk10, lk11, lk12, lk13, lk14, lk15, lk16, lk17, kl_n, kl_i, kl_r, kl_l, Nat.reduceAdd, Nat.reduceLeDiff, not_false_eq_true, r_ins0, r_ins1, r_ins2, r_ins3, r_ins4, r_ins5]
      rw [brc_neg (nI_ge (by omega) (by omega))]
      have hE := hL.g14 (k := c + 1) (by omega)
      rw [ix_s] at hE
      refine ⟨trivial, by simp, (x_lives (hS.st (by omega)) hE).mono ?_⟩
      rintro r P ⟨rfl, hS1, hL1, w1, hO, -⟩
      rw [LI_cov] at hO
      have hI : okI (InW (gB g) (gno g) (gow g) (goq g) (hap 2 0 c (evw (gek g) (gew g) (gec g) 255 (gne g)))) := ⟨hL.2.1, hL.2.2.2.1, hL.2.2.2.2.1, hL.2.2.2.2.2.1⟩
      have h3 := icC_le (yr_ok hI 24).1
      have hfc := hf c
      generalize hv : icC (yr (InW (gB g) (gno g) (gow g) (goq g) (hap 2 0 c (evw (gek g) (gew g) (gec g) 255 (gne g)))) 24).1 = nn at *
      have hfl : ∀ d, f d ≤ 324 := fun d => by
        rw [← hf d]
        exact icC_le (yr_ok (show okI (InW (gB g) (gno g) (gow g) (goq g) (hap 2 0 d (evw (gek g) (gew g) (gec g) 255 (gne g)))) from ⟨hL.2.1, hL.2.2.2.1, hL.2.2.2.2.1, hL.2.2.2.2.2.1⟩) 24).1
      have hm := mx_le hfl c
      simp only [B_164_0, B_164_2, B_164_3, B_164_5, B_164_6, cm, s_allIce hO hI (show 23 < 24 by omega), hv, s_greatx (show nn < 2 ^ 30 by omega) (show (mx f c).2 < 2 ^ 30 by omega), q_add, r_iconst_p, r_iconst_m, r_bipush_p, r_bipush_m, r_sipush_p, r_sipush_m, r_ldc_p, r_ldc_m, r_ldc_w_p, r_ldc_w_m, r_lconst_p, r_lconst_m, r_ldc2_w_p, r_ldc2_w_m, r_iload, r_iload_n, r_lload, r_lload_n, r_aload, r_aload_n, r_istore, r_istore_n, r_astore, r_astore_n, r_lstore, r_lstore_n, r_iinc_p, r_iinc_m, r_iadd, r_isub, r_imul, r_iand, r_ior, r_ixor, r_ishl, r_ishr, r_iushr, r_idiv, r_irem, r_ladd, r_lsub, r_lmul, r_ldiv, r_lrem, r_lshl, r_lcmp, r_i2l, r_i2b, r_i2s, r_dup_i, r_dup_r, r_dup2_ii, r_dup2_ir, r_dup2_l, r_pop, r_getfield, r_putfield, r_iaload, r_iastore, r_aaload, r_arraylength, r_if_eq, r_icmp_eq, r_if_ne, r_icmp_ne, r_if_lt, r_icmp_lt, r_if_ge, r_icmp_ge, r_if_gt, r_icmp_gt, r_if_le, r_icmp_le, r_goto, r_switch, r_ireturn0, r_ireturn1, r_lreturn, r_areturn, r_return, r_inv0, r_inv1, r_inv2, r_inv3, r_inv4, r_inv5, r_min, r_max, r_acopy, onI_s, onL_s, onR_s, onO_s, fv0, fv1, fv2, fv3, fp1, fp20, fp21, fp3, tl_s, tl_n, lg0, lg1, lg2, lg3, lg4, lg5, lg6, lg7, lg8, lg9, lg10, lg11, lg12, lg13, lg14, lg15, lg16, lg17, ls0, ls1, ls2, ls3, ls4, ls5, ls6, ls7, ls8, ls9, ls10, ls11, ls12, ls13, ls14, ls15, ls16, ls17, lk0, lk1, lk2, lk3, lk4, lk5, lk6, lk7, lk8, lk9, lk10, lk11, lk12, lk13, lk14, lk15, lk16, lk17, kl_n, kl_i, kl_r, kl_l, Nat.reduceAdd, Nat.reduceLeDiff, not_false_eq_true, r_ins0, r_ins1, r_ins2, r_ins3, r_ins4, r_ins5]
      rw [ix_le (by omega) (by omega)]
      have ih' := ih (c + 1) P (some (.int (nI nn))) (by omega) hS1 hL1 ((hw.st (by omega)).tr w1)
      rw [mx_s, ← hfc] at ih'
      refine ⟨trivial, by simp, brc_i (fun hz => ⟨by simp, ?_⟩) (fun hz => ⟨by simp, ?_⟩)⟩
      · rw [if_neg (by omega)] at ih'
        rw [show max (nn + 1) (mx f c).2 = (mx f c).2 by omega]
        exact ih'
      · rw [if_pos (by omega)] at ih'
        simp only [ix_s] at ih'
        rw [show max (nn + 1) (mx f c).2 = nn + 1 by omega, ix_s]
        exact ih'
  simp only [E_164, B_164_0, B_164_2, B_164_3, B_164_4, B_164_5, B_164_6, cm, r_iconst_p, r_iconst_m, r_bipush_p, r_bipush_m, r_sipush_p, r_sipush_m, r_ldc_p, r_ldc_m, r_ldc_w_p, r_ldc_w_m, r_lconst_p, r_lconst_m, r_ldc2_w_p, r_ldc2_w_m, r_iload, r_iload_n, r_lload, r_lload_n, r_aload, r_aload_n, r_istore, r_istore_n, r_astore, r_astore_n, r_lstore, r_lstore_n, r_iinc_p, r_iinc_m, r_iadd, r_isub, r_imul, r_iand, r_ior, r_ixor, r_ishl, r_ishr, r_iushr, r_idiv, r_irem, r_ladd, r_lsub, r_lmul, r_ldiv, r_lrem, r_lshl, r_lcmp, r_i2l, r_i2b, r_i2s, r_dup_i, r_dup_r, r_dup2_ii, r_dup2_ir, r_dup2_l, r_pop, r_getfield, r_putfield, r_iaload, r_iastore, r_aaload, r_arraylength, r_if_eq, r_icmp_eq, r_if_ne, r_icmp_ne, r_if_lt, r_icmp_lt, r_if_ge, r_icmp_ge, r_if_gt, r_icmp_gt, r_if_le, r_icmp_le, r_goto, r_switch, r_ireturn0, r_ireturn1, r_lreturn, r_areturn, r_return, r_inv0, r_inv1, r_inv2, r_inv3, r_inv4, r_inv5, r_min, r_max, r_acopy, onI_s, onL_s, onR_s, onO_s, fv0, fv1, fv2, fv3, fp1, fp20, fp21, fp3, tl_s, tl_n, lg0, lg1, lg2, lg3, lg4, lg5, lg6, lg7, lg8, lg9, lg10, lg11, lg12, lg13, lg14, lg15, lg16, lg17, ls0, ls1, ls2, ls3, ls4, ls5, ls6, ls7, ls8, ls9, ls10, ls11, ls12, ls13, ls14, ls15, ls16, ls17, lk0, lk1, lk2, lk3, lk4, lk5, lk6, lk7, lk8, lk9, lk10, lk11, lk12, lk13, lk14, lk15, lk16, lk17, kl_n, kl_i, kl_r, kl_l, Nat.reduceAdd, Nat.reduceLeDiff, not_false_eq_true, r_ins0, r_ins1, r_ins2, r_ins3, r_ins4, r_ins5]
  exact key 6 0 M none (by omega) h.ST h.LV Lw.rf
end RW
