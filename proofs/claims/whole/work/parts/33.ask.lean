/-! IceHouse: plans, seen, chance, summers -/
section CW
variable {M : Mem} {g : Sg}
def gcov (g : Sg) : Nat → Nat := covF (gB g) (gno g) (gow g) (goq g) (gne g) (gek g) (gew g) (gec g)
def gswa (g : Sg) : Nat → Nat := swaF (gB g) (gno g) (gow g) (goq g) (gne g) (gek g) (gew g) (gec g)
def gwai (g : Sg) (i : Nat) : Nat → Nat := waiF (gB g) (gno g) (gow g) (goq g) (gne g) (gek g) (gew g) (gec g) i
def gspr (g : Sg) : Int32 × Int32 × Int32 := spr (nzF (gB g) (gno g) (gow g) (goq g) (gne g) (gek g) (gew g) (gec g)) (gne g)
def gInS (g : Sg) (c h v : Nat) : Inp := InS (gB g) (gno g) (gow g) (goq g) (gne g) (gek g) (gew g) (gec g) c h v
def gszB (g : Sg) (c h : Nat) : Nat := szB (fun v => fit (gInS g c h v) (gnw g) (gnc g) (gnv g) (gns g)) 9
def gask (g : Sg) (c h : Nat) : Int32 := ix (mnf 10 (fun w => mal (gszB g c h) (fun v => shp (yr (gInS g c h v) (w + 1)).1 6) 9) 24).1
def gch (g : Sg) (c i : Nat) : Nat × Nat := hlv 32 (chS (chF (gB g) (gno g) (gow g) (goq g) (gne g) (gek g) (gew g) (gec g) i) (gne g) c (2 ^ gne g), 16 ^ gne g)
def gdr (g : Sg) (seed : Int32) (n : Nat) : Inp := InW (gB g) (gno g) (gow g) (goq g) (evw (dkF seed) (dwF seed) (dcF seed) 255 n)
def aCover (g : Sg) (x : Int32) : Int32 := if rg x 2 = true then (if cl x = 0 then ix (mx (gcov g) 6).1 else ix (mx (gcov g) 6).2) else mI 2
def aSwap (g : Sg) (x : Int32) : Int32 := if rg x 3 = true then (if cl x = 0 then cdA (mxs (gswa g) 36).1 else if cl x = 1 then cdB (mxs (gswa g) 36).1 else ix (mxs (gswa g) 36).2) else mI 2
def aLater (g : Sg) (i x : Int32) : Int32 := if rg i (gno g) = true ∧ rg x 2 = true then (if cl x = 0 then ix (mnf 13 (gwai g (cl i)) 24).1 else nI (mnf 13 (gwai g (cl i)) 24).2) else mI 2
def aSpare (g : Sg) (i : Int32) : Int32 := if i < mI 1 ∨ nI 1 < i then mI 2 else if i = mI 1 then (gspr g).1 else if i = nI 0 then (gspr g).2.1 else (gspr g).2.2
def aNever (g : Sg) : Int32 := nI (nevB (fitE (gB g) (gno g) (gow g) (goq g) (gne g) (gek g) (gew g) (gec g) (gns g) (gnw g) (gnc g) (gnv g)) (gne g))
def isB (g : Sg) (c h : Int32) : Prop := rg c 6 = true ∧ rg h 6 = true ∧ cl h < (gB g (cl c)).length
def aSize (g : Sg) (c h : Int32) : Int32 := if rg c 6 = true ∧ rg h 6 = true ∧ cl h < (gB g (cl c)).length then nI (gszB g (cl c) (cl h)) else mI 2
def aAsk (g : Sg) (c h : Int32) : Int32 := if rg c 6 = true ∧ rg h 6 = true ∧ cl h < (gB g (cl c)).length then gask g (cl c) (cl h) else mI 2
def aChance (g : Sg) (c i x : Int32) : Int64 := if rg c 17 = true ∧ rg i (gno g) = true ∧ rg x 2 = true then (if cl x = 0 then lN (gch g (cl c) (cl i)).1 else lN (gch g (cl c) (cl i)).2) else mN 9223372036854775806
def aSummers (g : Sg) (seed n x : Int32) : Int32 := if rg n 9 = true ∧ rg x 2 = true then (if cl x = 0 then nI (icC (yr (gdr g seed (cl n)) 24).1) else nI (shN (gdr g seed (cl n)))) else mI 2
theorem TrP_in {c : Nat} (h : c ∈ TrP) : 20 ≤ c ∧ c ≤ 37 := by
  unfold TrP at h
  simp only [List.mem_cons, List.not_mem_nil, or_false] at h
  omega
theorem TrQ_in {c : Nat} (h : c ∈ TrQ) : 20 ≤ c ∧ c ≤ 37 := by
  unfold TrQ at h
  simp only [List.mem_cons, List.not_mem_nil, or_false] at h
  omega
theorem TrT_in {c : Nat} (h : c ∈ TrT) : 20 ≤ c ∧ c ≤ 37 := by
  unfold TrT at h
  simp only [List.mem_cons, List.not_mem_nil, or_false] at h
  omega
theorem CI.trp {N : Mem} (h : CI M g) (hF : Fr TrP M N) (h4 : N 20 4 = M 20 4) (h21 : ∀ j, j ≠ 10 → N 21 j = M 21 j) : CI N g ∧ Up M N := h.trial hF (fun _ q => TrP_in q) (h.2.2.1.mv h4 (hF 36 (by decide))) h21
theorem k_cover (h : CI M g) : Ct 9 [.ref 20] M (fun r N => r = none ∧ CI N g ∧ Up M N ∧ N 20 5 = ix (mx (gcov g) 6).1 ∧ N 20 7 = ix (mx (gcov g) 6).2) := by
  refine (s_findCover h.1.RT h.2.2.2.1).mono ?_
  rintro r N ⟨rfl, hF, h5, h7, h20, h21⟩
  obtain ⟨c1, c2⟩ := h.trp hF (h20 4 (by decide) (by decide)) h21
  exact ⟨rfl, c1, c2, h5, h7⟩
theorem k_swap (h : CI M g) : Ct 10 [.ref 20] M (fun r N => r = none ∧ CI N g ∧ Up M N ∧ N 20 5 = cdA (mxs (gswa g) 36).1 ∧ N 20 6 = cdB (mxs (gswa g) 36).1 ∧ N 20 7 = ix (mxs (gswa g) 36).2) := by
  refine (s_findSwap h.1.RT h.2.2.2.1).mono ?_
  rintro r N ⟨rfl, hF, h5, h6, h7, h20, h21⟩
  obtain ⟨c1, c2⟩ := h.trp hF (h20 4 (by decide) (by decide) (by decide)) h21
  exact ⟨rfl, c1, c2, h5, h6, h7⟩
theorem k_wait (h : CI M g) {i : Nat} (hi : i < 12) : Ct 11 [.ref 20, .int (nI i)] M (fun r N => r = none ∧ CI N g ∧ Up M N ∧ N 20 5 = ix (mnf 13 (gwai g i) 24).1 ∧ N 20 7 = nI (mnf 13 (gwai g i) 24).2) := by
  refine (s_findWait h.1.RT h.2.2.2.1 hi).mono ?_
  rintro r N ⟨rfl, hF, h5, h7, h20, h21⟩
  obtain ⟨c1, c2⟩ := h.trp hF (h20 4 (by decide) (by decide)) h21
  exact ⟨rfl, c1, c2, h5, h7⟩
theorem k_spare (h : CI M g) : Ct 14 [.ref 20] M (fun r N => r = none ∧ CI N g ∧ Up M N ∧ N 20 7 = (gspr g).1 ∧ N 20 5 = (gspr g).2.1 ∧ N 20 6 = (gspr g).2.2) := by
  refine (s_findSpare h.1.RT h.2.2.2.1).mono ?_
  rintro r N ⟨rfl, hF, h7, h5, h6, h20, h21⟩
  obtain ⟨c1, c2⟩ := h.trp hF (h20 4 (by decide) (by decide) (by decide)) h21
  exact ⟨rfl, c1, c2, h7, h5, h6⟩
theorem k_never (h : CI M g) : Ct 15 [.ref 20] M (fun r N => r = some (.int (aNever g)) ∧ CI N g ∧ Up M N) := by
  refine (s_findNever h.1.RT h.1.2.2.2.2.2.1 h.2.2.2.1).mono ?_
  rintro r N ⟨rfl, hF, h20, h21⟩
  obtain ⟨c1, c2⟩ := h.trp hF (by rw [h20]) h21
  exact ⟨rfl, c1, c2⟩
theorem k_sizes (h : CI M g) {c x : Nat} (hc : c < 6) (hh : x < (gB g c).length) : Ct 16 [.ref 20, .int (nI c), .int (nI x)] M (fun r N => r = some (.int (nI (gszB g c x))) ∧ CI N g ∧ Up M N ∧ Ev 17 [.ref 20, .int (nI (gszB g c x))] N (some (.int (gask g c x))) N) := by
  refine (s_findSizes h.1.RT h.1.2.2.2.2.2.1 h.2.2.2.1 hc hh).mono ?_
  rintro r N ⟨rfl, hF, h20, h21, h37⟩
  obtain ⟨c1, c2⟩ := h.trial hF (fun _ q => TrQ_in q) (h.2.2.1.mv (by rw [h20]) (hF 36 (by decide))) h21
  refine ⟨rfl, c1, c2, ?_⟩
  have hs : gszB g c x < 2 ^ 10 := szB_lt 9
  have e := s_findAsk (M := N) (s := gszB g c x) (g := fun w v => shp (yr (gInS g c x (if 1 ≤ v ∧ v ≤ 9 then v else 1)) (w + 1)).1 6) hs (fun w hw v h1 h2 => by rw [h37 v h1 h2 w hw, if_pos ⟨h1, h2⟩]; rfl) (fun w v => by
    have hok : okI (gInS g c x (if 1 ≤ v ∧ v ≤ 9 then v else 1)) := ⟨setb_ok (bkC_ok _ _) _ (by split <;> omega), h.1.RT.2.2.2.2.1, h.1.RT.2.2.2.2.2.1, h.1.RT.2.2.2.2.2.2⟩
    have := shp_lt (yr_ok hok (w + 1)).1 6
    omega)
  have e2 : (fun w => mal (gszB g c x) (fun v => shp (yr (gInS g c x (if 1 ≤ v ∧ v ≤ 9 then v else 1)) (w + 1)).1 6) 9) = (fun w => mal (gszB g c x) (fun v => shp (yr (gInS g c x v) (w + 1)).1 6) 9) := by
    funext w
    have mc : ∀ (s : Nat) (f f' : Nat → Nat), (∀ v, 1 ≤ v → v ≤ 9 → f v = f' v) → ∀ n, n ≤ 9 → mal s f n = mal s f' n := by
      intro s f f' hff n
      induction n with
      | zero => intro _; rfl
      | succ n ih =>
        intro hn
        show max _ _ = max _ _
        rw [ih (by omega)]
        congr 1
        unfold cnt
        apply smN_congr
        intro j hj
        rw [hff (n + 1) (by omega) (by omega), hff (j + 1) (by omega) (by omega)]
    exact mc _ _ _ (fun v h1 h2 => by rw [if_pos ⟨h1, h2⟩]) 9 (by omega)
  rw [e2] at e
  exact e
theorem k_chance (h : CI M g) {c i : Nat} (hc : c ≤ 16) (hi : i < 12) : Ct 19 [.ref 20, .int (nI c), .int (nI i)] M (fun r N => r = none ∧ CI N g ∧ Up M N ∧ jn (N 20 8) (N 20 108) = lN (gch g c i).1 ∧ jn (N 20 9) (N 20 109) = lN (gch g c i).2) := by
  refine (s_findChance h.1.RT h.2.2.2.1 h.2.2.1 hc hi).mono ?_
  rintro r N ⟨rfl, hF, h4, hT, ha, hb, h21⟩
  obtain ⟨c1, c2⟩ := h.trial hF (fun _ q => TrT_in q) (Or.inr ⟨h4, hT⟩) h21
  exact ⟨rfl, c1, c2, ha, hb⟩
theorem k_drawn (h : CI M g) (seed : Int32) {n : Nat} (hn : n ≤ 8) : Ct 22 [.ref 20, .int seed, .int (nI n)] M (fun r N => r = some (.ref 21) ∧ CI N g ∧ Up M N ∧ Oc 21 0 (gdr g seed n) N) := by
  refine (s_drawn h.1.RT h.2.2.2.1 seed hn).mono ?_
  rintro r N ⟨rfl, hF, h20, h21, hO⟩
  obtain ⟨c1, c2⟩ := h.trp hF (by rw [h20]) h21
  exact ⟨rfl, c1, c2, hO⟩
theorem gdr_ok (h : CB M g) (seed : Int32) (n : Nat) : okI (gdr g seed n) := h.ok _
theorem c_cover (h : CI M g) (x : Int32) : Ct 70 [.ref 0, .int x] M (fun r N => r = some (.int (aCover g x)) ∧ CI N g ∧ Up M N) := by
  unfold aCover
  simp only [E_70, B_70_0, B_70_1, B_70_2, B_70_3, cB, (s_out x (show 1 < 2 ^ 31 by omega) M).ct, r_iconst_p, r_iconst_m, r_bipush_p, r_bipush_m, r_sipush_p, r_sipush_m, r_ldc_p, r_ldc_m, r_ldc_w_p, r_ldc_w_m, r_lconst_p, r_lconst_m, r_ldc2_w_p, r_ldc2_w_m, r_iload, r_iload_n, r_lload, r_lload_n, r_aload, r_aload_n, r_istore, r_istore_n, r_astore, r_astore_n, r_lstore, r_lstore_n, r_iinc_p, r_iinc_m, r_iadd, r_isub, r_imul, r_iand, r_ior, r_ixor, r_ishl, r_ishr, r_iushr, r_idiv, r_irem, r_ladd, r_lsub, r_lmul, r_ldiv, r_lrem, r_lshl, r_lcmp, r_i2l, r_i2b, r_i2s, r_dup_i, r_dup_r, r_dup2_ii, r_dup2_ir, r_dup2_l, r_pop, r_getfield, r_putfield, r_iaload, r_iastore, r_aaload, r_arraylength, r_if_eq, r_icmp_eq, r_if_ne, r_icmp_ne, r_if_lt, r_icmp_lt, r_if_ge, r_icmp_ge, r_if_gt, r_icmp_gt, r_if_le, r_icmp_le, r_goto, r_switch, r_ireturn0, r_ireturn1, r_lreturn, r_areturn, r_return, r_inv0, r_inv1, r_inv2, r_inv3, r_inv4, r_inv5, r_min, r_max, r_acopy, onI_s, onL_s, onR_s, onO_s, fv0, fv1, fv2, fv3, fp1, fp20, fp21, fp3, tl_s, tl_n, lg0, lg1, lg2, lg3, lg4, lg5, lg6, lg7, lg8, lg9, lg10, lg11, lg12, lg13, lg14, lg15, lg16, lg17, ls0, ls1, ls2, ls3, ls4, ls5, ls6, ls7, ls8, ls9, ls10, ls11, ls12, ls13, ls14, ls15, ls16, ls17, lk0, lk1, lk2, lk3, lk4, lk5, lk6, lk7, lk8, lk9, lk10, lk11, lk12, lk13, lk14, lk15, lk16, lk17, kl_n, kl_i, kl_r, kl_l, Nat.reduceAdd, Nat.reduceLeDiff, not_false_eq_true, r_ins0, r_ins1, r_ins2, r_ins3, r_ins4, r_ins5]
  refine ⟨by simp, ?_⟩
  cases hx : rg x (1 + 1) with
  | false => rw [rF, n10, brc_F, if_neg (by decide)]; exact ⟨rfl, h, Up.rf⟩
  | true =>
    obtain ⟨b2, e2⟩ := rg_T hx
    rw [rT, brc_pos rfl, if_pos rfl]
    generalize cl x = k at *
    subst e2
    refine ⟨by decide, by simp, (k_cover h).mono ?_⟩
    rintro r N ⟨rfl, hN, hU, h5, h7⟩
    simp only [B_70_0, B_70_1, B_70_2, B_70_3, cB, cP, r_iconst_p, r_iconst_m, r_bipush_p, r_bipush_m, r_sipush_p, r_sipush_m, r_ldc_p, r_ldc_m, r_ldc_w_p, r_ldc_w_m, r_lconst_p, r_lconst_m, r_ldc2_w_p, r_ldc2_w_m, r_iload, r_iload_n, r_lload, r_lload_n, r_aload, r_aload_n, r_istore, r_istore_n, r_astore, r_astore_n, r_lstore, r_lstore_n, r_iinc_p, r_iinc_m, r_iadd, r_isub, r_imul, r_iand, r_ior, r_ixor, r_ishl, r_ishr, r_iushr, r_idiv, r_irem, r_ladd, r_lsub, r_lmul, r_ldiv, r_lrem, r_lshl, r_lcmp, r_i2l, r_i2b, r_i2s, r_dup_i, r_dup_r, r_dup2_ii, r_dup2_ir, r_dup2_l, r_pop, r_getfield, r_putfield, r_iaload, r_iastore, r_aaload, r_arraylength, r_if_eq, r_icmp_eq, r_if_ne, r_icmp_ne, r_if_lt, r_icmp_lt, r_if_ge, r_icmp_ge, r_if_gt, r_icmp_gt, r_if_le, r_icmp_le, r_goto, r_switch, r_ireturn0, r_ireturn1, r_lreturn, r_areturn, r_return, r_inv0, r_inv1, r_inv2, r_inv3, r_inv4, r_inv5, r_min, r_max, r_acopy, onI_s, onL_s, onR_s, onO_s, fv0, fv1, fv2, fv3, fp1, fp20, fp21, fp3, tl_s, tl_n, lg0, lg1, lg2, lg3, lg4, lg5, lg6, lg7, lg8, lg9, lg10, lg11, lg12, lg13, lg14, lg15, lg16, lg17, ls0, ls1, ls2, ls3, ls4, ls5, ls6, ls7, ls8, ls9, ls10, ls11, ls12, ls13, ls14, ls15, ls16, ls17, lk0, lk1, lk2, lk3, lk4, lk5, lk6, lk7, lk8, lk9, lk10, lk11, lk12, lk13, lk14, lk15, lk16, lk17, kl_n, kl_i, kl_r, kl_l, Nat.reduceAdd, Nat.reduceLeDiff, not_false_eq_true, r_ins0, r_ins1, r_ins2, r_ins3, r_ins4, r_ins5]
    rw [h5, h7, q_eq (by omega) (by omega)]
    refine brc_i (fun hz => ?_) (fun hz => ?_)
    · rw [if_neg hz]; exact ⟨rfl, hN, hU⟩
    · rw [if_pos (Classical.not_not.mp hz)]; exact ⟨rfl, hN, hU⟩
theorem c_swap (h : CI M g) (x : Int32) : Ct 71 [.ref 0, .int x] M (fun r N => r = some (.int (aSwap g x)) ∧ CI N g ∧ Up M N) := by
  unfold aSwap
  simp only [E_71, B_71_0, B_71_1, B_71_2, B_71_3, B_71_4, cB, (s_out x (show 2 < 2 ^ 31 by omega) M).ct, r_iconst_p, r_iconst_m, r_bipush_p, r_bipush_m, r_sipush_p, r_sipush_m, r_ldc_p, r_ldc_m, r_ldc_w_p, r_ldc_w_m, r_lconst_p, r_lconst_m, r_ldc2_w_p, r_ldc2_w_m, r_iload, r_iload_n, r_lload, r_lload_n, r_aload, r_aload_n, r_istore, r_istore_n, r_astore, r_astore_n, r_lstore, r_lstore_n, r_iinc_p, r_iinc_m, r_iadd, r_isub, r_imul, r_iand, r_ior, r_ixor, r_ishl, r_ishr, r_iushr, r_idiv, r_irem, r_ladd, r_lsub, r_lmul, r_ldiv, r_lrem, r_lshl, r_lcmp, r_i2l, r_i2b, r_i2s, r_dup_i, r_dup_r, r_dup2_ii, r_dup2_ir, r_dup2_l, r_pop, r_getfield, r_putfield, r_iaload, r_iastore, r_aaload, r_arraylength, r_if_eq, r_icmp_eq, r_if_ne, r_icmp_ne, r_if_lt, r_icmp_lt, r_if_ge, r_icmp_ge, r_if_gt, r_icmp_gt, r_if_le, r_icmp_le, r_goto, r_switch, r_ireturn0, r_ireturn1, r_lreturn, r_areturn, r_return, r_inv0, r_inv1, r_inv2, r_inv3, r_inv4, r_inv5, r_min, r_max, r_acopy, onI_s, onL_s, onR_s, onO_s, fv0, fv1, fv2, fv3, fp1, fp20, fp21, fp3, tl_s, tl_n, lg0, lg1, lg2, lg3, lg4, lg5, lg6, lg7, lg8, lg9, lg10, lg11, lg12, lg13, lg14, lg15, lg16, lg17, ls0, ls1, ls2, ls3, ls4, ls5, ls6, ls7, ls8, ls9, ls10, ls11, ls12, ls13, ls14, ls15, ls16, ls17, lk0, lk1, lk2, lk3, lk4, lk5, lk6, lk7, lk8, lk9, lk10, lk11, lk12, lk13, lk14, lk15, lk16, lk17, kl_n, kl_i, kl_r, kl_l, Nat.reduceAdd, Nat.reduceLeDiff, not_false_eq_true, r_ins0, r_ins1, r_ins2, r_ins3, r_ins4, r_ins5]
  refine ⟨by simp, ?_⟩
  cases hx : rg x (2 + 1) with
  | false => rw [rF, n10, brc_F, if_neg (by decide)]; exact ⟨rfl, h, Up.rf⟩
  | true =>
    obtain ⟨b2, e2⟩ := rg_T hx
    rw [rT, brc_pos rfl, if_pos rfl]
    generalize cl x = k at *
    subst e2
    refine ⟨by decide, by simp, (k_swap h).mono ?_⟩
    rintro r N ⟨rfl, hN, hU, h5, h6, h7⟩
    simp only [B_71_0, B_71_1, B_71_2, B_71_3, B_71_4, cB, cP, r_iconst_p, r_iconst_m, r_bipush_p, r_bipush_m, r_sipush_p, r_sipush_m, r_ldc_p, r_ldc_m, r_ldc_w_p, r_ldc_w_m, r_lconst_p, r_lconst_m, r_ldc2_w_p, r_ldc2_w_m, r_iload, r_iload_n, r_lload, r_lload_n, r_aload, r_aload_n, r_istore, r_istore_n, r_astore, r_astore_n, r_lstore, r_lstore_n, r_iinc_p, r_iinc_m, r_iadd, r_isub, r_imul, r_iand, r_ior, r_ixor, r_ishl, r_ishr, r_iushr, r_idiv, r_irem, r_ladd, r_lsub, r_lmul, r_ldiv, r_lrem, r_lshl, r_lcmp, r_i2l, r_i2b, r_i2s, r_dup_i, r_dup_r, r_dup2_ii, r_dup2_ir, r_dup2_l, r_pop, r_getfield, r_putfield, r_iaload, r_iastore, r_aaload, r_arraylength, r_if_eq, r_icmp_eq, r_if_ne, r_icmp_ne, r_if_lt, r_icmp_lt, r_if_ge, r_icmp_ge, r_if_gt, r_icmp_gt, r_if_le, r_icmp_le, r_goto, r_switch, r_ireturn0, r_ireturn1, r_lreturn, r_areturn, r_return, r_inv0, r_inv1, r_inv2, r_inv3, r_inv4, r_inv5, r_min, r_max, r_acopy, onI_s, onL_s, onR_s, onO_s, fv0, fv1, fv2, fv3, fp1, fp20, fp21, fp3, tl_s, tl_n, lg0, lg1, lg2, lg3, lg4, lg5, lg6, lg7, lg8, lg9, lg10, lg11, lg12, lg13, lg14, lg15, lg16, lg17, ls0, ls1, ls2, ls3, ls4, ls5, ls6, ls7, ls8, ls9, ls10, ls11, ls12, ls13, ls14, ls15, ls16, ls17, lk0, lk1, lk2, lk3, lk4, lk5, lk6, lk7, lk8, lk9, lk10, lk11, lk12, lk13, lk14, lk15, lk16, lk17, kl_n, kl_i, kl_r, kl_l, Nat.reduceAdd, Nat.reduceLeDiff, not_false_eq_true, r_ins0, r_ins1, r_ins2, r_ins3, r_ins4, r_ins5]
    rw [h5, h6, h7, q_eq (by omega) (by omega), q_eq (by omega) (by omega)]
    refine brc_i (fun hz => ?_) (fun hz => ?_)
    · rw [if_neg hz]
      refine brc_i (fun hy => ?_) (fun hy => ?_)
      · rw [if_neg hy]; exact ⟨rfl, hN, hU⟩
      · rw [if_pos (Classical.not_not.mp hy)]; exact ⟨rfl, hN, hU⟩
    · rw [if_pos (Classical.not_not.mp hz)]; exact ⟨rfl, hN, hU⟩
theorem c_later (h : CI M g) (i x : Int32) : Ct 72 [.ref 0, .int i, .int x] M (fun r N => r = some (.int (aLater g i x)) ∧ CI N g ∧ Up M N) := by
  have hno := h.1.RT.2.2.2.2.1
  unfold aLater
  simp only [E_72, B_72_0, B_72_1, B_72_2, B_72_3, B_72_4, cB, h.1.2.2.1.2.1.1, (s_outn i (show gno g < 2 ^ 31 by omega) M).ct, (s_out x (show 1 < 2 ^ 31 by omega) M).ct, r_iconst_p, r_iconst_m, r_bipush_p, r_bipush_m, r_sipush_p, r_sipush_m, r_ldc_p, r_ldc_m, r_ldc_w_p, r_ldc_w_m, r_lconst_p, r_lconst_m, r_ldc2_w_p, r_ldc2_w_m, r_iload, r_iload_n, r_lload, r_lload_n, r_aload, r_aload_n, r_istore, r_istore_n, r_astore, r_astore_n, r_lstore, r_lstore_n, r_iinc_p, r_iinc_m, r_iadd, r_isub, r_imul, r_iand, r_ior, r_ixor, r_ishl, r_ishr, r_iushr, r_idiv, r_irem, r_ladd, r_lsub, r_lmul, r_ldiv, r_lrem, r_lshl, r_lcmp, r_i2l, r_i2b, r_i2s, r_dup_i, r_dup_r, r_dup2_ii, r_dup2_ir, r_dup2_l, r_pop, r_getfield, r_putfield, r_iaload, r_iastore, r_aaload, r_arraylength, r_if_eq, r_icmp_eq, r_if_ne, r_icmp_ne, r_if_lt, r_icmp_lt, r_if_ge, r_icmp_ge, r_if_gt, r_icmp_gt, r_if_le, r_icmp_le, r_goto, r_switch, r_ireturn0, r_ireturn1, r_lreturn, r_areturn, r_return, r_inv0, r_inv1, r_inv2, r_inv3, r_inv4, r_inv5, r_min, r_max, r_acopy, onI_s, onL_s, onR_s, onO_s, fv0, fv1, fv2, fv3, fp1, fp20, fp21, fp3, tl_s, tl_n, lg0, lg1, lg2, lg3, lg4, lg5, lg6, lg7, lg8, lg9, lg10, lg11, lg12, lg13, lg14, lg15, lg16, lg17, ls0, ls1, ls2, ls3, ls4, ls5, ls6, ls7, ls8, ls9, ls10, ls11, ls12, ls13, ls14, ls15, ls16, ls17, lk0, lk1, lk2, lk3, lk4, lk5, lk6, lk7, lk8, lk9, lk10, lk11, lk12, lk13, lk14, lk15, lk16, lk17, kl_n, kl_i, kl_r, kl_l, Nat.reduceAdd, Nat.reduceLeDiff, not_false_eq_true, r_ins0, r_ins1, r_ins2, r_ins3, r_ins4, r_ins5]
  refine ⟨by simp, ?_⟩
  cases hc : rg i (gno g) with
  | false => rw [rF, n10, brc_nF, if_neg (fun q => by cases q.1)]; exact ⟨rfl, h, Up.rf⟩
  | true =>
    rw [rT, brc_neg (fun q => q rfl)]
    refine ⟨by simp, ?_⟩
    cases hx : rg x (1 + 1) with
    | false => rw [rF, n10, brc_F, if_neg (fun q => by cases q.2)]; exact ⟨rfl, h, Up.rf⟩
    | true =>
      obtain ⟨b1, e1⟩ := rg_T hc
      obtain ⟨b2, e2⟩ := rg_T hx
      rw [rT, brc_pos rfl, if_pos ⟨rfl, rfl⟩]
      generalize cl i = j at *
      generalize cl x = k at *
      subst e1
      subst e2
      refine ⟨by decide, by simp, (k_wait h (by omega)).mono ?_⟩
      rintro r N ⟨rfl, hN, hU, h5, h7⟩
      simp only [B_72_0, B_72_1, B_72_2, B_72_3, B_72_4, cB, cP, r_iconst_p, r_iconst_m, r_bipush_p, r_bipush_m, r_sipush_p, r_sipush_m, r_ldc_p, r_ldc_m, r_ldc_w_p, r_ldc_w_m, r_lconst_p, r_lconst_m, r_ldc2_w_p, r_ldc2_w_m, r_iload, r_iload_n, r_lload, r_lload_n, r_aload, r_aload_n, r_istore, r_istore_n, r_astore, r_astore_n, r_lstore, r_lstore_n, r_iinc_p, r_iinc_m, r_iadd, r_isub, r_imul, r_iand, r_ior, r_ixor, r_ishl, r_ishr, r_iushr, r_idiv, r_irem, r_ladd, r_lsub, r_lmul, r_ldiv, r_lrem, r_lshl, r_lcmp, r_i2l, r_i2b, r_i2s, r_dup_i, r_dup_r, r_dup2_ii, r_dup2_ir, r_dup2_l, r_pop, r_getfield, r_putfield, r_iaload, r_iastore, r_aaload, r_arraylength, r_if_eq, r_icmp_eq, r_if_ne, r_icmp_ne, r_if_lt, r_icmp_lt, r_if_ge, r_icmp_ge, r_if_gt, r_icmp_gt, r_if_le, r_icmp_le, r_goto, r_switch, r_ireturn0, r_ireturn1, r_lreturn, r_areturn, r_return, r_inv0, r_inv1, r_inv2, r_inv3, r_inv4, r_inv5, r_min, r_max, r_acopy, onI_s, onL_s, onR_s, onO_s, fv0, fv1, fv2, fv3, fp1, fp20, fp21, fp3, tl_s, tl_n, lg0, lg1, lg2, lg3, lg4, lg5, lg6, lg7, lg8, lg9, lg10, lg11, lg12, lg13, lg14, lg15, lg16, lg17, ls0, ls1, ls2, ls3, ls4, ls5, ls6, ls7, ls8, ls9, ls10, ls11, ls12, ls13, ls14, ls15, ls16, ls17, lk0, lk1, lk2, lk3, lk4, lk5, lk6, lk7, lk8, lk9, lk10, lk11, lk12, lk13, lk14, lk15, lk16, lk17, kl_n, kl_i, kl_r, kl_l, Nat.reduceAdd, Nat.reduceLeDiff, not_false_eq_true, r_ins0, r_ins1, r_ins2, r_ins3, r_ins4, r_ins5]
      rw [h5, h7, q_eq (by omega) (by omega)]
      refine brc_i (fun hz => ?_) (fun hz => ?_)
      · rw [if_neg hz]; exact ⟨rfl, hN, hU⟩
      · rw [if_pos (Classical.not_not.mp hz)]; exact ⟨rfl, hN, hU⟩
theorem c_spare (h : CI M g) (i : Int32) : Ct 73 [.ref 0, .int i] M (fun r N => r = some (.int (aSpare g i)) ∧ CI N g ∧ Up M N) := by
  unfold aSpare
  simp only [E_73, B_73_0, B_73_1, B_73_2, B_73_3, B_73_4, B_73_5, cB, r_iconst_p, r_iconst_m, r_bipush_p, r_bipush_m, r_sipush_p, r_sipush_m, r_ldc_p, r_ldc_m, r_ldc_w_p, r_ldc_w_m, r_lconst_p, r_lconst_m, r_ldc2_w_p, r_ldc2_w_m, r_iload, r_iload_n, r_lload, r_lload_n, r_aload, r_aload_n, r_istore, r_istore_n, r_astore, r_astore_n, r_lstore, r_lstore_n, r_iinc_p, r_iinc_m, r_iadd, r_isub, r_imul, r_iand, r_ior, r_ixor, r_ishl, r_ishr, r_iushr, r_idiv, r_irem, r_ladd, r_lsub, r_lmul, r_ldiv, r_lrem, r_lshl, r_lcmp, r_i2l, r_i2b, r_i2s, r_dup_i, r_dup_r, r_dup2_ii, r_dup2_ir, r_dup2_l, r_pop, r_getfield, r_putfield, r_iaload, r_iastore, r_aaload, r_arraylength, r_if_eq, r_icmp_eq, r_if_ne, r_icmp_ne, r_if_lt, r_icmp_lt, r_if_ge, r_icmp_ge, r_if_gt, r_icmp_gt, r_if_le, r_icmp_le, r_goto, r_switch, r_ireturn0, r_ireturn1, r_lreturn, r_areturn, r_return, r_inv0, r_inv1, r_inv2, r_inv3, r_inv4, r_inv5, r_min, r_max, r_acopy, onI_s, onL_s, onR_s, onO_s, fv0, fv1, fv2, fv3, fp1, fp20, fp21, fp3, tl_s, tl_n, lg0, lg1, lg2, lg3, lg4, lg5, lg6, lg7, lg8, lg9, lg10, lg11, lg12, lg13, lg14, lg15, lg16, lg17, ls0, ls1, ls2, ls3, ls4, ls5, ls6, ls7, ls8, ls9, ls10, ls11, ls12, ls13, ls14, ls15, ls16, ls17, lk0, lk1, lk2, lk3, lk4, lk5, lk6, lk7, lk8, lk9, lk10, lk11, lk12, lk13, lk14, lk15, lk16, lk17, kl_n, kl_i, kl_r, kl_l, Nat.reduceAdd, Nat.reduceLeDiff, not_false_eq_true, r_ins0, r_ins1, r_ins2, r_ins3, r_ins4, r_ins5]
  refine brc_i (fun h1 => ?_) (fun h1 => brc_i (fun h2 => ?_) (fun h2 => ?_))
  · rw [if_pos (Or.inl h1)]; exact ⟨rfl, h, Up.rf⟩
  · rw [if_neg (fun q => q.elim h1 (fun w => Int32.not_lt.mpr h2 w))]
    refine ⟨by decide, by simp, (k_spare h).mono ?_⟩
    rintro r N ⟨rfl, hN, hU, h7, h5, h6⟩
    simp only [B_73_0, B_73_1, B_73_2, B_73_3, B_73_4, B_73_5, cB, cP, r_iconst_p, r_iconst_m, r_bipush_p, r_bipush_m, r_sipush_p, r_sipush_m, r_ldc_p, r_ldc_m, r_ldc_w_p, r_ldc_w_m, r_lconst_p, r_lconst_m, r_ldc2_w_p, r_ldc2_w_m, r_iload, r_iload_n, r_lload, r_lload_n, r_aload, r_aload_n, r_istore, r_istore_n, r_astore, r_astore_n, r_lstore, r_lstore_n, r_iinc_p, r_iinc_m, r_iadd, r_isub, r_imul, r_iand, r_ior, r_ixor, r_ishl, r_ishr, r_iushr, r_idiv, r_irem, r_ladd, r_lsub, r_lmul, r_ldiv, r_lrem, r_lshl, r_lcmp, r_i2l, r_i2b, r_i2s, r_dup_i, r_dup_r, r_dup2_ii, r_dup2_ir, r_dup2_l, r_pop, r_getfield, r_putfield, r_iaload, r_iastore, r_aaload, r_arraylength, r_if_eq, r_icmp_eq, r_if_ne, r_icmp_ne, r_if_lt, r_icmp_lt, r_if_ge, r_icmp_ge, r_if_gt, r_icmp_gt, r_if_le, r_icmp_le, r_goto, r_switch, r_ireturn0, r_ireturn1, r_lreturn, r_areturn, r_return, r_inv0, r_inv1, r_inv2, r_inv3, r_inv4, r_inv5, r_min, r_max, r_acopy, onI_s, onL_s, onR_s, onO_s, fv0, fv1, fv2, fv3, fp1, fp20, fp21, fp3, tl_s, tl_n, lg0, lg1, lg2, lg3, lg4, lg5, lg6, lg7, lg8, lg9, lg10, lg11, lg12, lg13, lg14, lg15, lg16, lg17, ls0, ls1, ls2, ls3, ls4, ls5, ls6, ls7, ls8, ls9, ls10, ls11, ls12, ls13, ls14, ls15, ls16, ls17, lk0, lk1, lk2, lk3, lk4, lk5, lk6, lk7, lk8, lk9, lk10, lk11, lk12, lk13, lk14, lk15, lk16, lk17, kl_n, kl_i, kl_r, kl_l, Nat.reduceAdd, Nat.reduceLeDiff, not_false_eq_true, r_ins0, r_ins1, r_ins2, r_ins3, r_ins4, r_ins5]
    rw [h5, h6, h7]
    refine brc_i (fun hz => ?_) (fun hz => ?_)
    · rw [if_neg hz]
      refine brc_i (fun hy => ?_) (fun hy => ?_)
      · rw [if_neg hy]; exact ⟨rfl, hN, hU⟩
      · rw [if_pos (Classical.not_not.mp hy)]; exact ⟨rfl, hN, hU⟩
    · rw [if_pos (Classical.not_not.mp hz)]; exact ⟨rfl, hN, hU⟩
  · rw [if_pos (Or.inr (Int32.not_le.mp h2))]; exact ⟨rfl, h, Up.rf⟩
theorem c_never (h : CI M g) : Ct 76 [.ref 0] M (fun r N => r = some (.int (aNever g)) ∧ CI N g ∧ Up M N) := by
  simp only [E_76, B_76_0, cB, r_iconst_p, r_iconst_m, r_bipush_p, r_bipush_m, r_sipush_p, r_sipush_m, r_ldc_p, r_ldc_m, r_ldc_w_p, r_ldc_w_m, r_lconst_p, r_lconst_m, r_ldc2_w_p, r_ldc2_w_m, r_iload, r_iload_n, r_lload, r_lload_n, r_aload, r_aload_n, r_istore, r_istore_n, r_astore, r_astore_n, r_lstore, r_lstore_n, r_iinc_p, r_iinc_m, r_iadd, r_isub, r_imul, r_iand, r_ior, r_ixor, r_ishl, r_ishr, r_iushr, r_idiv, r_irem, r_ladd, r_lsub, r_lmul, r_ldiv, r_lrem, r_lshl, r_lcmp, r_i2l, r_i2b, r_i2s, r_dup_i, r_dup_r, r_dup2_ii, r_dup2_ir, r_dup2_l, r_pop, r_getfield, r_putfield, r_iaload, r_iastore, r_aaload, r_arraylength, r_if_eq, r_icmp_eq, r_if_ne, r_icmp_ne, r_if_lt, r_icmp_lt, r_if_ge, r_icmp_ge, r_if_gt, r_icmp_gt, r_if_le, r_icmp_le, r_goto, r_switch, r_ireturn0, r_ireturn1, r_lreturn, r_areturn, r_return, r_inv0, r_inv1, r_inv2, r_inv3, r_inv4, r_inv5, r_min, r_max, r_acopy, onI_s, onL_s, onR_s, onO_s, fv0, fv1, fv2, fv3, fp1, fp20, fp21, fp3, tl_s, tl_n, lg0, lg1, lg2, lg3, lg4, lg5, lg6, lg7, lg8, lg9, lg10, lg11, lg12, lg13, lg14, lg15, lg16, lg17, ls0, ls1, ls2, ls3, ls4, ls5, ls6, ls7, ls8, ls9, ls10, ls11, ls12, ls13, ls14, ls15, ls16, ls17, lk0, lk1, lk2, lk3, lk4, lk5, lk6, lk7, lk8, lk9, lk10, lk11, lk12, lk13, lk14, lk15, lk16, lk17, kl_n, kl_i, kl_r, kl_l, Nat.reduceAdd, Nat.reduceLeDiff, not_false_eq_true, r_ins0, r_ins1, r_ins2, r_ins3, r_ins4, r_ins5]
  refine ⟨by decide, by simp, (k_never h).mono ?_⟩
  rintro r N ⟨rfl, hN, hU⟩
  simp only [B_76_0, cB, r_iconst_p, r_iconst_m, r_bipush_p, r_bipush_m, r_sipush_p, r_sipush_m, r_ldc_p, r_ldc_m, r_ldc_w_p, r_ldc_w_m, r_lconst_p, r_lconst_m, r_ldc2_w_p, r_ldc2_w_m, r_iload, r_iload_n, r_lload, r_lload_n, r_aload, r_aload_n, r_istore, r_istore_n, r_astore, r_astore_n, r_lstore, r_lstore_n, r_iinc_p, r_iinc_m, r_iadd, r_isub, r_imul, r_iand, r_ior, r_ixor, r_ishl, r_ishr, r_iushr, r_idiv, r_irem, r_ladd, r_lsub, r_lmul, r_ldiv, r_lrem, r_lshl, r_lcmp, r_i2l, r_i2b, r_i2s, r_dup_i, r_dup_r, r_dup2_ii, r_dup2_ir, r_dup2_l, r_pop, r_getfield, r_putfield, r_iaload, r_iastore, r_aaload, r_arraylength, r_if_eq, r_icmp_eq, r_if_ne, r_icmp_ne, r_if_lt, r_icmp_lt, r_if_ge, r_icmp_ge, r_if_gt, r_icmp_gt, r_if_le, r_icmp_le, r_goto, r_switch, r_ireturn0, r_ireturn1, r_lreturn, r_areturn, r_return, r_inv0, r_inv1, r_inv2, r_inv3, r_inv4, r_inv5, r_min, r_max, r_acopy, onI_s, onL_s, onR_s, onO_s, fv0, fv1, fv2, fv3, fp1, fp20, fp21, fp3, tl_s, tl_n, lg0, lg1, lg2, lg3, lg4, lg5, lg6, lg7, lg8, lg9, lg10, lg11, lg12, lg13, lg14, lg15, lg16, lg17, ls0, ls1, ls2, ls3, ls4, ls5, ls6, ls7, ls8, ls9, ls10, ls11, ls12, ls13, ls14, ls15, ls16, ls17, lk0, lk1, lk2, lk3, lk4, lk5, lk6, lk7, lk8, lk9, lk10, lk11, lk12, lk13, lk14, lk15, lk16, lk17, kl_n, kl_i, kl_r, kl_l, Nat.reduceAdd, Nat.reduceLeDiff, not_false_eq_true, r_ins0, r_ins1, r_ins2, r_ins3, r_ins4, r_ins5]
  exact ⟨trivial, hN, hU⟩
theorem isNo (h : CI M g) (c x : Int32) : Ev 94 [.ref 0, .int c, .int x] M (some (.int (nI (!decide (rg c 6 = true ∧ rg x 6 = true ∧ cl x < (gB g (cl c)).length)).toNat))) M := by
  apply Ev.of
  simp only [E_94, B_94_0, B_94_1, B_94_2, B_94_3, cB, (s_out c (show 5 < 2 ^ 31 by omega) M).ct, (s_out x (show 5 < 2 ^ 31 by omega) M).ct, r_iconst_p, r_iconst_m, r_bipush_p, r_bipush_m, r_sipush_p, r_sipush_m, r_ldc_p, r_ldc_m, r_ldc_w_p, r_ldc_w_m, r_lconst_p, r_lconst_m, r_ldc2_w_p, r_ldc2_w_m, r_iload, r_iload_n, r_lload, r_lload_n, r_aload, r_aload_n, r_istore, r_istore_n, r_astore, r_astore_n, r_lstore, r_lstore_n, r_iinc_p, r_iinc_m, r_iadd, r_isub, r_imul, r_iand, r_ior, r_ixor, r_ishl, r_ishr, r_iushr, r_idiv, r_irem, r_ladd, r_lsub, r_lmul, r_ldiv, r_lrem, r_lshl, r_lcmp, r_i2l, r_i2b, r_i2s, r_dup_i, r_dup_r, r_dup2_ii, r_dup2_ir, r_dup2_l, r_pop, r_getfield, r_putfield, r_iaload, r_iastore, r_aaload, r_arraylength, r_if_eq, r_icmp_eq, r_if_ne, r_icmp_ne, r_if_lt, r_icmp_lt, r_if_ge, r_icmp_ge, r_if_gt, r_icmp_gt, r_if_le, r_icmp_le, r_goto, r_switch, r_ireturn0, r_ireturn1, r_lreturn, r_areturn, r_return, r_inv0, r_inv1, r_inv2, r_inv3, r_inv4, r_inv5, r_min, r_max, r_acopy, onI_s, onL_s, onR_s, onO_s, fv0, fv1, fv2, fv3, fp1, fp20, fp21, fp3, tl_s, tl_n, lg0, lg1, lg2, lg3, lg4, lg5, lg6, lg7, lg8, lg9, lg10, lg11, lg12, lg13, lg14, lg15, lg16, lg17, ls0, ls1, ls2, ls3, ls4, ls5, ls6, ls7, ls8, ls9, ls10, ls11, ls12, ls13, ls14, ls15, ls16, ls17, lk0, lk1, lk2, lk3, lk4, lk5, lk6, lk7, lk8, lk9, lk10, lk11, lk12, lk13, lk14, lk15, lk16, lk17, kl_n, kl_i, kl_r, kl_l, Nat.reduceAdd, Nat.reduceLeDiff, not_false_eq_true, r_ins0, r_ins1, r_ins2, r_ins3, r_ins4, r_ins5]
  refine ⟨by simp, ?_⟩
  cases hc : rg c (5 + 1) with
  | false => rw [rF, n10, brc_nF, decide_eq_false (fun q => by cases q.1)]; exact ⟨Or.inr trivial, rfl, trivial⟩
  | true =>
    rw [rT, brc_neg (fun q => q rfl)]
    refine ⟨by simp, ?_⟩
    cases hx : rg x (5 + 1) with
    | false => rw [rF, n10, brc_nF, decide_eq_false (fun q => by cases q.2.1)]; exact ⟨Or.inr trivial, rfl, trivial⟩
    | true =>
      obtain ⟨b1, e1⟩ := rg_T hc
      obtain ⟨b2, e2⟩ := rg_T hx
      rw [rT, brc_neg (fun q => q rfl)]
      have hB : (gB g (cl c)).length ≤ 6 ∧ ∀ v ∈ gB g (cl c), 1 ≤ v ∧ v ≤ 9 := bkC_ok (t0 g) (n0 g) (cl c)
      have h9 : (gB g (cl c)).getD (cl x) 0 ≤ 9 := getD_le hB.2 (cl x)
      have hR := (h.1.2.2.1.1 _ b1).2 _ b2
      generalize cl c = j at *
      generalize cl x = k at *
      subst e1
      subst e2
      rw [q_mul, q_add, inb_n (n := 36) rfl (by omega) (by omega), nI_clamp (by omega), hR, q_eq (by omega) (by omega)]
      refine ⟨by omega, brc_i (fun hz => ?_) (fun hz => ?_)⟩
      · have hq : k < (gB g j).length := by
          rcases Nat.lt_or_ge k (gB g j).length with q | q
          · exact q
          · exact absurd (by rw [List.getD_eq_getElem?_getD, List.getElem?_eq_none q]; rfl) hz
        rw [decide_eq_true ⟨rfl, rfl, hq⟩]
        exact ⟨Or.inl trivial, rfl, trivial⟩
      · rw [decide_eq_false]
        · exact ⟨Or.inr trivial, rfl, trivial⟩
        · rintro ⟨-, -, q⟩
          have q1 : 1 ≤ (gB g j).getD k 0 := getD_pos hB.2 q
          have q2 : (gB g j).getD k 0 = 0 := Classical.not_not.mp hz
          omega
theorem c_size (h : CI M g) (c x : Int32) : Ct 77 [.ref 0, .int c, .int x] M (fun r N => r = some (.int (aSize g c x)) ∧ CI N g ∧ Up M N) := by
  unfold aSize
  simp only [E_77, B_77_0, B_77_1, B_77_2, cB, (isNo h c x).ct, r_iconst_p, r_iconst_m, r_bipush_p, r_bipush_m, r_sipush_p, r_sipush_m, r_ldc_p, r_ldc_m, r_ldc_w_p, r_ldc_w_m, r_lconst_p, r_lconst_m, r_ldc2_w_p, r_ldc2_w_m, r_iload, r_iload_n, r_lload, r_lload_n, r_aload, r_aload_n, r_istore, r_istore_n, r_astore, r_astore_n, r_lstore, r_lstore_n, r_iinc_p, r_iinc_m, r_iadd, r_isub, r_imul, r_iand, r_ior, r_ixor, r_ishl, r_ishr, r_iushr, r_idiv, r_irem, r_ladd, r_lsub, r_lmul, r_ldiv, r_lrem, r_lshl, r_lcmp, r_i2l, r_i2b, r_i2s, r_dup_i, r_dup_r, r_dup2_ii, r_dup2_ir, r_dup2_l, r_pop, r_getfield, r_putfield, r_iaload, r_iastore, r_aaload, r_arraylength, r_if_eq, r_icmp_eq, r_if_ne, r_icmp_ne, r_if_lt, r_icmp_lt, r_if_ge, r_icmp_ge, r_if_gt, r_icmp_gt, r_if_le, r_icmp_le, r_goto, r_switch, r_ireturn0, r_ireturn1, r_lreturn, r_areturn, r_return, r_inv0, r_inv1, r_inv2, r_inv3, r_inv4, r_inv5, r_min, r_max, r_acopy, onI_s, onL_s, onR_s, onO_s, fv0, fv1, fv2, fv3, fp1, fp20, fp21, fp3, tl_s, tl_n, lg0, lg1, lg2, lg3, lg4, lg5, lg6, lg7, lg8, lg9, lg10, lg11, lg12, lg13, lg14, lg15, lg16, lg17, ls0, ls1, ls2, ls3, ls4, ls5, ls6, ls7, ls8, ls9, ls10, ls11, ls12, ls13, ls14, ls15, ls16, ls17, lk0, lk1, lk2, lk3, lk4, lk5, lk6, lk7, lk8, lk9, lk10, lk11, lk12, lk13, lk14, lk15, lk16, lk17, kl_n, kl_i, kl_r, kl_l, Nat.reduceAdd, Nat.reduceLeDiff, not_false_eq_true, r_ins0, r_ins1, r_ins2, r_ins3, r_ins4, r_ins5]
  refine ⟨trivial, by simp, ?_⟩
  by_cases hb : rg c 6 = true ∧ rg x 6 = true ∧ cl x < (gB g (cl c)).length
  · rw [decide_eq_true hb, rT, brc_pos rfl, if_pos hb]
    obtain ⟨b1, e1⟩ := rg_T hb.1
    obtain ⟨b2, e2⟩ := rg_T hb.2.1
    refine ⟨by decide, by simp, ?_⟩
    have hk := k_sizes h b1 hb.2.2
    rw [← e1, ← e2] at hk
    refine hk.mono ?_
    rintro r N ⟨rfl, hN, hU, -⟩
    simp only [B_77_0, B_77_1, B_77_2, cB, r_iconst_p, r_iconst_m, r_bipush_p, r_bipush_m, r_sipush_p, r_sipush_m, r_ldc_p, r_ldc_m, r_ldc_w_p, r_ldc_w_m, r_lconst_p, r_lconst_m, r_ldc2_w_p, r_ldc2_w_m, r_iload, r_iload_n, r_lload, r_lload_n, r_aload, r_aload_n, r_istore, r_istore_n, r_astore, r_astore_n, r_lstore, r_lstore_n, r_iinc_p, r_iinc_m, r_iadd, r_isub, r_imul, r_iand, r_ior, r_ixor, r_ishl, r_ishr, r_iushr, r_idiv, r_irem, r_ladd, r_lsub, r_lmul, r_ldiv, r_lrem, r_lshl, r_lcmp, r_i2l, r_i2b, r_i2s, r_dup_i, r_dup_r, r_dup2_ii, r_dup2_ir, r_dup2_l, r_pop, r_getfield, r_putfield, r_iaload, r_iastore, r_aaload, r_arraylength, r_if_eq, r_icmp_eq, r_if_ne, r_icmp_ne, r_if_lt, r_icmp_lt, r_if_ge, r_icmp_ge, r_if_gt, r_icmp_gt, r_if_le, r_icmp_le, r_goto, r_switch, r_ireturn0, r_ireturn1, r_lreturn, r_areturn, r_return, r_inv0, r_inv1, r_inv2, r_inv3, r_inv4, r_inv5, r_min, r_max, r_acopy, onI_s, onL_s, onR_s, onO_s, fv0, fv1, fv2, fv3, fp1, fp20, fp21, fp3, tl_s, tl_n, lg0, lg1, lg2, lg3, lg4, lg5, lg6, lg7, lg8, lg9, lg10, lg11, lg12, lg13, lg14, lg15, lg16, lg17, ls0, ls1, ls2, ls3, ls4, ls5, ls6, ls7, ls8, ls9, ls10, ls11, ls12, ls13, ls14, ls15, ls16, ls17, lk0, lk1, lk2, lk3, lk4, lk5, lk6, lk7, lk8, lk9, lk10, lk11, lk12, lk13, lk14, lk15, lk16, lk17, kl_n, kl_i, kl_r, kl_l, Nat.reduceAdd, Nat.reduceLeDiff, not_false_eq_true, r_ins0, r_ins1, r_ins2, r_ins3, r_ins4, r_ins5]
    exact ⟨trivial, hN, hU⟩
  · rw [decide_eq_false hb, rF, n10, brc_F, if_neg hb]; exact ⟨rfl, h, Up.rf⟩
theorem c_ask (h : CI M g) (c x : Int32) : Ct 78 [.ref 0, .int c, .int x] M (fun r N => r = some (.int (aAsk g c x)) ∧ CI N g ∧ Up M N) := by
  unfold aAsk
  simp only [E_78, B_78_0, B_78_1, B_78_2, cB, (isNo h c x).ct, r_iconst_p, r_iconst_m, r_bipush_p, r_bipush_m, r_sipush_p, r_sipush_m, r_ldc_p, r_ldc_m, r_ldc_w_p, r_ldc_w_m, r_lconst_p, r_lconst_m, r_ldc2_w_p, r_ldc2_w_m, r_iload, r_iload_n, r_lload, r_lload_n, r_aload, r_aload_n, r_istore, r_istore_n, r_astore, r_astore_n, r_lstore, r_lstore_n, r_iinc_p, r_iinc_m, r_iadd, r_isub, r_imul, r_iand, r_ior, r_ixor, r_ishl, r_ishr, r_iushr, r_idiv, r_irem, r_ladd, r_lsub, r_lmul, r_ldiv, r_lrem, r_lshl, r_lcmp, r_i2l, r_i2b, r_i2s, r_dup_i, r_dup_r, r_dup2_ii, r_dup2_ir, r_dup2_l, r_pop, r_getfield, r_putfield, r_iaload, r_iastore, r_aaload, r_arraylength, r_if_eq, r_icmp_eq, r_if_ne, r_icmp_ne, r_if_lt, r_icmp_lt, r_if_ge, r_icmp_ge, r_if_gt, r_icmp_gt, r_if_le, r_icmp_le, r_goto, r_switch, r_ireturn0, r_ireturn1, r_lreturn, r_areturn, r_return, r_inv0, r_inv1, r_inv2, r_inv3, r_inv4, r_inv5, r_min, r_max, r_acopy, onI_s, onL_s, onR_s, onO_s, fv0, fv1, fv2, fv3, fp1, fp20, fp21, fp3, tl_s, tl_n, lg0, lg1, lg2, lg3, lg4, lg5, lg6, lg7, lg8, lg9, lg10, lg11, lg12, lg13, lg14, lg15, lg16, lg17, ls0, ls1, ls2, ls3, ls4, ls5, ls6, ls7, ls8, ls9, ls10, ls11, ls12, ls13, ls14, ls15, ls16, ls17, lk0, lk1, lk2, lk3, lk4, lk5, lk6, lk7, lk8, lk9, lk10, lk11, lk12, lk13, lk14, lk15, lk16, lk17, kl_n, kl_i, kl_r, kl_l, Nat.reduceAdd, Nat.reduceLeDiff, not_false_eq_true, r_ins0, r_ins1, r_ins2, r_ins3, r_ins4, r_ins5]
  refine ⟨trivial, by simp, ?_⟩
  by_cases hb : rg c 6 = true ∧ rg x 6 = true ∧ cl x < (gB g (cl c)).length
  · rw [decide_eq_true hb, rT, brc_pos rfl, if_pos hb]
    obtain ⟨b1, e1⟩ := rg_T hb.1
    obtain ⟨b2, e2⟩ := rg_T hb.2.1
    refine ⟨by decide, by simp, ?_⟩
    have hk := k_sizes h b1 hb.2.2
    rw [← e1, ← e2] at hk
    refine hk.mono ?_
    rintro r N ⟨rfl, hN, hU, hE⟩
    simp only [B_78_0, B_78_1, B_78_2, cB, cP, hE.ct, r_iconst_p, r_iconst_m, r_bipush_p, r_bipush_m, r_sipush_p, r_sipush_m, r_ldc_p, r_ldc_m, r_ldc_w_p, r_ldc_w_m, r_lconst_p, r_lconst_m, r_ldc2_w_p, r_ldc2_w_m, r_iload, r_iload_n, r_lload, r_lload_n, r_aload, r_aload_n, r_istore, r_istore_n, r_astore, r_astore_n, r_lstore, r_lstore_n, r_iinc_p, r_iinc_m, r_iadd, r_isub, r_imul, r_iand, r_ior, r_ixor, r_ishl, r_ishr, r_iushr, r_idiv, r_irem, r_ladd, r_lsub, r_lmul, r_ldiv, r_lrem, r_lshl, r_lcmp, r_i2l, r_i2b, r_i2s, r_dup_i, r_dup_r, r_dup2_ii, r_dup2_ir, r_dup2_l, r_pop, r_getfield, r_putfield, r_iaload, r_iastore, r_aaload, r_arraylength, r_if_eq, r_icmp_eq, r_if_ne, r_icmp_ne, r_if_lt, r_icmp_lt, r_if_ge, r_icmp_ge, r_if_gt, r_icmp_gt, r_if_le, r_icmp_le, r_goto, r_switch, r_ireturn0, r_ireturn1, r_lreturn, r_areturn, r_return, r_inv0, r_inv1, r_inv2, r_inv3, r_inv4, r_inv5, r_min, r_max, r_acopy, onI_s, onL_s, onR_s, onO_s, fv0, fv1, fv2, fv3, fp1, fp20, fp21, fp3, tl_s, tl_n, lg0, lg1, lg2, lg3, lg4, lg5, lg6, lg7, lg8, lg9, lg10, lg11, lg12, lg13, lg14, lg15, lg16, lg17, ls0, ls1, ls2, ls3, ls4, ls5, ls6, ls7, ls8, ls9, ls10, ls11, ls12, ls13, ls14, ls15, ls16, ls17, lk0, lk1, lk2, lk3, lk4, lk5, lk6, lk7, lk8, lk9, lk10, lk11, lk12, lk13, lk14, lk15, lk16, lk17, kl_n, kl_i, kl_r, kl_l, Nat.reduceAdd, Nat.reduceLeDiff, not_false_eq_true, r_ins0, r_ins1, r_ins2, r_ins3, r_ins4, r_ins5]
    exact ⟨trivial, by simp, trivial, hN, hU⟩
  · rw [decide_eq_false hb, rF, n10, brc_F, if_neg hb]; exact ⟨rfl, h, Up.rf⟩
theorem c_chance (h : CI M g) (c i x : Int32) : Ct 79 [.ref 0, .int c, .int i, .int x] M (fun r N => r = some (.long (aChance g c i x)) ∧ CI N g ∧ Up M N) := by
  have hno := h.1.RT.2.2.2.2.1
  unfold aChance
  simp only [E_79, B_79_0, B_79_1, B_79_2, B_79_3, B_79_4, cB, h.1.2.2.1.2.1.1, (s_out c (show 16 < 2 ^ 31 by omega) M).ct, (s_outn i (show gno g < 2 ^ 31 by omega) M).ct, (s_out x (show 1 < 2 ^ 31 by omega) M).ct, r_iconst_p, r_iconst_m, r_bipush_p, r_bipush_m, r_sipush_p, r_sipush_m, r_ldc_p, r_ldc_m, r_ldc_w_p, r_ldc_w_m, r_lconst_p, r_lconst_m, r_ldc2_w_p, r_ldc2_w_m, r_iload, r_iload_n, r_lload, r_lload_n, r_aload, r_aload_n, r_istore, r_istore_n, r_astore, r_astore_n, r_lstore, r_lstore_n, r_iinc_p, r_iinc_m, r_iadd, r_isub, r_imul, r_iand, r_ior, r_ixor, r_ishl, r_ishr, r_iushr, r_idiv, r_irem, r_ladd, r_lsub, r_lmul, r_ldiv, r_lrem, r_lshl, r_lcmp, r_i2l, r_i2b, r_i2s, r_dup_i, r_dup_r, r_dup2_ii, r_dup2_ir, r_dup2_l, r_pop, r_getfield, r_putfield, r_iaload, r_iastore, r_aaload, r_arraylength, r_if_eq, r_icmp_eq, r_if_ne, r_icmp_ne, r_if_lt, r_icmp_lt, r_if_ge, r_icmp_ge, r_if_gt, r_icmp_gt, r_if_le, r_icmp_le, r_goto, r_switch, r_ireturn0, r_ireturn1, r_lreturn, r_areturn, r_return, r_inv0, r_inv1, r_inv2, r_inv3, r_inv4, r_inv5, r_min, r_max, r_acopy, onI_s, onL_s, onR_s, onO_s, fv0, fv1, fv2, fv3, fp1, fp20, fp21, fp3, tl_s, tl_n, lg0, lg1, lg2, lg3, lg4, lg5, lg6, lg7, lg8, lg9, lg10, lg11, lg12, lg13, lg14, lg15, lg16, lg17, ls0, ls1, ls2, ls3, ls4, ls5, ls6, ls7, ls8, ls9, ls10, ls11, ls12, ls13, ls14, ls15, ls16, ls17, lk0, lk1, lk2, lk3, lk4, lk5, lk6, lk7, lk8, lk9, lk10, lk11, lk12, lk13, lk14, lk15, lk16, lk17, kl_n, kl_i, kl_r, kl_l, Nat.reduceAdd, Nat.reduceLeDiff, not_false_eq_true, r_ins0, r_ins1, r_ins2, r_ins3, r_ins4, r_ins5]
  refine ⟨by simp, ?_⟩
  cases hc : rg c (16 + 1) with
  | false => rw [rF, n10, brc_nF, if_neg (fun q => by cases q.1)]; exact ⟨rfl, h, Up.rf⟩
  | true =>
    rw [rT, brc_neg (fun q => q rfl)]
    refine ⟨by simp, ?_⟩
    cases hi : rg i (gno g) with
    | false => rw [rF, n10, brc_nF, if_neg (fun q => by cases q.2.1)]; exact ⟨rfl, h, Up.rf⟩
    | true =>
      rw [rT, brc_neg (fun q => q rfl)]
      refine ⟨by simp, ?_⟩
      cases hx : rg x (1 + 1) with
      | false => rw [rF, n10, brc_F, if_neg (fun q => by cases q.2.2)]; exact ⟨rfl, h, Up.rf⟩
      | true =>
        obtain ⟨b1, e1⟩ := rg_T hc
        obtain ⟨b2, e2⟩ := rg_T hi
        obtain ⟨b3, e3⟩ := rg_T hx
        rw [rT, brc_pos rfl, if_pos ⟨rfl, rfl, rfl⟩]
        generalize cl c = j at *
        generalize cl i = k at *
        generalize cl x = y at *
        subst e1
        subst e2
        subst e3
        refine ⟨by decide, by simp, (k_chance h (by omega) (by omega)).mono ?_⟩
        rintro r N ⟨rfl, hN, hU, ha, hb⟩
        simp only [B_79_0, B_79_1, B_79_2, B_79_3, B_79_4, cB, cP, r_iconst_p, r_iconst_m, r_bipush_p, r_bipush_m, r_sipush_p, r_sipush_m, r_ldc_p, r_ldc_m, r_ldc_w_p, r_ldc_w_m, r_lconst_p, r_lconst_m, r_ldc2_w_p, r_ldc2_w_m, r_iload, r_iload_n, r_lload, r_lload_n, r_aload, r_aload_n, r_istore, r_istore_n, r_astore, r_astore_n, r_lstore, r_lstore_n, r_iinc_p, r_iinc_m, r_iadd, r_isub, r_imul, r_iand, r_ior, r_ixor, r_ishl, r_ishr, r_iushr, r_idiv, r_irem, r_ladd, r_lsub, r_lmul, r_ldiv, r_lrem, r_lshl, r_lcmp, r_i2l, r_i2b, r_i2s, r_dup_i, r_dup_r, r_dup2_ii, r_dup2_ir, r_dup2_l, r_pop, r_getfield, r_putfield, r_iaload, r_iastore, r_aaload, r_arraylength, r_if_eq, r_icmp_eq, r_if_ne, r_icmp_ne, r_if_lt, r_icmp_lt, r_if_ge, r_icmp_ge, r_if_gt, r_icmp_gt, r_if_le, r_icmp_le, r_goto, r_switch, r_ireturn0, r_ireturn1, r_lreturn, r_areturn, r_return, r_inv0, r_inv1, r_inv2, r_inv3, r_inv4, r_inv5, r_min, r_max, r_acopy, onI_s, onL_s, onR_s, onO_s, fv0, fv1, fv2, fv3, fp1, fp20, fp21, fp3, tl_s, tl_n, lg0, lg1, lg2, lg3, lg4, lg5, lg6, lg7, lg8, lg9, lg10, lg11, lg12, lg13, lg14, lg15, lg16, lg17, ls0, ls1, ls2, ls3, ls4, ls5, ls6, ls7, ls8, ls9, ls10, ls11, ls12, ls13, ls14, ls15, ls16, ls17, lk0, lk1, lk2, lk3, lk4, lk5, lk6, lk7, lk8, lk9, lk10, lk11, lk12, lk13, lk14, lk15, lk16, lk17, kl_n, kl_i, kl_r, kl_l, Nat.reduceAdd, Nat.reduceLeDiff, not_false_eq_true, r_ins0, r_ins1, r_ins2, r_ins3, r_ins4, r_ins5]
        rw [ha, hb, q_eq (by omega) (by omega)]
        refine brc_i (fun hz => ?_) (fun hz => ?_)
        · rw [if_neg hz]; exact ⟨rfl, hN, hU⟩
        · rw [if_pos (Classical.not_not.mp hz)]; exact ⟨rfl, hN, hU⟩
theorem c_summers (h : CI M g) (seed n x : Int32) : Ct 80 [.ref 0, .int seed, .int n, .int x] M (fun r N => r = some (.int (aSummers g seed n x)) ∧ CI N g ∧ Up M N) := by
  unfold aSummers
  simp only [E_80, B_80_0, B_80_1, B_80_2, B_80_3, B_80_4, cB, (s_out n (show 8 < 2 ^ 31 by omega) M).ct, (s_out x (show 1 < 2 ^ 31 by omega) M).ct, r_iconst_p, r_iconst_m, r_bipush_p, r_bipush_m, r_sipush_p, r_sipush_m, r_ldc_p, r_ldc_m, r_ldc_w_p, r_ldc_w_m, r_lconst_p, r_lconst_m, r_ldc2_w_p, r_ldc2_w_m, r_iload, r_iload_n, r_lload, r_lload_n, r_aload, r_aload_n, r_istore, r_istore_n, r_astore, r_astore_n, r_lstore, r_lstore_n, r_iinc_p, r_iinc_m, r_iadd, r_isub, r_imul, r_iand, r_ior, r_ixor, r_ishl, r_ishr, r_iushr, r_idiv, r_irem, r_ladd, r_lsub, r_lmul, r_ldiv, r_lrem, r_lshl, r_lcmp, r_i2l, r_i2b, r_i2s, r_dup_i, r_dup_r, r_dup2_ii, r_dup2_ir, r_dup2_l, r_pop, r_getfield, r_putfield, r_iaload, r_iastore, r_aaload, r_arraylength, r_if_eq, r_icmp_eq, r_if_ne, r_icmp_ne, r_if_lt, r_icmp_lt, r_if_ge, r_icmp_ge, r_if_gt, r_icmp_gt, r_if_le, r_icmp_le, r_goto, r_switch, r_ireturn0, r_ireturn1, r_lreturn, r_areturn, r_return, r_inv0, r_inv1, r_inv2, r_inv3, r_inv4, r_inv5, r_min, r_max, r_acopy, onI_s, onL_s, onR_s, onO_s, fv0, fv1, fv2, fv3, fp1, fp20, fp21, fp3, tl_s, tl_n, lg0, lg1, lg2, lg3, lg4, lg5, lg6, lg7, lg8, lg9, lg10, lg11, lg12, lg13, lg14, lg15, lg16, lg17, ls0, ls1, ls2, ls3, ls4, ls5, ls6, ls7, ls8, ls9, ls10, ls11, ls12, ls13, ls14, ls15, ls16, ls17, lk0, lk1, lk2, lk3, lk4, lk5, lk6, lk7, lk8, lk9, lk10, lk11, lk12, lk13, lk14, lk15, lk16, lk17, kl_n, kl_i, kl_r, kl_l, Nat.reduceAdd, Nat.reduceLeDiff, not_false_eq_true, r_ins0, r_ins1, r_ins2, r_ins3, r_ins4, r_ins5]
  refine ⟨by simp, ?_⟩
  cases hc : rg n (8 + 1) with
  | false => rw [rF, n10, brc_nF, if_neg (fun q => by cases q.1)]; exact ⟨rfl, h, Up.rf⟩
  | true =>
    rw [rT, brc_neg (fun q => q rfl)]
    refine ⟨by simp, ?_⟩
    cases hx : rg x (1 + 1) with
    | false => rw [rF, n10, brc_F, if_neg (fun q => by cases q.2)]; exact ⟨rfl, h, Up.rf⟩
    | true =>
      obtain ⟨b1, e1⟩ := rg_T hc
      obtain ⟨b3, e3⟩ := rg_T hx
      rw [rT, brc_pos rfl, if_pos ⟨rfl, rfl⟩]
      generalize cl n = j at *
      generalize cl x = y at *
      subst e1
      subst e3
      refine ⟨by decide, by simp, (k_drawn h seed (by omega)).mono ?_⟩
      rintro r N ⟨rfl, hN, hU, hO⟩
      simp only [B_80_0, B_80_1, B_80_2, B_80_3, B_80_4, cB, cP, (s_short_21 (gdr_ok hN.1 seed j) hO).ct, r_iconst_p, r_iconst_m, r_bipush_p, r_bipush_m, r_sipush_p, r_sipush_m, r_ldc_p, r_ldc_m, r_ldc_w_p, r_ldc_w_m, r_lconst_p, r_lconst_m, r_ldc2_w_p, r_ldc2_w_m, r_iload, r_iload_n, r_lload, r_lload_n, r_aload, r_aload_n, r_istore, r_istore_n, r_astore, r_astore_n, r_lstore, r_lstore_n, r_iinc_p, r_iinc_m, r_iadd, r_isub, r_imul, r_iand, r_ior, r_ixor, r_ishl, r_ishr, r_iushr, r_idiv, r_irem, r_ladd, r_lsub, r_lmul, r_ldiv, r_lrem, r_lshl, r_lcmp, r_i2l, r_i2b, r_i2s, r_dup_i, r_dup_r, r_dup2_ii, r_dup2_ir, r_dup2_l, r_pop, r_getfield, r_putfield, r_iaload, r_iastore, r_aaload, r_arraylength, r_if_eq, r_icmp_eq, r_if_ne, r_icmp_ne, r_if_lt, r_icmp_lt, r_if_ge, r_icmp_ge, r_if_gt, r_icmp_gt, r_if_le, r_icmp_le, r_goto, r_switch, r_ireturn0, r_ireturn1, r_lreturn, r_areturn, r_return, r_inv0, r_inv1, r_inv2, r_inv3, r_inv4, r_inv5, r_min, r_max, r_acopy, onI_s, onL_s, onR_s, onO_s, fv0, fv1, fv2, fv3, fp1, fp20, fp21, fp3, tl_s, tl_n, lg0, lg1, lg2, lg3, lg4, lg5, lg6, lg7, lg8, lg9, lg10, lg11, lg12, lg13, lg14, lg15, lg16, lg17, ls0, ls1, ls2, ls3, ls4, ls5, ls6, ls7, ls8, ls9, ls10, ls11, ls12, ls13, ls14, ls15, ls16, ls17, lk0, lk1, lk2, lk3, lk4, lk5, lk6, lk7, lk8, lk9, lk10, lk11, lk12, lk13, lk14, lk15, lk16, lk17, kl_n, kl_i, kl_r, kl_l, Nat.reduceAdd, Nat.reduceLeDiff, not_false_eq_true, r_ins0, r_ins1, r_ins2, r_ins3, r_ins4, r_ins5]
      rw [inb_n (n := 24) rfl (by omega) (by omega), nI_clamp (by omega), hO.1 23 (by omega), q_eq (by omega) (by omega)]
      refine brc_i (fun hz => ?_) (fun hz => ?_)
      · rw [if_neg hz]; exact ⟨trivial, by simp, rfl, hN, hU⟩
      · rw [if_pos (Classical.not_not.mp hz)]; exact ⟨by omega, rfl, hN, hU⟩
end CW
