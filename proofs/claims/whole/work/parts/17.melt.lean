/-! Summer: melting -/
abbrev Wth : Type := Nat × Nat × (Nat → Nat)
def RWt (M : Mem) (b : Nat) (x : Wth) : Prop := M b 1 = nI x.1 ∧ M b 2 = nI x.2.1 ∧ ∀ c, c < 6 → M (b + 1) c = nI (x.2.2 c)
def okWt (x : Wth) : Prop := x.1 < 2 ^ 24 ∧ x.2.1 < 2 ^ 24 ∧ ∀ c, x.2.2 c ≤ 24
def swF (x : Wth) (w c : Nat) : Bool := decide (x.2.2 c ≤ w)
theorem bit1 (a k : Nat) : (a >>> k) &&& 1 = (a.testBit k).toNat := by
  rw [Nat.and_one_is_mod, Nat.testBit_eq_decide_div_mod_eq, Nat.shiftRight_eq_div_pow]
  rcases Nat.mod_two_eq_zero_or_one (a / 2 ^ k) with h | h <;> simp [h]
theorem bit_nI {a k : Nat} (ha : a < 2 ^ 31) (hk : k < 31) : nI a >>> (nI k &&& 31) &&& nI 1 = nI (a.testBit k).toNat := by rw [shr_nI hk ha, q_and, bit1]
theorem max0 {a b : Nat} (ha : a < 2 ^ 30) (hb : b < 2 ^ 30) : (if nI 0 < nI a - nI b then nI a - nI b else nI 0) = nI (a - b) := by
  by_cases h : b ≤ a
  · rw [q_sub h]
    by_cases h2 : a - b = 0
    · rw [h2]; simp
    · rw [if_pos (by rw [q_lt (by omega) (by omega)]; omega)]
  · rw [if_neg, show a - b = 0 by omega]
    intro q
    have h1 := pk_sneg (a := a) (b := b) hb (by omega)
    rw [nI_0] at q
    exact Int32.lt_irrefl (Int32.lt_trans q h1)
theorem minI {a b : Nat} (ha : a < 2 ^ 31) (hb : b < 2 ^ 31) : (if nI b < nI a then nI b else nI a) = nI (min a b) := by
  rw [← apply_ite nI]
  congr 1
  rw [ite_congr (q_lt hb ha) (fun _ => rfl) (fun _ => rfl)]
  split <;> omega
theorem mel_low {f : Nat → Nat} {l : List Nat} (hl : ∀ v ∈ l, 1 ≤ v ∧ v ≤ 9) : ∀ n, n ≤ l.length → (∀ j, j < n → f j = 0) → mel f l n = (l.take n, 0)
  | 0, _, _ => by simp [mel]
  | n + 1, hn, hf => by
    have ih := mel_low hl n (by omega) (fun j hj => hf j (by omega))
    have hp := getD_pos hl (j := n) (by omega)
    unfold mel
    rw [ih, hf n (by omega), if_pos (by omega), Nat.zero_min]
    simp only [Nat.sub_zero, Nat.add_zero]
    rw [List.take_succ, List.getElem?_eq_getElem (by omega), List.getD_eq_getElem?_getD, List.getElem?_eq_getElem (by omega)]
    rfl
def mid (P l : List Nat) (n j : Nat) : Nat := if j < P.length then P.getD j 0 else if j < n then 0 else l.getD j 0
set_option maxHeartbeats 8000000 in
theorem s_mcol_21 {M : Mem} {C D : Col} {c wk : Nat} {x : Wth} (hD : RS M 23 24 D) (hc : c < 6) (hDc : D c = C c) (hC : okC6 C) (hst : ∀ d, d < 6 → M 34 d = nI (C d).length) (hn : C c ≠ []) (hw : wk < 24) (hW : RWt M 28 x) (hx : okWt x) :
    Ct 45 [.ref 21, .int (nI c), .int (nI wk)] M (fun r N => r = some (.int (nI (mlc C (swF x wk) (x.1.testBit wk) (x.2.1.testBit wk) c).2)) ∧ Fr [23, 24] M N ∧ RS N 23 24 (setc D c (mlc C (swF x wk) (x.1.testBit wk) (x.2.1.testBit wk) c).1)) := by
  generalize hQ : (fun (r : Option Value) (N : Mem) => r = some (.int (nI (mlc C (swF x wk) (x.1.testBit wk) (x.2.1.testBit wk) c).2)) ∧ Fr [23, 24] M N ∧ RS N 23 24 (setc D c (mlc C (swF x wk) (x.1.testBit wk) (x.2.1.testBit wk) c).1)) = Q
  have h0 : 0 < (C c).length := List.length_pos_iff.mpr hn
  have hl6 := (hC c).1
  have hx1 := hx.1
  have hx2 := hx.2.1
  have hx3 := hx.2.2 c
  generalize hf : los C (swF x wk) (x.1.testBit wk) (x.2.1.testBit wk) c = f
  generalize hlf : (if c = 0 then 6 else (C (c - 1)).length) = lf
  generalize hrg : (if c = 5 then 6 else (C (c + 1)).length) = rg
  generalize hs : (if x.2.2 c ≤ wk then 1 else 0) = sv
  obtain ⟨lw, hlw⟩ : ∃ lw, min ((C c).length - 1) (min lf rg) = lw := ⟨_, rfl⟩
  have hlw1 : lw ≤ (C c).length - 1 ∧ lw ≤ lf ∧ lw ≤ rg := by omega
  have hlf6 : lf ≤ 6 := by rw [← hlf]; have := (hC (c - 1)).1; split <;> omega
  have hrg6 : rg ≤ 6 := by rw [← hrg]; have := (hC (c + 1)).1; split <;> omega
  have hsv : sv ≤ 1 := by rw [← hs]; split <;> omega
  have hdr := Bool.toNat_le (x.1.testBit wk)
  have hth := Bool.toNat_le (x.2.1.testBit wk)
  -- the loss by numbers
  have hloss : ∀ n o fl fr : Nat, n < 6 → o = (if n + 1 = (C c).length ∧ sv = 0 then 1 else 0) → fl = (if lf ≤ n then 1 else 0) → fr = (if rg ≤ n then 1 else 0) → (o + fl + fr) / 2 + (x.1.testBit wk).toNat * o + (if 0 < o + fl + fr then (x.2.1.testBit wk).toNat else 0) = f n := by
    intro n o fl fr hn6 ho hfl hfr
    have e0 : (swF x wk c = false) = (sv = 0) := by
      unfold swF
      rw [← hs]
      by_cases q : x.2.2 c ≤ wk
      · simp [q]
      · simp [q]
    have e1 : fre C (swF x wk) c n = o + fl + fr := by
      unfold fre
      rw [ho, hfl, hfr, ← hlf, ← hrg]
      simp only [e0]
      congr 1
      · congr 1
        by_cases q : c = 0
        · rw [if_neg (fun h => by omega), if_pos q, if_neg (by omega)]
        · rw [if_neg q]
          by_cases q2 : (C (c - 1)).length ≤ n
          · rw [if_pos ⟨by omega, q2⟩, if_pos q2]
          · rw [if_neg (fun h => q2 h.2), if_neg q2]
      · by_cases q : c = 5
        · rw [if_neg (fun h => by omega), if_pos q, if_neg (by omega)]
        · rw [if_neg q]
          by_cases q2 : (C (c + 1)).length ≤ n
          · rw [if_pos ⟨by omega, q2⟩, if_pos q2]
          · rw [if_neg (fun h => q2 h.2), if_neg q2]
    rw [← hf]
    unfold los
    rw [e1]
    simp only [e0]
    congr 1
    · congr 1
      rw [ho]
      by_cases q : n + 1 = (C c).length ∧ sv = 0
      · simp only [if_pos q]
        cases x.1.testBit wk <;> simp [q]
      · simp only [if_neg q]
        rw [if_neg (fun h => q h.2)]
        rfl
    · cases x.2.1.testBit wk <;> simp
  have hlossle : ∀ n, n < 6 → f n ≤ 4 := by
    intro n hn6
    rw [← hloss n _ _ _ hn6 rfl rfl rfl]
    have a1 : (if n + 1 = (C c).length ∧ sv = 0 then 1 else 0) ≤ 1 := by split <;> omega
    have a2 : (if lf ≤ n then 1 else 0) ≤ 1 := by split <;> omega
    have a3 : (if rg ≤ n then 1 else 0) ≤ 1 := by split <;> omega
    have a4 : (x.1.testBit wk).toNat * (if n + 1 = (C c).length ∧ sv = 0 then 1 else 0) ≤ 1 * 1 := Nat.mul_le_mul hdr a1
    have a5 : ∀ z : Nat, (if 0 < z then (x.2.1.testBit wk).toNat else 0) ≤ 1 := fun z => by split <;> omega
    have := a5 ((if n + 1 = (C c).length ∧ sv = 0 then 1 else 0) + (if lf ≤ n then 1 else 0) + (if rg ≤ n then 1 else 0))
    omega
  -- the loop
  have key : ∀ (k n : Nat) (N : Mem) (v13 v14 v15 v16 v17 : Option Value), n + k = (C c).length → lw ≤ n → Fr [23] M N → (∀ j, j < 6 → N 23 (c * 6 + j) = nI (mid (mel f (C c) n).1 (C c) n j)) → (∀ q, q < c * 6 ∨ c * 6 + 6 ≤ q → N 23 q = M 23 q) →
      WP 45 [] 7 [some (.ref 21), some (.int (nI c)), some (.int (nI wk)), some (.int (nI lf)), some (.int (nI rg)), some (.int (nI ((C c).length - 1))), some (.int (nI sv)), some (.int (nI (x.1.testBit wk).toNat)), some (.int (nI (x.2.1.testBit wk).toNat)), some (.int (nI (lw))), some (.int (nI (mel f (C c) n).2)), some (.int (nI (mel f (C c) n).1.length)), some (.int (nI n)), v13, v14, v15, v16, v17] [] N Q := by
    intro k
    induction k with
    | zero =>
      intro n N v13 v14 v15 v16 v17 hk hlo hF hM hO
      obtain rfl : n = (C c).length := by omega
      rw [B_45_7]
      simp only [B_45_0, B_45_1, B_45_2, B_45_3, B_45_4, B_45_5, B_45_6, B_45_10, B_45_11, B_45_12, B_45_13, B_45_14, B_45_15, B_45_16, B_45_17, cP, cS, r_iconst_p, r_iconst_m, r_bipush_p, r_bipush_m, r_sipush_p, r_sipush_m, r_ldc_p, r_ldc_m, r_ldc_w_p, r_ldc_w_m, r_lconst_p, r_lconst_m, r_ldc2_w_p, r_ldc2_w_m, r_iload, r_iload_n, r_lload, r_lload_n, r_aload, r_aload_n, r_istore, r_istore_n, r_astore, r_astore_n, r_lstore, r_lstore_n, r_iinc_p, r_iinc_m, r_iadd, r_isub, r_imul, r_iand, r_ior, r_ixor, r_ishl, r_ishr, r_iushr, r_idiv, r_irem, r_ladd, r_lsub, r_lmul, r_ldiv, r_lrem, r_lshl, r_lcmp, r_i2l, r_i2b, r_i2s, r_dup_i, r_dup_r, r_dup2_ii, r_dup2_ir, r_dup2_l, r_pop, r_getfield, r_putfield, r_iaload, r_iastore, r_aaload, r_arraylength, r_if_eq, r_icmp_eq, r_if_ne, r_icmp_ne, r_if_lt, r_icmp_lt, r_if_ge, r_icmp_ge, r_if_gt, r_icmp_gt, r_if_le, r_icmp_le, r_goto, r_switch, r_ireturn0, r_ireturn1, r_lreturn, r_areturn, r_return, r_inv0, r_inv1, r_inv2, r_inv3, r_inv4, r_inv5, r_min, r_max, r_acopy, onI_s, onL_s, onR_s, onO_s, fv0, fv1, fv2, fv3, fp1, fp20, fp21, fp3, tl_s, tl_n, lg0, lg1, lg2, lg3, lg4, lg5, lg6, lg7, lg8, lg9, lg10, lg11, lg12, lg13, lg14, lg15, lg16, lg17, ls0, ls1, ls2, ls3, ls4, ls5, ls6, ls7, ls8, ls9, ls10, ls11, ls12, ls13, ls14, ls15, ls16, ls17, lk0, lk1, lk2, lk3, lk4, lk5, lk6, lk7, lk8, lk9, lk10, lk11, lk12, lk13, lk14, lk15, lk16, lk17, kl_n, kl_i, kl_r, kl_l, Nat.reduceAdd, Nat.reduceLeDiff, not_false_eq_true, r_ins0, r_ins1, r_ins2, r_ins3, r_ins4, r_ins5]
      have hP := mel_len f (C c) (C c).length
      rw [brc_pos (by rw [q_lt (by omega) (by omega)]; omega), inb_n (n := 6) rfl (by omega) (by omega), nI_clamp (by omega)]
      refine ⟨hc, ?_⟩
      rw [← hQ]
      refine ⟨by unfold mlc; rw [hf], (hF.sub (by decide)).st (by decide), ?_⟩
      unfold mlc
      rw [hf]
      intro d hd
      rw [sm_eq, sm_ne (show ¬ 23 = 24 by decide), hF 24 (by decide)]
      by_cases e : d = c
      · subst e
        rw [u_eq]
        simp only [setc, if_true]
        refine ⟨trivial, fun j hj => ?_⟩
        rw [hM j hj]
        unfold mid
        by_cases h1 : j < (mel f (C d) (C d).length).1.length
        · rw [if_pos h1]
        · rw [if_neg h1, List.getD_eq_getElem?_getD (l := (mel f (C d) (C d).length).1), List.getElem?_eq_none (by omega)]
          by_cases h2 : j < (C d).length
          · rw [if_pos h2]; rfl
          · rw [if_neg h2, List.getD_eq_getElem?_getD, List.getElem?_eq_none (by omega)]
      · rw [u_ne e]
        simp only [setc, if_neg e]
        refine ⟨(hD d hd).1, fun j hj => ?_⟩
        rw [hO _ (by omega)]
        exact (hD d hd).2 j hj
    | succ k ih =>
      intro n N v13 v14 v15 v16 v17 hk hlo hF hM hO
      have hn6 : n < 6 := by omega
      have hP := mel_len f (C c) n
      have hfn := hlossle n hn6
      have hv9 := getD_le (hC c).2 n
      have hwl : ∀ n, n ≤ 6 → (mel f (C c) n).2 ≤ 9 * n := by
        intro n
        induction n with
        | zero => intro _; exact Nat.le_refl 0
        | succ n ihn =>
          intro hn
          have := ihn (by omega)
          have h9 := getD_le (hC c).2 n
          unfold mel
          simp only
          omega
      have hwn := hwl n (by omega)
      -- from block 16 on
      have j16 : ∀ (N' : Mem) (kp ml : Nat) (v13 v14 v15 v16 v17 : Option Value), (mel f (C c) (n + 1)).1.length = kp → (mel f (C c) (n + 1)).2 = ml → Fr [23] M N' → (∀ j, j < 6 → N' 23 (c * 6 + j) = nI (mid (mel f (C c) (n + 1)).1 (C c) (n + 1) j)) → (∀ q, q < c * 6 ∨ c * 6 + 6 ≤ q → N' 23 q = M 23 q) →
          WP 45 [] 16 [some (.ref 21), some (.int (nI c)), some (.int (nI wk)), some (.int (nI lf)), some (.int (nI rg)), some (.int (nI ((C c).length - 1))), some (.int (nI sv)), some (.int (nI (x.1.testBit wk).toNat)), some (.int (nI (x.2.1.testBit wk).toNat)), some (.int (nI (lw))), some (.int (nI ml)), some (.int (nI kp)), some (.int (nI n)), v13, v14, v15, v16, v17] [] N' Q := by
        intro N' kp ml v13 v14 v15 v16 v17 h1 h2 hF' hM' hO'
        simp only [B_45_0, B_45_1, B_45_2, B_45_3, B_45_4, B_45_5, B_45_6, B_45_8, B_45_9, B_45_10, B_45_11, B_45_12, B_45_13, B_45_14, B_45_15, B_45_16, B_45_17, cP, cS, r_iconst_p, r_iconst_m, r_bipush_p, r_bipush_m, r_sipush_p, r_sipush_m, r_ldc_p, r_ldc_m, r_ldc_w_p, r_ldc_w_m, r_lconst_p, r_lconst_m, r_ldc2_w_p, r_ldc2_w_m, r_iload, r_iload_n, r_lload, r_lload_n, r_aload, r_aload_n, r_istore, r_istore_n, r_astore, r_astore_n, r_lstore, r_lstore_n, r_iinc_p, r_iinc_m, r_iadd, r_isub, r_imul, r_iand, r_ior, r_ixor, r_ishl, r_ishr, r_iushr, r_idiv, r_irem, r_ladd, r_lsub, r_lmul, r_ldiv, r_lrem, r_lshl, r_lcmp, r_i2l, r_i2b, r_i2s, r_dup_i, r_dup_r, r_dup2_ii, r_dup2_ir, r_dup2_l, r_pop, r_getfield, r_putfield, r_iaload, r_iastore, r_aaload, r_arraylength, r_if_eq, r_icmp_eq, r_if_ne, r_icmp_ne, r_if_lt, r_icmp_lt, r_if_ge, r_icmp_ge, r_if_gt, r_icmp_gt, r_if_le, r_icmp_le, r_goto, r_switch, r_ireturn0, r_ireturn1, r_lreturn, r_areturn, r_return, r_inv0, r_inv1, r_inv2, r_inv3, r_inv4, r_inv5, r_min, r_max, r_acopy, onI_s, onL_s, onR_s, onO_s, fv0, fv1, fv2, fv3, fp1, fp20, fp21, fp3, tl_s, tl_n, lg0, lg1, lg2, lg3, lg4, lg5, lg6, lg7, lg8, lg9, lg10, lg11, lg12, lg13, lg14, lg15, lg16, lg17, ls0, ls1, ls2, ls3, ls4, ls5, ls6, ls7, ls8, ls9, ls10, ls11, ls12, ls13, ls14, ls15, ls16, ls17, lk0, lk1, lk2, lk3, lk4, lk5, lk6, lk7, lk8, lk9, lk10, lk11, lk12, lk13, lk14, lk15, lk16, lk17, kl_n, kl_i, kl_r, kl_l, Nat.reduceAdd, Nat.reduceLeDiff, not_false_eq_true, r_ins0, r_ins1, r_ins2, r_ins3, r_ins4, r_ins5]
        rw [q_add, ← h1, ← h2]
        exact ih (n + 1) N' _ _ _ _ _ (by omega) (by omega) hF' hM' hO'
      -- from block 15 on: the loss is on the stack in two parts
      have j15 : ∀ (o fr t u : Nat), u + t = f n → ∀ (v15 v16 v17 : Option Value), u ≤ 4 → t ≤ 4 →
          WP 45 [] 15 [some (.ref 21), some (.int (nI c)), some (.int (nI wk)), some (.int (nI lf)), some (.int (nI rg)), some (.int (nI ((C c).length - 1))), some (.int (nI sv)), some (.int (nI (x.1.testBit wk).toNat)), some (.int (nI (x.2.1.testBit wk).toNat)), some (.int (nI (lw))), some (.int (nI (mel f (C c) n).2)), some (.int (nI (mel f (C c) n).1.length)), some (.int (nI n)), some (.int (nI o)), some (.int (nI fr)), v15, v16, v17] [.int (nI t), .int (nI u)] N Q := by
        intro o fr t u ht v15 v16 v17 hu ht4
        simp only [B_45_0, B_45_1, B_45_2, B_45_3, B_45_4, B_45_5, B_45_6, B_45_8, B_45_9, B_45_10, B_45_11, B_45_12, B_45_13, B_45_14, B_45_15, B_45_17, cP, cS, r_iconst_p, r_iconst_m, r_bipush_p, r_bipush_m, r_sipush_p, r_sipush_m, r_ldc_p, r_ldc_m, r_ldc_w_p, r_ldc_w_m, r_lconst_p, r_lconst_m, r_ldc2_w_p, r_ldc2_w_m, r_iload, r_iload_n, r_lload, r_lload_n, r_aload, r_aload_n, r_istore, r_istore_n, r_astore, r_astore_n, r_lstore, r_lstore_n, r_iinc_p, r_iinc_m, r_iadd, r_isub, r_imul, r_iand, r_ior, r_ixor, r_ishl, r_ishr, r_iushr, r_idiv, r_irem, r_ladd, r_lsub, r_lmul, r_ldiv, r_lrem, r_lshl, r_lcmp, r_i2l, r_i2b, r_i2s, r_dup_i, r_dup_r, r_dup2_ii, r_dup2_ir, r_dup2_l, r_pop, r_getfield, r_putfield, r_iaload, r_iastore, r_aaload, r_arraylength, r_if_eq, r_icmp_eq, r_if_ne, r_icmp_ne, r_if_lt, r_icmp_lt, r_if_ge, r_icmp_ge, r_if_gt, r_icmp_gt, r_if_le, r_icmp_le, r_goto, r_switch, r_ireturn0, r_ireturn1, r_lreturn, r_areturn, r_return, r_inv0, r_inv1, r_inv2, r_inv3, r_inv4, r_inv5, r_min, r_max, r_acopy, onI_s, onL_s, onR_s, onO_s, fv0, fv1, fv2, fv3, fp1, fp20, fp21, fp3, tl_s, tl_n, lg0, lg1, lg2, lg3, lg4, lg5, lg6, lg7, lg8, lg9, lg10, lg11, lg12, lg13, lg14, lg15, lg16, lg17, ls0, ls1, ls2, ls3, ls4, ls5, ls6, ls7, ls8, ls9, ls10, ls11, ls12, ls13, ls14, ls15, ls16, ls17, lk0, lk1, lk2, lk3, lk4, lk5, lk6, lk7, lk8, lk9, lk10, lk11, lk12, lk13, lk14, lk15, lk16, lk17, kl_n, kl_i, kl_r, kl_l, Nat.reduceAdd, Nat.reduceLeDiff, not_false_eq_true, r_ins0, r_ins1, r_ins2, r_ins3, r_ins4, r_ins5]
        rw [q_add, ht, q_mul, q_add, inb_n (n := 36) rfl (by omega) (by omega), nI_clamp (by omega), hM n hn6]
        have e1 : mid (mel f (C c) n).1 (C c) n n = (C c).getD n 0 := by
          unfold mid
          rw [if_neg (by omega), if_neg (by omega)]
        rw [e1, max0 (by omega) (by omega), q_sub (by omega), q_add]
        have e2 : (mel f (C c) n).2 + ((C c).getD n 0 - ((C c).getD n 0 - f n)) = (mel f (C c) (n + 1)).2 := by
          show _ = (mel f (C c) n).2 + min (f n) ((C c).getD n 0)
          omega
        rw [e2]
        refine ⟨by omega, by simp, by omega, ?_⟩
        rw [q_le (by omega) (by omega)]
        have hO1 : ∀ q, q < c * 6 ∨ c * 6 + 6 ≤ q → stM N 23 (c * 6 + n) (nI 0) 23 q = M 23 q := fun q hq => by
          rw [sm_eq, u_ne (by omega)]
          exact hO q hq
        refine brc_i (fun hz => ?_) (fun hz => ?_)
        · have e3 : (mel f (C c) (n + 1)).1 = (mel f (C c) n).1 := by
            show (if _ then _ else _) = _
            rw [if_neg (by omega)]
          refine j16 _ _ _ _ _ _ _ _ (by rw [e3]) rfl (hF.st (by decide)) ?_ hO1
          intro j hj
          rw [e3, sm_eq, u_if]
          by_cases h1 : j = n
          · rw [if_pos (by omega), h1]
            unfold mid
            rw [if_neg (by omega), if_pos (by omega)]
          · rw [if_neg (by omega), hM j hj]
            unfold mid
            by_cases h2 : j < (mel f (C c) n).1.length
            · rw [if_pos h2, if_pos h2]
            · rw [if_neg h2, if_neg h2]
              by_cases h3 : j < n
              · rw [if_pos h3, if_pos (by omega)]
              · rw [if_neg h3, if_neg (by omega)]
        · rw [q_add, inb_n (n := 36) rfl (by omega) (by omega), nI_clamp (by omega), q_add]
          have e3 : (mel f (C c) (n + 1)).1 = (mel f (C c) n).1 ++ [(C c).getD n 0 - f n] := by
            show (if _ then _ else _) = _
            rw [if_pos (by omega)]
          refine ⟨by omega, ?_⟩
          refine j16 _ _ _ _ _ _ _ _ (by rw [e3, List.length_append]; rfl) rfl ((hF.st (by decide)).st (by decide)) ?_ ?_
          · intro j hj
            rw [e3, sm_eq, u_if, sm_eq, u_if]
            unfold mid
            rw [List.length_append, List.length_singleton]
            by_cases h1 : j = (mel f (C c) n).1.length
            · rw [if_pos (by omega), if_pos (by omega), h1, List.getD_eq_getElem?_getD (l := _ ++ _), List.getElem?_append_right (Nat.le_refl _), Nat.sub_self]
              rfl
            · rw [if_neg (by omega)]
              by_cases h2 : j < (mel f (C c) n).1.length
              · rw [if_neg (by omega), if_pos (by omega), hM j hj, List.getD_eq_getElem?_getD (l := _ ++ _), List.getElem?_append_left h2, ← List.getD_eq_getElem?_getD]
                unfold mid
                rw [if_pos h2]
              · rw [if_neg (show ¬ j < _ + 1 by omega)]
                by_cases h3 : j = n
                · rw [if_pos (by omega), if_pos (by omega)]
                · rw [if_neg (by omega), hM j hj]
                  unfold mid
                  rw [if_neg h2]
                  by_cases h4 : j < n
                  · rw [if_pos h4, if_pos (by omega)]
                  · rw [if_neg h4, if_neg (by omega)]
          · intro q hq
            rw [sm_eq, u_ne (by omega)]
            exact hO1 q hq
      -- the free sides
      have j13 : ∀ (o fl fr : Nat), o = (if n + 1 = (C c).length ∧ sv = 0 then 1 else 0) → fl = (if lf ≤ n then 1 else 0) → fr = (if rg ≤ n then 1 else 0) → ∀ (v14 v15 v16 v17 : Option Value),
          WP 45 [] 13 [some (.ref 21), some (.int (nI c)), some (.int (nI wk)), some (.int (nI lf)), some (.int (nI rg)), some (.int (nI ((C c).length - 1))), some (.int (nI sv)), some (.int (nI (x.1.testBit wk).toNat)), some (.int (nI (x.2.1.testBit wk).toNat)), some (.int (nI (lw))), some (.int (nI (mel f (C c) n).2)), some (.int (nI (mel f (C c) n).1.length)), some (.int (nI n)), some (.int (nI o)), v14, v15, v16, v17] [.int (nI fr), .int (nI (o + fl))] N Q := by
        intro o fl fr ho hfl hfr v14 v15 v16 v17
        have hL := hloss n o fl fr hn6 ho hfl hfr
        have a1 : o ≤ 1 := by rw [ho]; split <;> omega
        have a2 : fl ≤ 1 := by rw [hfl]; split <;> omega
        have a3 : fr ≤ 1 := by rw [hfr]; split <;> omega
        have a4 : (x.1.testBit wk).toNat * o ≤ 1 * 1 := Nat.mul_le_mul hdr a1
        simp only [B_45_0, B_45_1, B_45_2, B_45_3, B_45_4, B_45_5, B_45_6, B_45_8, B_45_9, B_45_10, B_45_11, B_45_12, B_45_13, B_45_14, B_45_16, B_45_17, cP, cS, r_iconst_p, r_iconst_m, r_bipush_p, r_bipush_m, r_sipush_p, r_sipush_m, r_ldc_p, r_ldc_m, r_ldc_w_p, r_ldc_w_m, r_lconst_p, r_lconst_m, r_ldc2_w_p, r_ldc2_w_m, r_iload, r_iload_n, r_lload, r_lload_n, r_aload, r_aload_n, r_istore, r_istore_n, r_astore, r_astore_n, r_lstore, r_lstore_n, r_iinc_p, r_iinc_m, r_iadd, r_isub, r_imul, r_iand, r_ior, r_ixor, r_ishl, r_ishr, r_iushr, r_idiv, r_irem, r_ladd, r_lsub, r_lmul, r_ldiv, r_lrem, r_lshl, r_lcmp, r_i2l, r_i2b, r_i2s, r_dup_i, r_dup_r, r_dup2_ii, r_dup2_ir, r_dup2_l, r_pop, r_getfield, r_putfield, r_iaload, r_iastore, r_aaload, r_arraylength, r_if_eq, r_icmp_eq, r_if_ne, r_icmp_ne, r_if_lt, r_icmp_lt, r_if_ge, r_icmp_ge, r_if_gt, r_icmp_gt, r_if_le, r_icmp_le, r_goto, r_switch, r_ireturn0, r_ireturn1, r_lreturn, r_areturn, r_return, r_inv0, r_inv1, r_inv2, r_inv3, r_inv4, r_inv5, r_min, r_max, r_acopy, onI_s, onL_s, onR_s, onO_s, fv0, fv1, fv2, fv3, fp1, fp20, fp21, fp3, tl_s, tl_n, lg0, lg1, lg2, lg3, lg4, lg5, lg6, lg7, lg8, lg9, lg10, lg11, lg12, lg13, lg14, lg15, lg16, lg17, ls0, ls1, ls2, ls3, ls4, ls5, ls6, ls7, ls8, ls9, ls10, ls11, ls12, ls13, ls14, ls15, ls16, ls17, lk0, lk1, lk2, lk3, lk4, lk5, lk6, lk7, lk8, lk9, lk10, lk11, lk12, lk13, lk14, lk15, lk16, lk17, kl_n, kl_i, kl_r, kl_l, Nat.reduceAdd, Nat.reduceLeDiff, not_false_eq_true, r_ins0, r_ins1, r_ins2, r_ins3, r_ins4, r_ins5]
        rw [q_add, pk_div (by omega) (by omega) (by omega), q_mul, q_add, q_le (by omega) (by omega), q_eq (by omega) (by omega)]
        refine ⟨by omega, ?_⟩
        refine brc_i (fun hz => ?_) (fun hz => ?_)
        · rw [if_neg (by omega)] at hL
          exact j15 _ _ _ _ hL _ _ _ (by omega) (by omega)
        · rw [if_pos (by omega)] at hL
          exact j15 _ _ _ _ hL _ _ _ (by omega) (by omega)
      have j11 : ∀ (o fl : Nat), o = (if n + 1 = (C c).length ∧ sv = 0 then 1 else 0) → fl = (if lf ≤ n then 1 else 0) → ∀ (v14 v15 v16 v17 : Option Value),
          WP 45 [] 11 [some (.ref 21), some (.int (nI c)), some (.int (nI wk)), some (.int (nI lf)), some (.int (nI rg)), some (.int (nI ((C c).length - 1))), some (.int (nI sv)), some (.int (nI (x.1.testBit wk).toNat)), some (.int (nI (x.2.1.testBit wk).toNat)), some (.int (nI (lw))), some (.int (nI (mel f (C c) n).2)), some (.int (nI (mel f (C c) n).1.length)), some (.int (nI n)), some (.int (nI o)), v14, v15, v16, v17] [.int (nI fl), .int (nI o)] N Q := by
        intro o fl ho hfl v14 v15 v16 v17
        simp only [B_45_0, B_45_1, B_45_2, B_45_3, B_45_4, B_45_5, B_45_6, B_45_8, B_45_9, B_45_10, B_45_11, B_45_12, B_45_14, B_45_15, B_45_16, B_45_17, cP, cS, r_iconst_p, r_iconst_m, r_bipush_p, r_bipush_m, r_sipush_p, r_sipush_m, r_ldc_p, r_ldc_m, r_ldc_w_p, r_ldc_w_m, r_lconst_p, r_lconst_m, r_ldc2_w_p, r_ldc2_w_m, r_iload, r_iload_n, r_lload, r_lload_n, r_aload, r_aload_n, r_istore, r_istore_n, r_astore, r_astore_n, r_lstore, r_lstore_n, r_iinc_p, r_iinc_m, r_iadd, r_isub, r_imul, r_iand, r_ior, r_ixor, r_ishl, r_ishr, r_iushr, r_idiv, r_irem, r_ladd, r_lsub, r_lmul, r_ldiv, r_lrem, r_lshl, r_lcmp, r_i2l, r_i2b, r_i2s, r_dup_i, r_dup_r, r_dup2_ii, r_dup2_ir, r_dup2_l, r_pop, r_getfield, r_putfield, r_iaload, r_iastore, r_aaload, r_arraylength, r_if_eq, r_icmp_eq, r_if_ne, r_icmp_ne, r_if_lt, r_icmp_lt, r_if_ge, r_icmp_ge, r_if_gt, r_icmp_gt, r_if_le, r_icmp_le, r_goto, r_switch, r_ireturn0, r_ireturn1, r_lreturn, r_areturn, r_return, r_inv0, r_inv1, r_inv2, r_inv3, r_inv4, r_inv5, r_min, r_max, r_acopy, onI_s, onL_s, onR_s, onO_s, fv0, fv1, fv2, fv3, fp1, fp20, fp21, fp3, tl_s, tl_n, lg0, lg1, lg2, lg3, lg4, lg5, lg6, lg7, lg8, lg9, lg10, lg11, lg12, lg13, lg14, lg15, lg16, lg17, ls0, ls1, ls2, ls3, ls4, ls5, ls6, ls7, ls8, ls9, ls10, ls11, ls12, ls13, ls14, ls15, ls16, ls17, lk0, lk1, lk2, lk3, lk4, lk5, lk6, lk7, lk8, lk9, lk10, lk11, lk12, lk13, lk14, lk15, lk16, lk17, kl_n, kl_i, kl_r, kl_l, Nat.reduceAdd, Nat.reduceLeDiff, not_false_eq_true, r_ins0, r_ins1, r_ins2, r_ins3, r_ins4, r_ins5]
        rw [q_add, q_lt (by omega) (by omega)]
        refine brc_i (fun hz => ?_) (fun hz => ?_)
        · exact j13 o fl 0 ho hfl (by rw [if_neg (by omega)]) _ _ _ _
        · exact j13 o fl 1 ho hfl (by rw [if_pos (by omega)]) _ _ _ _
      have j9 : ∀ (o : Nat), o = (if n + 1 = (C c).length ∧ sv = 0 then 1 else 0) → ∀ (v13 v14 v15 v16 v17 : Option Value),
          WP 45 [] 9 [some (.ref 21), some (.int (nI c)), some (.int (nI wk)), some (.int (nI lf)), some (.int (nI rg)), some (.int (nI ((C c).length - 1))), some (.int (nI sv)), some (.int (nI (x.1.testBit wk).toNat)), some (.int (nI (x.2.1.testBit wk).toNat)), some (.int (nI (lw))), some (.int (nI (mel f (C c) n).2)), some (.int (nI (mel f (C c) n).1.length)), some (.int (nI n)), v13, v14, v15, v16, v17] [.int (nI o)] N Q := by
        intro o ho v13 v14 v15 v16 v17
        simp only [B_45_0, B_45_1, B_45_2, B_45_3, B_45_4, B_45_5, B_45_6, B_45_8, B_45_9, B_45_10, B_45_12, B_45_13, B_45_14, B_45_15, B_45_16, B_45_17, cP, cS, r_iconst_p, r_iconst_m, r_bipush_p, r_bipush_m, r_sipush_p, r_sipush_m, r_ldc_p, r_ldc_m, r_ldc_w_p, r_ldc_w_m, r_lconst_p, r_lconst_m, r_ldc2_w_p, r_ldc2_w_m, r_iload, r_iload_n, r_lload, r_lload_n, r_aload, r_aload_n, r_istore, r_istore_n, r_astore, r_astore_n, r_lstore, r_lstore_n, r_iinc_p, r_iinc_m, r_iadd, r_isub, r_imul, r_iand, r_ior, r_ixor, r_ishl, r_ishr, r_iushr, r_idiv, r_irem, r_ladd, r_lsub, r_lmul, r_ldiv, r_lrem, r_lshl, r_lcmp, r_i2l, r_i2b, r_i2s, r_dup_i, r_dup_r, r_dup2_ii, r_dup2_ir, r_dup2_l, r_pop, r_getfield, r_putfield, r_iaload, r_iastore, r_aaload, r_arraylength, r_if_eq, r_icmp_eq, r_if_ne, r_icmp_ne, r_if_lt, r_icmp_lt, r_if_ge, r_icmp_ge, r_if_gt, r_icmp_gt, r_if_le, r_icmp_le, r_goto, r_switch, r_ireturn0, r_ireturn1, r_lreturn, r_areturn, r_return, r_inv0, r_inv1, r_inv2, r_inv3, r_inv4, r_inv5, r_min, r_max, r_acopy, onI_s, onL_s, onR_s, onO_s, fv0, fv1, fv2, fv3, fp1, fp20, fp21, fp3, tl_s, tl_n, lg0, lg1, lg2, lg3, lg4, lg5, lg6, lg7, lg8, lg9, lg10, lg11, lg12, lg13, lg14, lg15, lg16, lg17, ls0, ls1, ls2, ls3, ls4, ls5, ls6, ls7, ls8, ls9, ls10, ls11, ls12, ls13, ls14, ls15, ls16, ls17, lk0, lk1, lk2, lk3, lk4, lk5, lk6, lk7, lk8, lk9, lk10, lk11, lk12, lk13, lk14, lk15, lk16, lk17, kl_n, kl_i, kl_r, kl_l, Nat.reduceAdd, Nat.reduceLeDiff, not_false_eq_true, r_ins0, r_ins1, r_ins2, r_ins3, r_ins4, r_ins5]
        rw [q_lt (by omega) (by omega)]
        refine brc_i (fun hz => ?_) (fun hz => ?_)
        · exact j11 o 0 ho (by rw [if_neg (by omega)]) _ _ _ _
        · exact j11 o 1 ho (by rw [if_pos (by omega)]) _ _ _ _
      rw [B_45_7]
      simp only [B_45_0, B_45_1, B_45_2, B_45_3, B_45_4, B_45_5, B_45_6, B_45_8, B_45_10, B_45_11, B_45_12, B_45_13, B_45_14, B_45_15, B_45_16, B_45_17, cP, cS, r_iconst_p, r_iconst_m, r_bipush_p, r_bipush_m, r_sipush_p, r_sipush_m, r_ldc_p, r_ldc_m, r_ldc_w_p, r_ldc_w_m, r_lconst_p, r_lconst_m, r_ldc2_w_p, r_ldc2_w_m, r_iload, r_iload_n, r_lload, r_lload_n, r_aload, r_aload_n, r_istore, r_istore_n, r_astore, r_astore_n, r_lstore, r_lstore_n, r_iinc_p, r_iinc_m, r_iadd, r_isub, r_imul, r_iand, r_ior, r_ixor, r_ishl, r_ishr, r_iushr, r_idiv, r_irem, r_ladd, r_lsub, r_lmul, r_ldiv, r_lrem, r_lshl, r_lcmp, r_i2l, r_i2b, r_i2s, r_dup_i, r_dup_r, r_dup2_ii, r_dup2_ir, r_dup2_l, r_pop, r_getfield, r_putfield, r_iaload, r_iastore, r_aaload, r_arraylength, r_if_eq, r_icmp_eq, r_if_ne, r_icmp_ne, r_if_lt, r_icmp_lt, r_if_ge, r_icmp_ge, r_if_gt, r_icmp_gt, r_if_le, r_icmp_le, r_goto, r_switch, r_ireturn0, r_ireturn1, r_lreturn, r_areturn, r_return, r_inv0, r_inv1, r_inv2, r_inv3, r_inv4, r_inv5, r_min, r_max, r_acopy, onI_s, onL_s, onR_s, onO_s, fv0, fv1, fv2, fv3, fp1, fp20, fp21, fp3, tl_s, tl_n, lg0, lg1, lg2, lg3, lg4, lg5, lg6, lg7, lg8, lg9, lg10, lg11, lg12, lg13, lg14, lg15, lg16, lg17, ls0, ls1, ls2, ls3, ls4, ls5, ls6, ls7, ls8, ls9, ls10, ls11, ls12, ls13, ls14, ls15, ls16, ls17, lk0, lk1, lk2, lk3, lk4, lk5, lk6, lk7, lk8, lk9, lk10, lk11, lk12, lk13, lk14, lk15, lk16, lk17, kl_n, kl_i, kl_r, kl_l, Nat.reduceAdd, Nat.reduceLeDiff, not_false_eq_true, r_ins0, r_ins1, r_ins2, r_ins3, r_ins4, r_ins5]
      rw [brc_neg (by rw [q_lt (by omega) (by omega)]; omega), q_eq (by omega) (by omega), q_eq (by omega) (by omega)]
      refine brc_i (fun hz => ?_) (fun hz => brc_i (fun hz2 => ?_) (fun hz2 => ?_))
      · exact j9 0 (by rw [if_neg (by omega)]) _ _ _ _ _
      · exact j9 0 (by rw [if_neg (by omega)]) _ _ _ _ _
      · exact j9 1 (by rw [if_pos (by omega)]) _ _ _ _ _
  -- the entry
  have hlow : mel f (C c) (lw) = ((C c).take (lw), 0) := by
    refine mel_low (hC c).2 _ (by omega) (fun j hj => ?_)
    rw [← hloss j _ _ _ (by omega) rfl rfl rfl, if_neg (show ¬ (j + 1 = (C c).length ∧ sv = 0) by omega), if_neg (show ¬ lf ≤ j by omega), if_neg (show ¬ rg ≤ j by omega)]
    simp
  have j6 : ∀ (v6 v7 v8 v9 v10 v11 v12 v13 v14 v15 v16 v17 : Option Value), WP 45 [] 6 [some (.ref 21), some (.int (nI c)), some (.int (nI wk)), some (.int (nI lf)), some (.int (nI rg)), some (.int (nI ((C c).length - 1))), v6, v7, v8, v9, v10, v11, v12, v13, v14, v15, v16, v17] [.int (nI sv)] M Q := by
    intro v6 v7 v8 v9 v10 v11 v12 v13 v14 v15 v16 v17
    simp only [B_45_0, B_45_1, B_45_2, B_45_3, B_45_4, B_45_5, B_45_6, B_45_8, B_45_9, B_45_10, B_45_11, B_45_12, B_45_13, B_45_14, B_45_15, B_45_16, B_45_17, cP, cS, r_iconst_p, r_iconst_m, r_bipush_p, r_bipush_m, r_sipush_p, r_sipush_m, r_ldc_p, r_ldc_m, r_ldc_w_p, r_ldc_w_m, r_lconst_p, r_lconst_m, r_ldc2_w_p, r_ldc2_w_m, r_iload, r_iload_n, r_lload, r_lload_n, r_aload, r_aload_n, r_istore, r_istore_n, r_astore, r_astore_n, r_lstore, r_lstore_n, r_iinc_p, r_iinc_m, r_iadd, r_isub, r_imul, r_iand, r_ior, r_ixor, r_ishl, r_ishr, r_iushr, r_idiv, r_irem, r_ladd, r_lsub, r_lmul, r_ldiv, r_lrem, r_lshl, r_lcmp, r_i2l, r_i2b, r_i2s, r_dup_i, r_dup_r, r_dup2_ii, r_dup2_ir, r_dup2_l, r_pop, r_getfield, r_putfield, r_iaload, r_iastore, r_aaload, r_arraylength, r_if_eq, r_icmp_eq, r_if_ne, r_icmp_ne, r_if_lt, r_icmp_lt, r_if_ge, r_icmp_ge, r_if_gt, r_icmp_gt, r_if_le, r_icmp_le, r_goto, r_switch, r_ireturn0, r_ireturn1, r_lreturn, r_areturn, r_return, r_inv0, r_inv1, r_inv2, r_inv3, r_inv4, r_inv5, r_min, r_max, r_acopy, onI_s, onL_s, onR_s, onO_s, fv0, fv1, fv2, fv3, fp1, fp20, fp21, fp3, tl_s, tl_n, lg0, lg1, lg2, lg3, lg4, lg5, lg6, lg7, lg8, lg9, lg10, lg11, lg12, lg13, lg14, lg15, lg16, lg17, ls0, ls1, ls2, ls3, ls4, ls5, ls6, ls7, ls8, ls9, ls10, ls11, ls12, ls13, ls14, ls15, ls16, ls17, lk0, lk1, lk2, lk3, lk4, lk5, lk6, lk7, lk8, lk9, lk10, lk11, lk12, lk13, lk14, lk15, lk16, lk17, kl_n, kl_i, kl_r, kl_l, Nat.reduceAdd, Nat.reduceLeDiff, not_false_eq_true, r_ins0, r_ins1, r_ins2, r_ins3, r_ins4, r_ins5]
    rw [hW.1, hW.2.1, bit_nI (by omega) (by omega), bit_nI (by omega) (by omega), minI (by omega) (by omega), minI (by omega) (by omega), hlw]
    refine ⟨by simp, by simp, ?_⟩
    have h := key ((C c).length - lw) (lw) M v13 v14 v15 v16 v17 (by omega) (Nat.le_refl _) Fr.rf ?_ (fun _ _ => rfl)
    · rw [hlow, List.length_take, Nat.min_eq_left (by omega)] at h
      exact h
    · intro j hj
      rw [(hD c hc).2 j hj, hDc, hlow]
      unfold mid
      rw [List.length_take, Nat.min_eq_left (by omega)]
      split
      · rename_i h1
        rw [List.getD_eq_getElem?_getD, List.getD_eq_getElem?_getD, List.getElem?_take, if_pos h1]
      · rfl
  have j4 : ∀ (v4 v5 v6 v7 v8 v9 v10 v11 v12 v13 v14 v15 v16 v17 : Option Value), kl v4 = v4 → WP 45 [] 4 [some (.ref 21), some (.int (nI c)), some (.int (nI wk)), some (.int (nI lf)), v4, v5, v6, v7, v8, v9, v10, v11, v12, v13, v14, v15, v16, v17] [.int (nI rg)] M Q := by
    intro v4 v5 v6 v7 v8 v9 v10 v11 v12 v13 v14 v15 v16 v17 _
    simp only [B_45_0, B_45_1, B_45_2, B_45_3, B_45_4, B_45_5, B_45_8, B_45_9, B_45_10, B_45_11, B_45_12, B_45_13, B_45_14, B_45_15, B_45_16, B_45_17, cP, cS, r_iconst_p, r_iconst_m, r_bipush_p, r_bipush_m, r_sipush_p, r_sipush_m, r_ldc_p, r_ldc_m, r_ldc_w_p, r_ldc_w_m, r_lconst_p, r_lconst_m, r_ldc2_w_p, r_ldc2_w_m, r_iload, r_iload_n, r_lload, r_lload_n, r_aload, r_aload_n, r_istore, r_istore_n, r_astore, r_astore_n, r_lstore, r_lstore_n, r_iinc_p, r_iinc_m, r_iadd, r_isub, r_imul, r_iand, r_ior, r_ixor, r_ishl, r_ishr, r_iushr, r_idiv, r_irem, r_ladd, r_lsub, r_lmul, r_ldiv, r_lrem, r_lshl, r_lcmp, r_i2l, r_i2b, r_i2s, r_dup_i, r_dup_r, r_dup2_ii, r_dup2_ir, r_dup2_l, r_pop, r_getfield, r_putfield, r_iaload, r_iastore, r_aaload, r_arraylength, r_if_eq, r_icmp_eq, r_if_ne, r_icmp_ne, r_if_lt, r_icmp_lt, r_if_ge, r_icmp_ge, r_if_gt, r_icmp_gt, r_if_le, r_icmp_le, r_goto, r_switch, r_ireturn0, r_ireturn1, r_lreturn, r_areturn, r_return, r_inv0, r_inv1, r_inv2, r_inv3, r_inv4, r_inv5, r_min, r_max, r_acopy, onI_s, onL_s, onR_s, onO_s, fv0, fv1, fv2, fv3, fp1, fp20, fp21, fp3, tl_s, tl_n, lg0, lg1, lg2, lg3, lg4, lg5, lg6, lg7, lg8, lg9, lg10, lg11, lg12, lg13, lg14, lg15, lg16, lg17, ls0, ls1, ls2, ls3, ls4, ls5, ls6, ls7, ls8, ls9, ls10, ls11, ls12, ls13, ls14, ls15, ls16, ls17, lk0, lk1, lk2, lk3, lk4, lk5, lk6, lk7, lk8, lk9, lk10, lk11, lk12, lk13, lk14, lk15, lk16, lk17, kl_n, kl_i, kl_r, kl_l, Nat.reduceAdd, Nat.reduceLeDiff, not_false_eq_true, r_ins0, r_ins1, r_ins2, r_ins3, r_ins4, r_ins5]
    rw [inb_n (n := 6) rfl (by omega) (by omega), inb_n (n := 6) rfl (by omega) (by omega), nI_clamp (by omega), hst c hc, q_sub (by omega), hW.2.2 c hc, q_lt (by omega) (by omega)]
    refine ⟨hc, hc, brc_i (fun hz => ?_) (fun hz => ?_)⟩
    · have h := j6 v6 v7 v8 v9 v10 v11 v12 v13 v14 v15 v16 v17
      rw [← hs, if_neg (by omega)] at h
      exact h
    · have h := j6 v6 v7 v8 v9 v10 v11 v12 v13 v14 v15 v16 v17
      rw [← hs, if_pos (by omega)] at h
      exact h
  have j2 : ∀ (v3 v4 v5 v6 v7 v8 v9 v10 v11 v12 v13 v14 v15 v16 v17 : Option Value), kl v4 = v4 → WP 45 [] 2 [some (.ref 21), some (.int (nI c)), some (.int (nI wk)), v3, v4, v5, v6, v7, v8, v9, v10, v11, v12, v13, v14, v15, v16, v17] [.int (nI lf)] M Q := by
    intro v3 v4 v5 v6 v7 v8 v9 v10 v11 v12 v13 v14 v15 v16 v17 h4
    simp only [B_45_0, B_45_1, B_45_2, B_45_3, B_45_5, B_45_6, B_45_8, B_45_9, B_45_10, B_45_11, B_45_12, B_45_13, B_45_14, B_45_15, B_45_16, B_45_17, cP, cS, r_iconst_p, r_iconst_m, r_bipush_p, r_bipush_m, r_sipush_p, r_sipush_m, r_ldc_p, r_ldc_m, r_ldc_w_p, r_ldc_w_m, r_lconst_p, r_lconst_m, r_ldc2_w_p, r_ldc2_w_m, r_iload, r_iload_n, r_lload, r_lload_n, r_aload, r_aload_n, r_istore, r_istore_n, r_astore, r_astore_n, r_lstore, r_lstore_n, r_iinc_p, r_iinc_m, r_iadd, r_isub, r_imul, r_iand, r_ior, r_ixor, r_ishl, r_ishr, r_iushr, r_idiv, r_irem, r_ladd, r_lsub, r_lmul, r_ldiv, r_lrem, r_lshl, r_lcmp, r_i2l, r_i2b, r_i2s, r_dup_i, r_dup_r, r_dup2_ii, r_dup2_ir, r_dup2_l, r_pop, r_getfield, r_putfield, r_iaload, r_iastore, r_aaload, r_arraylength, r_if_eq, r_icmp_eq, r_if_ne, r_icmp_ne, r_if_lt, r_icmp_lt, r_if_ge, r_icmp_ge, r_if_gt, r_icmp_gt, r_if_le, r_icmp_le, r_goto, r_switch, r_ireturn0, r_ireturn1, r_lreturn, r_areturn, r_return, r_inv0, r_inv1, r_inv2, r_inv3, r_inv4, r_inv5, r_min, r_max, r_acopy, onI_s, onL_s, onR_s, onO_s, fv0, fv1, fv2, fv3, fp1, fp20, fp21, fp3, tl_s, tl_n, lg0, lg1, lg2, lg3, lg4, lg5, lg6, lg7, lg8, lg9, lg10, lg11, lg12, lg13, lg14, lg15, lg16, lg17, ls0, ls1, ls2, ls3, ls4, ls5, ls6, ls7, ls8, ls9, ls10, ls11, ls12, ls13, ls14, ls15, ls16, ls17, lk0, lk1, lk2, lk3, lk4, lk5, lk6, lk7, lk8, lk9, lk10, lk11, lk12, lk13, lk14, lk15, lk16, lk17, kl_n, kl_i, kl_r, kl_l, Nat.reduceAdd, Nat.reduceLeDiff, not_false_eq_true, r_ins0, r_ins1, r_ins2, r_ins3, r_ins4, r_ins5]
    rw [q_eq (by omega) (by omega)]
    refine brc_i (fun hz => ?_) (fun hz => ?_)
    · rw [q_add, inb_n (n := 6) rfl (by omega) (by omega), nI_clamp (by omega), hst _ (by omega)]
      refine ⟨by omega, ?_⟩
      have h := j4 v4 v5 v6 v7 v8 v9 v10 v11 v12 v13 v14 v15 v16 v17 h4
      rw [← hrg, if_neg hz] at h
      exact h
    · have h := j4 v4 v5 v6 v7 v8 v9 v10 v11 v12 v13 v14 v15 v16 v17 h4
      rw [← hrg, if_pos (by omega)] at h
      exact h
  simp only [E_45, B_45_0, B_45_1, B_45_3, B_45_4, B_45_5, B_45_6, B_45_8, B_45_9, B_45_10, B_45_11, B_45_12, B_45_13, B_45_14, B_45_15, B_45_16, B_45_17, cP, cS, r_iconst_p, r_iconst_m, r_bipush_p, r_bipush_m, r_sipush_p, r_sipush_m, r_ldc_p, r_ldc_m, r_ldc_w_p, r_ldc_w_m, r_lconst_p, r_lconst_m, r_ldc2_w_p, r_ldc2_w_m, r_iload, r_iload_n, r_lload, r_lload_n, r_aload, r_aload_n, r_istore, r_istore_n, r_astore, r_astore_n, r_lstore, r_lstore_n, r_iinc_p, r_iinc_m, r_iadd, r_isub, r_imul, r_iand, r_ior, r_ixor, r_ishl, r_ishr, r_iushr, r_idiv, r_irem, r_ladd, r_lsub, r_lmul, r_ldiv, r_lrem, r_lshl, r_lcmp, r_i2l, r_i2b, r_i2s, r_dup_i, r_dup_r, r_dup2_ii, r_dup2_ir, r_dup2_l, r_pop, r_getfield, r_putfield, r_iaload, r_iastore, r_aaload, r_arraylength, r_if_eq, r_icmp_eq, r_if_ne, r_icmp_ne, r_if_lt, r_icmp_lt, r_if_ge, r_icmp_ge, r_if_gt, r_icmp_gt, r_if_le, r_icmp_le, r_goto, r_switch, r_ireturn0, r_ireturn1, r_lreturn, r_areturn, r_return, r_inv0, r_inv1, r_inv2, r_inv3, r_inv4, r_inv5, r_min, r_max, r_acopy, onI_s, onL_s, onR_s, onO_s, fv0, fv1, fv2, fv3, fp1, fp20, fp21, fp3, tl_s, tl_n, lg0, lg1, lg2, lg3, lg4, lg5, lg6, lg7, lg8, lg9, lg10, lg11, lg12, lg13, lg14, lg15, lg16, lg17, ls0, ls1, ls2, ls3, ls4, ls5, ls6, ls7, ls8, ls9, ls10, ls11, ls12, ls13, ls14, ls15, ls16, ls17, lk0, lk1, lk2, lk3, lk4, lk5, lk6, lk7, lk8, lk9, lk10, lk11, lk12, lk13, lk14, lk15, lk16, lk17, kl_n, kl_i, kl_r, kl_l, Nat.reduceAdd, Nat.reduceLeDiff, not_false_eq_true, r_ins0, r_ins1, r_ins2, r_ins3, r_ins4, r_ins5]
  rw [q_eq (by omega) (by omega)]
  refine brc_i (fun hz => ?_) (fun hz => ?_)
  · rw [q_sub (by omega), inb_n (n := 6) rfl (by omega) (by omega), nI_clamp (by omega), hst _ (by omega)]
    refine ⟨by omega, ?_⟩
    have h := j2 none none none none none none none none none none none none none none none rfl
    rw [← hlf, if_neg hz] at h
    exact h
  · have h := j2 none none none none none none none none none none none none none none none rfl
    rw [← hlf, if_pos (by omega)] at h
    exact h
set_option maxHeartbeats 8000000 in
theorem s_mcol_38 {M : Mem} {C D : Col} {c wk : Nat} {x : Wth} (hD : RS M 40 41 D) (hc : c < 6) (hDc : D c = C c) (hC : okC6 C) (hst : ∀ d, d < 6 → M 51 d = nI (C d).length) (hn : C c ≠ []) (hw : wk < 24) (hW : RWt M 45 x) (hx : okWt x) :
    Ct 45 [.ref 38, .int (nI c), .int (nI wk)] M (fun r N => r = some (.int (nI (mlc C (swF x wk) (x.1.testBit wk) (x.2.1.testBit wk) c).2)) ∧ Fr [40, 41] M N ∧ RS N 40 41 (setc D c (mlc C (swF x wk) (x.1.testBit wk) (x.2.1.testBit wk) c).1)) := by
  generalize hQ : (fun (r : Option Value) (N : Mem) => r = some (.int (nI (mlc C (swF x wk) (x.1.testBit wk) (x.2.1.testBit wk) c).2)) ∧ Fr [40, 41] M N ∧ RS N 40 41 (setc D c (mlc C (swF x wk) (x.1.testBit wk) (x.2.1.testBit wk) c).1)) = Q
  have h0 : 0 < (C c).length := List.length_pos_iff.mpr hn
  have hl6 := (hC c).1
  have hx1 := hx.1
  have hx2 := hx.2.1
  have hx3 := hx.2.2 c
  generalize hf : los C (swF x wk) (x.1.testBit wk) (x.2.1.testBit wk) c = f
  generalize hlf : (if c = 0 then 6 else (C (c - 1)).length) = lf
  generalize hrg : (if c = 5 then 6 else (C (c + 1)).length) = rg
  generalize hs : (if x.2.2 c ≤ wk then 1 else 0) = sv
  obtain ⟨lw, hlw⟩ : ∃ lw, min ((C c).length - 1) (min lf rg) = lw := ⟨_, rfl⟩
  have hlw1 : lw ≤ (C c).length - 1 ∧ lw ≤ lf ∧ lw ≤ rg := by omega
  have hlf6 : lf ≤ 6 := by rw [← hlf]; have := (hC (c - 1)).1; split <;> omega
  have hrg6 : rg ≤ 6 := by rw [← hrg]; have := (hC (c + 1)).1; split <;> omega
  have hsv : sv ≤ 1 := by rw [← hs]; split <;> omega
  have hdr := Bool.toNat_le (x.1.testBit wk)
  have hth := Bool.toNat_le (x.2.1.testBit wk)
  -- the loss by numbers
  have hloss : ∀ n o fl fr : Nat, n < 6 → o = (if n + 1 = (C c).length ∧ sv = 0 then 1 else 0) → fl = (if lf ≤ n then 1 else 0) → fr = (if rg ≤ n then 1 else 0) → (o + fl + fr) / 2 + (x.1.testBit wk).toNat * o + (if 0 < o + fl + fr then (x.2.1.testBit wk).toNat else 0) = f n := by
    intro n o fl fr hn6 ho hfl hfr
    have e0 : (swF x wk c = false) = (sv = 0) := by
      unfold swF
      rw [← hs]
      by_cases q : x.2.2 c ≤ wk
      · simp [q]
      · simp [q]
    have e1 : fre C (swF x wk) c n = o + fl + fr := by
      unfold fre
      rw [ho, hfl, hfr, ← hlf, ← hrg]
      simp only [e0]
      congr 1
      · congr 1
        by_cases q : c = 0
        · rw [if_neg (fun h => by omega), if_pos q, if_neg (by omega)]
        · rw [if_neg q]
          by_cases q2 : (C (c - 1)).length ≤ n
          · rw [if_pos ⟨by omega, q2⟩, if_pos q2]
          · rw [if_neg (fun h => q2 h.2), if_neg q2]
      · by_cases q : c = 5
        · rw [if_neg (fun h => by omega), if_pos q, if_neg (by omega)]
        · rw [if_neg q]
          by_cases q2 : (C (c + 1)).length ≤ n
          · rw [if_pos ⟨by omega, q2⟩, if_pos q2]
          · rw [if_neg (fun h => q2 h.2), if_neg q2]
    rw [← hf]
    unfold los
    rw [e1]
    simp only [e0]
    congr 1
    · congr 1
      rw [ho]
      by_cases q : n + 1 = (C c).length ∧ sv = 0
      · simp only [if_pos q]
        cases x.1.testBit wk <;> simp [q]
      · simp only [if_neg q]
        rw [if_neg (fun h => q h.2)]
        rfl
    · cases x.2.1.testBit wk <;> simp
  have hlossle : ∀ n, n < 6 → f n ≤ 4 := by
    intro n hn6
    rw [← hloss n _ _ _ hn6 rfl rfl rfl]
    have a1 : (if n + 1 = (C c).length ∧ sv = 0 then 1 else 0) ≤ 1 := by split <;> omega
    have a2 : (if lf ≤ n then 1 else 0) ≤ 1 := by split <;> omega
    have a3 : (if rg ≤ n then 1 else 0) ≤ 1 := by split <;> omega
    have a4 : (x.1.testBit wk).toNat * (if n + 1 = (C c).length ∧ sv = 0 then 1 else 0) ≤ 1 * 1 := Nat.mul_le_mul hdr a1
    have a5 : ∀ z : Nat, (if 0 < z then (x.2.1.testBit wk).toNat else 0) ≤ 1 := fun z => by split <;> omega
    have := a5 ((if n + 1 = (C c).length ∧ sv = 0 then 1 else 0) + (if lf ≤ n then 1 else 0) + (if rg ≤ n then 1 else 0))
    omega
  -- the loop
  have key : ∀ (k n : Nat) (N : Mem) (v13 v14 v15 v16 v17 : Option Value), n + k = (C c).length → lw ≤ n → Fr [40] M N → (∀ j, j < 6 → N 40 (c * 6 + j) = nI (mid (mel f (C c) n).1 (C c) n j)) → (∀ q, q < c * 6 ∨ c * 6 + 6 ≤ q → N 40 q = M 40 q) →
      WP 45 [] 7 [some (.ref 38), some (.int (nI c)), some (.int (nI wk)), some (.int (nI lf)), some (.int (nI rg)), some (.int (nI ((C c).length - 1))), some (.int (nI sv)), some (.int (nI (x.1.testBit wk).toNat)), some (.int (nI (x.2.1.testBit wk).toNat)), some (.int (nI (lw))), some (.int (nI (mel f (C c) n).2)), some (.int (nI (mel f (C c) n).1.length)), some (.int (nI n)), v13, v14, v15, v16, v17] [] N Q := by
    intro k
    induction k with
    | zero =>
      intro n N v13 v14 v15 v16 v17 hk hlo hF hM hO
      obtain rfl : n = (C c).length := by omega
      rw [B_45_7]
      simp only [B_45_0, B_45_1, B_45_2, B_45_3, B_45_4, B_45_5, B_45_6, B_45_10, B_45_11, B_45_12, B_45_13, B_45_14, B_45_15, B_45_16, B_45_17, cP, cS, r_iconst_p, r_iconst_m, r_bipush_p, r_bipush_m, r_sipush_p, r_sipush_m, r_ldc_p, r_ldc_m, r_ldc_w_p, r_ldc_w_m, r_lconst_p, r_lconst_m, r_ldc2_w_p, r_ldc2_w_m, r_iload, r_iload_n, r_lload, r_lload_n, r_aload, r_aload_n, r_istore, r_istore_n, r_astore, r_astore_n, r_lstore, r_lstore_n, r_iinc_p, r_iinc_m, r_iadd, r_isub, r_imul, r_iand, r_ior, r_ixor, r_ishl, r_ishr, r_iushr, r_idiv, r_irem, r_ladd, r_lsub, r_lmul, r_ldiv, r_lrem, r_lshl, r_lcmp, r_i2l, r_i2b, r_i2s, r_dup_i, r_dup_r, r_dup2_ii, r_dup2_ir, r_dup2_l, r_pop, r_getfield, r_putfield, r_iaload, r_iastore, r_aaload, r_arraylength, r_if_eq, r_icmp_eq, r_if_ne, r_icmp_ne, r_if_lt, r_icmp_lt, r_if_ge, r_icmp_ge, r_if_gt, r_icmp_gt, r_if_le, r_icmp_le, r_goto, r_switch, r_ireturn0, r_ireturn1, r_lreturn, r_areturn, r_return, r_inv0, r_inv1, r_inv2, r_inv3, r_inv4, r_inv5, r_min, r_max, r_acopy, onI_s, onL_s, onR_s, onO_s, fv0, fv1, fv2, fv3, fp1, fp20, fp21, fp3, tl_s, tl_n, lg0, lg1, lg2, lg3, lg4, lg5, lg6, lg7, lg8, lg9, lg10, lg11, lg12, lg13, lg14, lg15, lg16, lg17, ls0, ls1, ls2, ls3, ls4, ls5, ls6, ls7, ls8, ls9, ls10, ls11, ls12, ls13, ls14, ls15, ls16, ls17, lk0, lk1, lk2, lk3, lk4, lk5, lk6, lk7, lk8, lk9, lk10, lk11, lk12, lk13, lk14, lk15, lk16, lk17, kl_n, kl_i, kl_r, kl_l, Nat.reduceAdd, Nat.reduceLeDiff, not_false_eq_true, r_ins0, r_ins1, r_ins2, r_ins3, r_ins4, r_ins5]
      have hP := mel_len f (C c) (C c).length
      rw [brc_pos (by rw [q_lt (by omega) (by omega)]; omega), inb_n (n := 6) rfl (by omega) (by omega), nI_clamp (by omega)]
      refine ⟨hc, ?_⟩
      rw [← hQ]
      refine ⟨by unfold mlc; rw [hf], (hF.sub (by decide)).st (by decide), ?_⟩
      unfold mlc
      rw [hf]
      intro d hd
      rw [sm_eq, sm_ne (show ¬ 40 = 41 by decide), hF 41 (by decide)]
      by_cases e : d = c
      · subst e
        rw [u_eq]
        simp only [setc, if_true]
        refine ⟨trivial, fun j hj => ?_⟩
        rw [hM j hj]
        unfold mid
        by_cases h1 : j < (mel f (C d) (C d).length).1.length
        · rw [if_pos h1]
        · rw [if_neg h1, List.getD_eq_getElem?_getD (l := (mel f (C d) (C d).length).1), List.getElem?_eq_none (by omega)]
          by_cases h2 : j < (C d).length
          · rw [if_pos h2]; rfl
          · rw [if_neg h2, List.getD_eq_getElem?_getD, List.getElem?_eq_none (by omega)]
      · rw [u_ne e]
        simp only [setc, if_neg e]
        refine ⟨(hD d hd).1, fun j hj => ?_⟩
        rw [hO _ (by omega)]
        exact (hD d hd).2 j hj
    | succ k ih =>
      intro n N v13 v14 v15 v16 v17 hk hlo hF hM hO
      have hn6 : n < 6 := by omega
      have hP := mel_len f (C c) n
      have hfn := hlossle n hn6
      have hv9 := getD_le (hC c).2 n
      have hwl : ∀ n, n ≤ 6 → (mel f (C c) n).2 ≤ 9 * n := by
        intro n
        induction n with
        | zero => intro _; exact Nat.le_refl 0
        | succ n ihn =>
          intro hn
          have := ihn (by omega)
          have h9 := getD_le (hC c).2 n
          unfold mel
          simp only
          omega
      have hwn := hwl n (by omega)
      -- from block 16 on
      have j16 : ∀ (N' : Mem) (kp ml : Nat) (v13 v14 v15 v16 v17 : Option Value), (mel f (C c) (n + 1)).1.length = kp → (mel f (C c) (n + 1)).2 = ml → Fr [40] M N' → (∀ j, j < 6 → N' 40 (c * 6 + j) = nI (mid (mel f (C c) (n + 1)).1 (C c) (n + 1) j)) → (∀ q, q < c * 6 ∨ c * 6 + 6 ≤ q → N' 40 q = M 40 q) →
          WP 45 [] 16 [some (.ref 38), some (.int (nI c)), some (.int (nI wk)), some (.int (nI lf)), some (.int (nI rg)), some (.int (nI ((C c).length - 1))), some (.int (nI sv)), some (.int (nI (x.1.testBit wk).toNat)), some (.int (nI (x.2.1.testBit wk).toNat)), some (.int (nI (lw))), some (.int (nI ml)), some (.int (nI kp)), some (.int (nI n)), v13, v14, v15, v16, v17] [] N' Q := by
        intro N' kp ml v13 v14 v15 v16 v17 h1 h2 hF' hM' hO'
        simp only [B_45_0, B_45_1, B_45_2, B_45_3, B_45_4, B_45_5, B_45_6, B_45_8, B_45_9, B_45_10, B_45_11, B_45_12, B_45_13, B_45_14, B_45_15, B_45_16, B_45_17, cP, cS, r_iconst_p, r_iconst_m, r_bipush_p, r_bipush_m, r_sipush_p, r_sipush_m, r_ldc_p, r_ldc_m, r_ldc_w_p, r_ldc_w_m, r_lconst_p, r_lconst_m, r_ldc2_w_p, r_ldc2_w_m, r_iload, r_iload_n, r_lload, r_lload_n, r_aload, r_aload_n, r_istore, r_istore_n, r_astore, r_astore_n, r_lstore, r_lstore_n, r_iinc_p, r_iinc_m, r_iadd, r_isub, r_imul, r_iand, r_ior, r_ixor, r_ishl, r_ishr, r_iushr, r_idiv, r_irem, r_ladd, r_lsub, r_lmul, r_ldiv, r_lrem, r_lshl, r_lcmp, r_i2l, r_i2b, r_i2s, r_dup_i, r_dup_r, r_dup2_ii, r_dup2_ir, r_dup2_l, r_pop, r_getfield, r_putfield, r_iaload, r_iastore, r_aaload, r_arraylength, r_if_eq, r_icmp_eq, r_if_ne, r_icmp_ne, r_if_lt, r_icmp_lt, r_if_ge, r_icmp_ge, r_if_gt, r_icmp_gt, r_if_le, r_icmp_le, r_goto, r_switch, r_ireturn0, r_ireturn1, r_lreturn, r_areturn, r_return, r_inv0, r_inv1, r_inv2, r_inv3, r_inv4, r_inv5, r_min, r_max, r_acopy, onI_s, onL_s, onR_s, onO_s, fv0, fv1, fv2, fv3, fp1, fp20, fp21, fp3, tl_s, tl_n, lg0, lg1, lg2, lg3, lg4, lg5, lg6, lg7, lg8, lg9, lg10, lg11, lg12, lg13, lg14, lg15, lg16, lg17, ls0, ls1, ls2, ls3, ls4, ls5, ls6, ls7, ls8, ls9, ls10, ls11, ls12, ls13, ls14, ls15, ls16, ls17, lk0, lk1, lk2, lk3, lk4, lk5, lk6, lk7, lk8, lk9, lk10, lk11, lk12, lk13, lk14, lk15, lk16, lk17, kl_n, kl_i, kl_r, kl_l, Nat.reduceAdd, Nat.reduceLeDiff, not_false_eq_true, r_ins0, r_ins1, r_ins2, r_ins3, r_ins4, r_ins5]
        rw [q_add, ← h1, ← h2]
        exact ih (n + 1) N' _ _ _ _ _ (by omega) (by omega) hF' hM' hO'
      -- from block 15 on: the loss is on the stack in two parts
      have j15 : ∀ (o fr t u : Nat), u + t = f n → ∀ (v15 v16 v17 : Option Value), u ≤ 4 → t ≤ 4 →
          WP 45 [] 15 [some (.ref 38), some (.int (nI c)), some (.int (nI wk)), some (.int (nI lf)), some (.int (nI rg)), some (.int (nI ((C c).length - 1))), some (.int (nI sv)), some (.int (nI (x.1.testBit wk).toNat)), some (.int (nI (x.2.1.testBit wk).toNat)), some (.int (nI (lw))), some (.int (nI (mel f (C c) n).2)), some (.int (nI (mel f (C c) n).1.length)), some (.int (nI n)), some (.int (nI o)), some (.int (nI fr)), v15, v16, v17] [.int (nI t), .int (nI u)] N Q := by
        intro o fr t u ht v15 v16 v17 hu ht4
        simp only [B_45_0, B_45_1, B_45_2, B_45_3, B_45_4, B_45_5, B_45_6, B_45_8, B_45_9, B_45_10, B_45_11, B_45_12, B_45_13, B_45_14, B_45_15, B_45_17, cP, cS, r_iconst_p, r_iconst_m, r_bipush_p, r_bipush_m, r_sipush_p, r_sipush_m, r_ldc_p, r_ldc_m, r_ldc_w_p, r_ldc_w_m, r_lconst_p, r_lconst_m, r_ldc2_w_p, r_ldc2_w_m, r_iload, r_iload_n, r_lload, r_lload_n, r_aload, r_aload_n, r_istore, r_istore_n, r_astore, r_astore_n, r_lstore, r_lstore_n, r_iinc_p, r_iinc_m, r_iadd, r_isub, r_imul, r_iand, r_ior, r_ixor, r_ishl, r_ishr, r_iushr, r_idiv, r_irem, r_ladd, r_lsub, r_lmul, r_ldiv, r_lrem, r_lshl, r_lcmp, r_i2l, r_i2b, r_i2s, r_dup_i, r_dup_r, r_dup2_ii, r_dup2_ir, r_dup2_l, r_pop, r_getfield, r_putfield, r_iaload, r_iastore, r_aaload, r_arraylength, r_if_eq, r_icmp_eq, r_if_ne, r_icmp_ne, r_if_lt, r_icmp_lt, r_if_ge, r_icmp_ge, r_if_gt, r_icmp_gt, r_if_le, r_icmp_le, r_goto, r_switch, r_ireturn0, r_ireturn1, r_lreturn, r_areturn, r_return, r_inv0, r_inv1, r_inv2, r_inv3, r_inv4, r_inv5, r_min, r_max, r_acopy, onI_s, onL_s, onR_s, onO_s, fv0, fv1, fv2, fv3, fp1, fp20, fp21, fp3, tl_s, tl_n, lg0, lg1, lg2, lg3, lg4, lg5, lg6, lg7, lg8, lg9, lg10, lg11, lg12, lg13, lg14, lg15, lg16, lg17, ls0, ls1, ls2, ls3, ls4, ls5, ls6, ls7, ls8, ls9, ls10, ls11, ls12, ls13, ls14, ls15, ls16, ls17, lk0, lk1, lk2, lk3, lk4, lk5, lk6, lk7, lk8, lk9, lk10, lk11, lk12, lk13, lk14, lk15, lk16, lk17, kl_n, kl_i, kl_r, kl_l, Nat.reduceAdd, Nat.reduceLeDiff, not_false_eq_true, r_ins0, r_ins1, r_ins2, r_ins3, r_ins4, r_ins5]
        rw [q_add, ht, q_mul, q_add, inb_n (n := 36) rfl (by omega) (by omega), nI_clamp (by omega), hM n hn6]
        have e1 : mid (mel f (C c) n).1 (C c) n n = (C c).getD n 0 := by
          unfold mid
          rw [if_neg (by omega), if_neg (by omega)]
        rw [e1, max0 (by omega) (by omega), q_sub (by omega), q_add]
        have e2 : (mel f (C c) n).2 + ((C c).getD n 0 - ((C c).getD n 0 - f n)) = (mel f (C c) (n + 1)).2 := by
          show _ = (mel f (C c) n).2 + min (f n) ((C c).getD n 0)
          omega
        rw [e2]
        refine ⟨by omega, by simp, by omega, ?_⟩
        rw [q_le (by omega) (by omega)]
        have hO1 : ∀ q, q < c * 6 ∨ c * 6 + 6 ≤ q → stM N 40 (c * 6 + n) (nI 0) 40 q = M 40 q := fun q hq => by
          rw [sm_eq, u_ne (by omega)]
          exact hO q hq
        refine brc_i (fun hz => ?_) (fun hz => ?_)
        · have e3 : (mel f (C c) (n + 1)).1 = (mel f (C c) n).1 := by
            show (if _ then _ else _) = _
            rw [if_neg (by omega)]
          refine j16 _ _ _ _ _ _ _ _ (by rw [e3]) rfl (hF.st (by decide)) ?_ hO1
          intro j hj
          rw [e3, sm_eq, u_if]
          by_cases h1 : j = n
          · rw [if_pos (by omega), h1]
            unfold mid
            rw [if_neg (by omega), if_pos (by omega)]
          · rw [if_neg (by omega), hM j hj]
            unfold mid
            by_cases h2 : j < (mel f (C c) n).1.length
            · rw [if_pos h2, if_pos h2]
            · rw [if_neg h2, if_neg h2]
              by_cases h3 : j < n
              · rw [if_pos h3, if_pos (by omega)]
              · rw [if_neg h3, if_neg (by omega)]
        · rw [q_add, inb_n (n := 36) rfl (by omega) (by omega), nI_clamp (by omega), q_add]
          have e3 : (mel f (C c) (n + 1)).1 = (mel f (C c) n).1 ++ [(C c).getD n 0 - f n] := by
            show (if _ then _ else _) = _
            rw [if_pos (by omega)]
          refine ⟨by omega, ?_⟩
          refine j16 _ _ _ _ _ _ _ _ (by rw [e3, List.length_append]; rfl) rfl ((hF.st (by decide)).st (by decide)) ?_ ?_
          · intro j hj
            rw [e3, sm_eq, u_if, sm_eq, u_if]
            unfold mid
            rw [List.length_append, List.length_singleton]
            by_cases h1 : j = (mel f (C c) n).1.length
            · rw [if_pos (by omega), if_pos (by omega), h1, List.getD_eq_getElem?_getD (l := _ ++ _), List.getElem?_append_right (Nat.le_refl _), Nat.sub_self]
              rfl
            · rw [if_neg (by omega)]
              by_cases h2 : j < (mel f (C c) n).1.length
              · rw [if_neg (by omega), if_pos (by omega), hM j hj, List.getD_eq_getElem?_getD (l := _ ++ _), List.getElem?_append_left h2, ← List.getD_eq_getElem?_getD]
                unfold mid
                rw [if_pos h2]
              · rw [if_neg (show ¬ j < _ + 1 by omega)]
                by_cases h3 : j = n
                · rw [if_pos (by omega), if_pos (by omega)]
                · rw [if_neg (by omega), hM j hj]
                  unfold mid
                  rw [if_neg h2]
                  by_cases h4 : j < n
                  · rw [if_pos h4, if_pos (by omega)]
                  · rw [if_neg h4, if_neg (by omega)]
          · intro q hq
            rw [sm_eq, u_ne (by omega)]
            exact hO1 q hq
      -- the free sides
      have j13 : ∀ (o fl fr : Nat), o = (if n + 1 = (C c).length ∧ sv = 0 then 1 else 0) → fl = (if lf ≤ n then 1 else 0) → fr = (if rg ≤ n then 1 else 0) → ∀ (v14 v15 v16 v17 : Option Value),
          WP 45 [] 13 [some (.ref 38), some (.int (nI c)), some (.int (nI wk)), some (.int (nI lf)), some (.int (nI rg)), some (.int (nI ((C c).length - 1))), some (.int (nI sv)), some (.int (nI (x.1.testBit wk).toNat)), some (.int (nI (x.2.1.testBit wk).toNat)), some (.int (nI (lw))), some (.int (nI (mel f (C c) n).2)), some (.int (nI (mel f (C c) n).1.length)), some (.int (nI n)), some (.int (nI o)), v14, v15, v16, v17] [.int (nI fr), .int (nI (o + fl))] N Q := by
        intro o fl fr ho hfl hfr v14 v15 v16 v17
        have hL := hloss n o fl fr hn6 ho hfl hfr
        have a1 : o ≤ 1 := by rw [ho]; split <;> omega
        have a2 : fl ≤ 1 := by rw [hfl]; split <;> omega
        have a3 : fr ≤ 1 := by rw [hfr]; split <;> omega
        have a4 : (x.1.testBit wk).toNat * o ≤ 1 * 1 := Nat.mul_le_mul hdr a1
        simp only [B_45_0, B_45_1, B_45_2, B_45_3, B_45_4, B_45_5, B_45_6, B_45_8, B_45_9, B_45_10, B_45_11, B_45_12, B_45_13, B_45_14, B_45_16, B_45_17, cP, cS, r_iconst_p, r_iconst_m, r_bipush_p, r_bipush_m, r_sipush_p, r_sipush_m, r_ldc_p, r_ldc_m, r_ldc_w_p, r_ldc_w_m, r_lconst_p, r_lconst_m, r_ldc2_w_p, r_ldc2_w_m, r_iload, r_iload_n, r_lload, r_lload_n, r_aload, r_aload_n, r_istore, r_istore_n, r_astore, r_astore_n, r_lstore, r_lstore_n, r_iinc_p, r_iinc_m, r_iadd, r_isub, r_imul, r_iand, r_ior, r_ixor, r_ishl, r_ishr, r_iushr, r_idiv, r_irem, r_ladd, r_lsub, r_lmul, r_ldiv, r_lrem, r_lshl, r_lcmp, r_i2l, r_i2b, r_i2s, r_dup_i, r_dup_r, r_dup2_ii, r_dup2_ir, r_dup2_l, r_pop, r_getfield, r_putfield, r_iaload, r_iastore, r_aaload, r_arraylength, r_if_eq, r_icmp_eq, r_if_ne, r_icmp_ne, r_if_lt, r_icmp_lt, r_if_ge, r_icmp_ge, r_if_gt, r_icmp_gt, r_if_le, r_icmp_le, r_goto, r_switch, r_ireturn0, r_ireturn1, r_lreturn, r_areturn, r_return, r_inv0, r_inv1, r_inv2, r_inv3, r_inv4, r_inv5, r_min, r_max, r_acopy, onI_s, onL_s, onR_s, onO_s, fv0, fv1, fv2, fv3, fp1, fp20, fp21, fp3, tl_s, tl_n, lg0, lg1, lg2, lg3, lg4, lg5, lg6, lg7, lg8, lg9, lg10, lg11, lg12, lg13, lg14, lg15, lg16, lg17, ls0, ls1, ls2, ls3, ls4, ls5, ls6, ls7, ls8, ls9, ls10, ls11, ls12, ls13, ls14, ls15, ls16, ls17, lk0, lk1, lk2, lk3, lk4, lk5, lk6, lk7, lk8, lk9, lk10, lk11, lk12, lk13, lk14, lk15, lk16, lk17, kl_n, kl_i, kl_r, kl_l, Nat.reduceAdd, Nat.reduceLeDiff, not_false_eq_true, r_ins0, r_ins1, r_ins2, r_ins3, r_ins4, r_ins5]
        rw [q_add, pk_div (by omega) (by omega) (by omega), q_mul, q_add, q_le (by omega) (by omega), q_eq (by omega) (by omega)]
        refine ⟨by omega, ?_⟩
        refine brc_i (fun hz => ?_) (fun hz => ?_)
        · rw [if_neg (by omega)] at hL
          exact j15 _ _ _ _ hL _ _ _ (by omega) (by omega)
        · rw [if_pos (by omega)] at hL
          exact j15 _ _ _ _ hL _ _ _ (by omega) (by omega)
      have j11 : ∀ (o fl : Nat), o = (if n + 1 = (C c).length ∧ sv = 0 then 1 else 0) → fl = (if lf ≤ n then 1 else 0) → ∀ (v14 v15 v16 v17 : Option Value),
          WP 45 [] 11 [some (.ref 38), some (.int (nI c)), some (.int (nI wk)), some (.int (nI lf)), some (.int (nI rg)), some (.int (nI ((C c).length - 1))), some (.int (nI sv)), some (.int (nI (x.1.testBit wk).toNat)), some (.int (nI (x.2.1.testBit wk).toNat)), some (.int (nI (lw))), some (.int (nI (mel f (C c) n).2)), some (.int (nI (mel f (C c) n).1.length)), some (.int (nI n)), some (.int (nI o)), v14, v15, v16, v17] [.int (nI fl), .int (nI o)] N Q := by
        intro o fl ho hfl v14 v15 v16 v17
        simp only [B_45_0, B_45_1, B_45_2, B_45_3, B_45_4, B_45_5, B_45_6, B_45_8, B_45_9, B_45_10, B_45_11, B_45_12, B_45_14, B_45_15, B_45_16, B_45_17, cP, cS, r_iconst_p, r_iconst_m, r_bipush_p, r_bipush_m, r_sipush_p, r_sipush_m, r_ldc_p, r_ldc_m, r_ldc_w_p, r_ldc_w_m, r_lconst_p, r_lconst_m, r_ldc2_w_p, r_ldc2_w_m, r_iload, r_iload_n, r_lload, r_lload_n, r_aload, r_aload_n, r_istore, r_istore_n, r_astore, r_astore_n, r_lstore, r_lstore_n, r_iinc_p, r_iinc_m, r_iadd, r_isub, r_imul, r_iand, r_ior, r_ixor, r_ishl, r_ishr, r_iushr, r_idiv, r_irem, r_ladd, r_lsub, r_lmul, r_ldiv, r_lrem, r_lshl, r_lcmp, r_i2l, r_i2b, r_i2s, r_dup_i, r_dup_r, r_dup2_ii, r_dup2_ir, r_dup2_l, r_pop, r_getfield, r_putfield, r_iaload, r_iastore, r_aaload, r_arraylength, r_if_eq, r_icmp_eq, r_if_ne, r_icmp_ne, r_if_lt, r_icmp_lt, r_if_ge, r_icmp_ge, r_if_gt, r_icmp_gt, r_if_le, r_icmp_le, r_goto, r_switch, r_ireturn0, r_ireturn1, r_lreturn, r_areturn, r_return, r_inv0, r_inv1, r_inv2, r_inv3, r_inv4, r_inv5, r_min, r_max, r_acopy, onI_s, onL_s, onR_s, onO_s, fv0, fv1, fv2, fv3, fp1, fp20, fp21, fp3, tl_s, tl_n, lg0, lg1, lg2, lg3, lg4, lg5, lg6, lg7, lg8, lg9, lg10, lg11, lg12, lg13, lg14, lg15, lg16, lg17, ls0, ls1, ls2, ls3, ls4, ls5, ls6, ls7, ls8, ls9, ls10, ls11, ls12, ls13, ls14, ls15, ls16, ls17, lk0, lk1, lk2, lk3, lk4, lk5, lk6, lk7, lk8, lk9, lk10, lk11, lk12, lk13, lk14, lk15, lk16, lk17, kl_n, kl_i, kl_r, kl_l, Nat.reduceAdd, Nat.reduceLeDiff, not_false_eq_true, r_ins0, r_ins1, r_ins2, r_ins3, r_ins4, r_ins5]
        rw [q_add, q_lt (by omega) (by omega)]
        refine brc_i (fun hz => ?_) (fun hz => ?_)
        · exact j13 o fl 0 ho hfl (by rw [if_neg (by omega)]) _ _ _ _
        · exact j13 o fl 1 ho hfl (by rw [if_pos (by omega)]) _ _ _ _
      have j9 : ∀ (o : Nat), o = (if n + 1 = (C c).length ∧ sv = 0 then 1 else 0) → ∀ (v13 v14 v15 v16 v17 : Option Value),
          WP 45 [] 9 [some (.ref 38), some (.int (nI c)), some (.int (nI wk)), some (.int (nI lf)), some (.int (nI rg)), some (.int (nI ((C c).length - 1))), some (.int (nI sv)), some (.int (nI (x.1.testBit wk).toNat)), some (.int (nI (x.2.1.testBit wk).toNat)), some (.int (nI (lw))), some (.int (nI (mel f (C c) n).2)), some (.int (nI (mel f (C c) n).1.length)), some (.int (nI n)), v13, v14, v15, v16, v17] [.int (nI o)] N Q := by
        intro o ho v13 v14 v15 v16 v17
        simp only [B_45_0, B_45_1, B_45_2, B_45_3, B_45_4, B_45_5, B_45_6, B_45_8, B_45_9, B_45_10, B_45_12, B_45_13, B_45_14, B_45_15, B_45_16, B_45_17, cP, cS, r_iconst_p, r_iconst_m, r_bipush_p, r_bipush_m, r_sipush_p, r_sipush_m, r_ldc_p, r_ldc_m, r_ldc_w_p, r_ldc_w_m, r_lconst_p, r_lconst_m, r_ldc2_w_p, r_ldc2_w_m, r_iload, r_iload_n, r_lload, r_lload_n, r_aload, r_aload_n, r_istore, r_istore_n, r_astore, r_astore_n, r_lstore, r_lstore_n, r_iinc_p, r_iinc_m, r_iadd, r_isub, r_imul, r_iand, r_ior, r_ixor, r_ishl, r_ishr, r_iushr, r_idiv, r_irem, r_ladd, r_lsub, r_lmul, r_ldiv, r_lrem, r_lshl, r_lcmp, r_i2l, r_i2b, r_i2s, r_dup_i, r_dup_r, r_dup2_ii, r_dup2_ir, r_dup2_l, r_pop, r_getfield, r_putfield, r_iaload, r_iastore, r_aaload, r_arraylength, r_if_eq, r_icmp_eq, r_if_ne, r_icmp_ne, r_if_lt, r_icmp_lt, r_if_ge, r_icmp_ge, r_if_gt, r_icmp_gt, r_if_le, r_icmp_le, r_goto, r_switch, r_ireturn0, r_ireturn1, r_lreturn, r_areturn, r_return, r_inv0, r_inv1, r_inv2, r_inv3, r_inv4, r_inv5, r_min, r_max, r_acopy, onI_s, onL_s, onR_s, onO_s, fv0, fv1, fv2, fv3, fp1, fp20, fp21, fp3, tl_s, tl_n, lg0, lg1, lg2, lg3, lg4, lg5, lg6, lg7, lg8, lg9, lg10, lg11, lg12, lg13, lg14, lg15, lg16, lg17, ls0, ls1, ls2, ls3, ls4, ls5, ls6, ls7, ls8, ls9, ls10, ls11, ls12, ls13, ls14, ls15, ls16, ls17, lk0, lk1, lk2, lk3, lk4, lk5, lk6, lk7, lk8, lk9, lk10, lk11, lk12, lk13, lk14, lk15, lk16, lk17, kl_n, kl_i, kl_r, kl_l, Nat.reduceAdd, Nat.reduceLeDiff, not_false_eq_true, r_ins0, r_ins1, r_ins2, r_ins3, r_ins4, r_ins5]
        rw [q_lt (by omega) (by omega)]
        refine brc_i (fun hz => ?_) (fun hz => ?_)
        · exact j11 o 0 ho (by rw [if_neg (by omega)]) _ _ _ _
        · exact j11 o 1 ho (by rw [if_pos (by omega)]) _ _ _ _
      rw [B_45_7]
      simp only [B_45_0, B_45_1, B_45_2, B_45_3, B_45_4, B_45_5, B_45_6, B_45_8, B_45_10, B_45_11, B_45_12, B_45_13, B_45_14, B_45_15, B_45_16, B_45_17, cP, cS, r_iconst_p, r_iconst_m, r_bipush_p, r_bipush_m, r_sipush_p, r_sipush_m, r_ldc_p, r_ldc_m, r_ldc_w_p, r_ldc_w_m, r_lconst_p, r_lconst_m, r_ldc2_w_p, r_ldc2_w_m, r_iload, r_iload_n, r_lload, r_lload_n, r_aload, r_aload_n, r_istore, r_istore_n, r_astore, r_astore_n, r_lstore, r_lstore_n, r_iinc_p, r_iinc_m, r_iadd, r_isub, r_imul, r_iand, r_ior, r_ixor, r_ishl, r_ishr, r_iushr, r_idiv, r_irem, r_ladd, r_lsub, r_lmul, r_ldiv, r_lrem, r_lshl, r_lcmp, r_i2l, r_i2b, r_i2s, r_dup_i, r_dup_r, r_dup2_ii, r_dup2_ir, r_dup2_l, r_pop, r_getfield, r_putfield, r_iaload, r_iastore, r_aaload, r_arraylength, r_if_eq, r_icmp_eq, r_if_ne, r_icmp_ne, r_if_lt, r_icmp_lt, r_if_ge, r_icmp_ge, r_if_gt, r_icmp_gt, r_if_le, r_icmp_le, r_goto, r_switch, r_ireturn0, r_ireturn1, r_lreturn, r_areturn, r_return, r_inv0, r_inv1, r_inv2, r_inv3, r_inv4, r_inv5, r_min, r_max, r_acopy, onI_s, onL_s, onR_s, onO_s, fv0, fv1, fv2, fv3, fp1, fp20, fp21, fp3, tl_s, tl_n, lg0, lg1, lg2, lg3, lg4, lg5, lg6, lg7, lg8, lg9, lg10, lg11, lg12, lg13, lg14, lg15, lg16, lg17, ls0, ls1, ls2, ls3, ls4, ls5, ls6, ls7, ls8, ls9, ls10, ls11, ls12, ls13, ls14, ls15, ls16, ls17, lk0, lk1, lk2, lk3, lk4, lk5, lk6, lk7, lk8, lk9, lk10, lk11, lk12, lk13, lk14, lk15, lk16, lk17, kl_n, kl_i, kl_r, kl_l, Nat.reduceAdd, Nat.reduceLeDiff, not_false_eq_true, r_ins0, r_ins1, r_ins2, r_ins3, r_ins4, r_ins5]
      rw [brc_neg (by rw [q_lt (by omega) (by omega)]; omega), q_eq (by omega) (by omega), q_eq (by omega) (by omega)]
      refine brc_i (fun hz => ?_) (fun hz => brc_i (fun hz2 => ?_) (fun hz2 => ?_))
      · exact j9 0 (by rw [if_neg (by omega)]) _ _ _ _ _
      · exact j9 0 (by rw [if_neg (by omega)]) _ _ _ _ _
      · exact j9 1 (by rw [if_pos (by omega)]) _ _ _ _ _
  -- the entry
  have hlow : mel f (C c) (lw) = ((C c).take (lw), 0) := by
    refine mel_low (hC c).2 _ (by omega) (fun j hj => ?_)
    rw [← hloss j _ _ _ (by omega) rfl rfl rfl, if_neg (show ¬ (j + 1 = (C c).length ∧ sv = 0) by omega), if_neg (show ¬ lf ≤ j by omega), if_neg (show ¬ rg ≤ j by omega)]
    simp
  have j6 : ∀ (v6 v7 v8 v9 v10 v11 v12 v13 v14 v15 v16 v17 : Option Value), WP 45 [] 6 [some (.ref 38), some (.int (nI c)), some (.int (nI wk)), some (.int (nI lf)), some (.int (nI rg)), some (.int (nI ((C c).length - 1))), v6, v7, v8, v9, v10, v11, v12, v13, v14, v15, v16, v17] [.int (nI sv)] M Q := by
    intro v6 v7 v8 v9 v10 v11 v12 v13 v14 v15 v16 v17
    simp only [B_45_0, B_45_1, B_45_2, B_45_3, B_45_4, B_45_5, B_45_6, B_45_8, B_45_9, B_45_10, B_45_11, B_45_12, B_45_13, B_45_14, B_45_15, B_45_16, B_45_17, cP, cS, r_iconst_p, r_iconst_m, r_bipush_p, r_bipush_m, r_sipush_p, r_sipush_m, r_ldc_p, r_ldc_m, r_ldc_w_p, r_ldc_w_m, r_lconst_p, r_lconst_m, r_ldc2_w_p, r_ldc2_w_m, r_iload, r_iload_n, r_lload, r_lload_n, r_aload, r_aload_n, r_istore, r_istore_n, r_astore, r_astore_n, r_lstore, r_lstore_n, r_iinc_p, r_iinc_m, r_iadd, r_isub, r_imul, r_iand, r_ior, r_ixor, r_ishl, r_ishr, r_iushr, r_idiv, r_irem, r_ladd, r_lsub, r_lmul, r_ldiv, r_lrem, r_lshl, r_lcmp, r_i2l, r_i2b, r_i2s, r_dup_i, r_dup_r, r_dup2_ii, r_dup2_ir, r_dup2_l, r_pop, r_getfield, r_putfield, r_iaload, r_iastore, r_aaload, r_arraylength, r_if_eq, r_icmp_eq, r_if_ne, r_icmp_ne, r_if_lt, r_icmp_lt, r_if_ge, r_icmp_ge, r_if_gt, r_icmp_gt, r_if_le, r_icmp_le, r_goto, r_switch, r_ireturn0, r_ireturn1, r_lreturn, r_areturn, r_return, r_inv0, r_inv1, r_inv2, r_inv3, r_inv4, r_inv5, r_min, r_max, r_acopy, onI_s, onL_s, onR_s, onO_s, fv0, fv1, fv2, fv3, fp1, fp20, fp21, fp3, tl_s, tl_n, lg0, lg1, lg2, lg3, lg4, lg5, lg6, lg7, lg8, lg9, lg10, lg11, lg12, lg13, lg14, lg15, lg16, lg17, ls0, ls1, ls2, ls3, ls4, ls5, ls6, ls7, ls8, ls9, ls10, ls11, ls12, ls13, ls14, ls15, ls16, ls17, lk0, lk1, lk2, lk3, lk4, lk5, lk6, lk7, lk8, lk9, lk10, lk11, lk12, lk13, lk14, lk15, lk16, lk17, kl_n, kl_i, kl_r, kl_l, Nat.reduceAdd, Nat.reduceLeDiff, not_false_eq_true, r_ins0, r_ins1, r_ins2, r_ins3, r_ins4, r_ins5]
    rw [hW.1, hW.2.1, bit_nI (by omega) (by omega), bit_nI (by omega) (by omega), minI (by omega) (by omega), minI (by omega) (by omega), hlw]
    refine ⟨by simp, by simp, ?_⟩
    have h := key ((C c).length - lw) (lw) M v13 v14 v15 v16 v17 (by omega) (Nat.le_refl _) Fr.rf ?_ (fun _ _ => rfl)
    · rw [hlow, List.length_take, Nat.min_eq_left (by omega)] at h
      exact h
    · intro j hj
      rw [(hD c hc).2 j hj, hDc, hlow]
      unfold mid
      rw [List.length_take, Nat.min_eq_left (by omega)]
      split
      · rename_i h1
        rw [List.getD_eq_getElem?_getD, List.getD_eq_getElem?_getD, List.getElem?_take, if_pos h1]
      · rfl
  have j4 : ∀ (v4 v5 v6 v7 v8 v9 v10 v11 v12 v13 v14 v15 v16 v17 : Option Value), kl v4 = v4 → WP 45 [] 4 [some (.ref 38), some (.int (nI c)), some (.int (nI wk)), some (.int (nI lf)), v4, v5, v6, v7, v8, v9, v10, v11, v12, v13, v14, v15, v16, v17] [.int (nI rg)] M Q := by
    intro v4 v5 v6 v7 v8 v9 v10 v11 v12 v13 v14 v15 v16 v17 _
    simp only [B_45_0, B_45_1, B_45_2, B_45_3, B_45_4, B_45_5, B_45_8, B_45_9, B_45_10, B_45_11, B_45_12, B_45_13, B_45_14, B_45_15, B_45_16, B_45_17, cP, cS, r_iconst_p, r_iconst_m, r_bipush_p, r_bipush_m, r_sipush_p, r_sipush_m, r_ldc_p, r_ldc_m, r_ldc_w_p, r_ldc_w_m, r_lconst_p, r_lconst_m, r_ldc2_w_p, r_ldc2_w_m, r_iload, r_iload_n, r_lload, r_lload_n, r_aload, r_aload_n, r_istore, r_istore_n, r_astore, r_astore_n, r_lstore, r_lstore_n, r_iinc_p, r_iinc_m, r_iadd, r_isub, r_imul, r_iand, r_ior, r_ixor, r_ishl, r_ishr, r_iushr, r_idiv, r_irem, r_ladd, r_lsub, r_lmul, r_ldiv, r_lrem, r_lshl, r_lcmp, r_i2l, r_i2b, r_i2s, r_dup_i, r_dup_r, r_dup2_ii, r_dup2_ir, r_dup2_l, r_pop, r_getfield, r_putfield, r_iaload, r_iastore, r_aaload, r_arraylength, r_if_eq, r_icmp_eq, r_if_ne, r_icmp_ne, r_if_lt, r_icmp_lt, r_if_ge, r_icmp_ge, r_if_gt, r_icmp_gt, r_if_le, r_icmp_le, r_goto, r_switch, r_ireturn0, r_ireturn1, r_lreturn, r_areturn, r_return, r_inv0, r_inv1, r_inv2, r_inv3, r_inv4, r_inv5, r_min, r_max, r_acopy, onI_s, onL_s, onR_s, onO_s, fv0, fv1, fv2, fv3, fp1, fp20, fp21, fp3, tl_s, tl_n, lg0, lg1, lg2, lg3, lg4, lg5, lg6, lg7, lg8, lg9, lg10, lg11, lg12, lg13, lg14, lg15, lg16, lg17, ls0, ls1, ls2, ls3, ls4, ls5, ls6, ls7, ls8, ls9, ls10, ls11, ls12, ls13, ls14, ls15, ls16, ls17, lk0, lk1, lk2, lk3, lk4, lk5, lk6, lk7, lk8, lk9, lk10, lk11, lk12, lk13, lk14, lk15, lk16, lk17, kl_n, kl_i, kl_r, kl_l, Nat.reduceAdd, Nat.reduceLeDiff, not_false_eq_true, r_ins0, r_ins1, r_ins2, r_ins3, r_ins4, r_ins5]
    rw [inb_n (n := 6) rfl (by omega) (by omega), inb_n (n := 6) rfl (by omega) (by omega), nI_clamp (by omega), hst c hc, q_sub (by omega), hW.2.2 c hc, q_lt (by omega) (by omega)]
    refine ⟨hc, hc, brc_i (fun hz => ?_) (fun hz => ?_)⟩
    · have h := j6 v6 v7 v8 v9 v10 v11 v12 v13 v14 v15 v16 v17
      rw [← hs, if_neg (by omega)] at h
      exact h
    · have h := j6 v6 v7 v8 v9 v10 v11 v12 v13 v14 v15 v16 v17
      rw [← hs, if_pos (by omega)] at h
      exact h
  have j2 : ∀ (v3 v4 v5 v6 v7 v8 v9 v10 v11 v12 v13 v14 v15 v16 v17 : Option Value), kl v4 = v4 → WP 45 [] 2 [some (.ref 38), some (.int (nI c)), some (.int (nI wk)), v3, v4, v5, v6, v7, v8, v9, v10, v11, v12, v13, v14, v15, v16, v17] [.int (nI lf)] M Q := by
    intro v3 v4 v5 v6 v7 v8 v9 v10 v11 v12 v13 v14 v15 v16 v17 h4
    simp only [B_45_0, B_45_1, B_45_2, B_45_3, B_45_5, B_45_6, B_45_8, B_45_9, B_45_10, B_45_11, B_45_12, B_45_13, B_45_14, B_45_15, B_45_16, B_45_17, cP, cS, r_iconst_p, r_iconst_m, r_bipush_p, r_bipush_m, r_sipush_p, r_sipush_m, r_ldc_p, r_ldc_m, r_ldc_w_p, r_ldc_w_m, r_lconst_p, r_lconst_m, r_ldc2_w_p, r_ldc2_w_m, r_iload, r_iload_n, r_lload, r_lload_n, r_aload, r_aload_n, r_istore, r_istore_n, r_astore, r_astore_n, r_lstore, r_lstore_n, r_iinc_p, r_iinc_m, r_iadd, r_isub, r_imul, r_iand, r_ior, r_ixor, r_ishl, r_ishr, r_iushr, r_idiv, r_irem, r_ladd, r_lsub, r_lmul, r_ldiv, r_lrem, r_lshl, r_lcmp, r_i2l, r_i2b, r_i2s, r_dup_i, r_dup_r, r_dup2_ii, r_dup2_ir, r_dup2_l, r_pop, r_getfield, r_putfield, r_iaload, r_iastore, r_aaload, r_arraylength, r_if_eq, r_icmp_eq, r_if_ne, r_icmp_ne, r_if_lt, r_icmp_lt, r_if_ge, r_icmp_ge, r_if_gt, r_icmp_gt, r_if_le, r_icmp_le, r_goto, r_switch, r_ireturn0, r_ireturn1, r_lreturn, r_areturn, r_return, r_inv0, r_inv1, r_inv2, r_inv3, r_inv4, r_inv5, r_min, r_max, r_acopy, onI_s, onL_s, onR_s, onO_s, fv0, fv1, fv2, fv3, fp1, fp20, fp21, fp3, tl_s, tl_n, lg0, lg1, lg2, lg3, lg4, lg5, lg6, lg7, lg8, lg9, lg10, lg11, lg12, lg13, lg14, lg15, lg16, lg17, ls0, ls1, ls2, ls3, ls4, ls5, ls6, ls7, ls8, ls9, ls10, ls11, ls12, ls13, ls14, ls15, ls16, ls17, lk0, lk1, lk2, lk3, lk4, lk5, lk6, lk7, lk8, lk9, lk10, lk11, lk12, lk13, lk14, lk15, lk16, lk17, kl_n, kl_i, kl_r, kl_l, Nat.reduceAdd, Nat.reduceLeDiff, not_false_eq_true, r_ins0, r_ins1, r_ins2, r_ins3, r_ins4, r_ins5]
    rw [q_eq (by omega) (by omega)]
    refine brc_i (fun hz => ?_) (fun hz => ?_)
    · rw [q_add, inb_n (n := 6) rfl (by omega) (by omega), nI_clamp (by omega), hst _ (by omega)]
      refine ⟨by omega, ?_⟩
      have h := j4 v4 v5 v6 v7 v8 v9 v10 v11 v12 v13 v14 v15 v16 v17 h4
      rw [← hrg, if_neg hz] at h
      exact h
    · have h := j4 v4 v5 v6 v7 v8 v9 v10 v11 v12 v13 v14 v15 v16 v17 h4
      rw [← hrg, if_pos (by omega)] at h
      exact h
  simp only [E_45, B_45_0, B_45_1, B_45_3, B_45_4, B_45_5, B_45_6, B_45_8, B_45_9, B_45_10, B_45_11, B_45_12, B_45_13, B_45_14, B_45_15, B_45_16, B_45_17, cP, cS, r_iconst_p, r_iconst_m, r_bipush_p, r_bipush_m, r_sipush_p, r_sipush_m, r_ldc_p, r_ldc_m, r_ldc_w_p, r_ldc_w_m, r_lconst_p, r_lconst_m, r_ldc2_w_p, r_ldc2_w_m, r_iload, r_iload_n, r_lload, r_lload_n, r_aload, r_aload_n, r_istore, r_istore_n, r_astore, r_astore_n, r_lstore, r_lstore_n, r_iinc_p, r_iinc_m, r_iadd, r_isub, r_imul, r_iand, r_ior, r_ixor, r_ishl, r_ishr, r_iushr, r_idiv, r_irem, r_ladd, r_lsub, r_lmul, r_ldiv, r_lrem, r_lshl, r_lcmp, r_i2l, r_i2b, r_i2s, r_dup_i, r_dup_r, r_dup2_ii, r_dup2_ir, r_dup2_l, r_pop, r_getfield, r_putfield, r_iaload, r_iastore, r_aaload, r_arraylength, r_if_eq, r_icmp_eq, r_if_ne, r_icmp_ne, r_if_lt, r_icmp_lt, r_if_ge, r_icmp_ge, r_if_gt, r_icmp_gt, r_if_le, r_icmp_le, r_goto, r_switch, r_ireturn0, r_ireturn1, r_lreturn, r_areturn, r_return, r_inv0, r_inv1, r_inv2, r_inv3, r_inv4, r_inv5, r_min, r_max, r_acopy, onI_s, onL_s, onR_s, onO_s, fv0, fv1, fv2, fv3, fp1, fp20, fp21, fp3, tl_s, tl_n, lg0, lg1, lg2, lg3, lg4, lg5, lg6, lg7, lg8, lg9, lg10, lg11, lg12, lg13, lg14, lg15, lg16, lg17, ls0, ls1, ls2, ls3, ls4, ls5, ls6, ls7, ls8, ls9, ls10, ls11, ls12, ls13, ls14, ls15, ls16, ls17, lk0, lk1, lk2, lk3, lk4, lk5, lk6, lk7, lk8, lk9, lk10, lk11, lk12, lk13, lk14, lk15, lk16, lk17, kl_n, kl_i, kl_r, kl_l, Nat.reduceAdd, Nat.reduceLeDiff, not_false_eq_true, r_ins0, r_ins1, r_ins2, r_ins3, r_ins4, r_ins5]
  rw [q_eq (by omega) (by omega)]
  refine brc_i (fun hz => ?_) (fun hz => ?_)
  · rw [q_sub (by omega), inb_n (n := 6) rfl (by omega) (by omega), nI_clamp (by omega), hst _ (by omega)]
    refine ⟨by omega, ?_⟩
    have h := j2 none none none none none none none none none none none none none none none rfl
    rw [← hlf, if_neg hz] at h
    exact h
  · have h := j2 none none none none none none none none none none none none none none none rfl
    rw [← hlf, if_pos (by omega)] at h
    exact h
