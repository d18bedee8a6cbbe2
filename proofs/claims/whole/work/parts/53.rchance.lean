/-! the reference: chances -/
theorem hlv_s (n : Nat) (q : Nat × Nat) : hlv (n + 1) q = hlv n (if q.1 % 2 = 0 ∧ q.2 % 2 = 0 then (q.1 / 2, q.2 / 2) else q) := rfl
theorem hlv_st {q : Nat × Nat} (h : ¬ (q.1 % 2 = 0 ∧ q.2 % 2 = 0)) : ∀ n, hlv n q = q
  | 0 => rfl
  | n + 1 => by rw [hlv_s, if_neg h, hlv_st h n]
theorem hlv_gcd : ∀ (n k a : Nat), k ≤ n → hlv n (a, 2 ^ k) = (a / Nat.gcd a (2 ^ k), 2 ^ k / Nat.gcd a (2 ^ k))
  | n, 0, a, _ => by
    rw [hlv_st (by simp)]
    simp
  | 0, k + 1, a, h => by omega
  | n + 1, k + 1, a, h => by
    have e2 : 2 ^ (k + 1) % 2 = 0 := by rw [Nat.pow_succ]; omega
    by_cases ha : a % 2 = 0
    · rw [hlv_s, if_pos ⟨ha, e2⟩]
      dsimp only
      have e3 : 2 ^ (k + 1) / 2 = 2 ^ k := by rw [Nat.pow_succ]; omega
      have ih := hlv_gcd n k (a / 2) (by omega)
      rw [e3, ih]
      have e4 : Nat.gcd a (2 ^ (k + 1)) = 2 * Nat.gcd (a / 2) (2 ^ k) := by
        have : a = 2 * (a / 2) := by omega
        rw [this, show 2 ^ (k + 1) = 2 * 2 ^ k by rw [Nat.pow_succ]; omega, Nat.gcd_mul_left]
        rw [show 2 * (a / 2) / 2 = a / 2 by omega]
      rw [e4, ← Nat.div_div_eq_div_mul, ← Nat.div_div_eq_div_mul, e3]
    · rw [hlv_st (fun q => ha q.1)]
      have hc : Nat.Coprime a (2 ^ (k + 1)) := by
        apply Nat.Coprime.pow_right
        show Nat.gcd a 2 = 1
        have h1 : Nat.gcd a 2 ∣ 2 := Nat.gcd_dvd_right a 2
        have h2 := Nat.gcd_dvd_left a 2
        have h3 := Nat.le_of_dvd (by omega) h1
        have h4 : Nat.gcd a 2 ≠ 2 := fun q => by
          rw [q] at h2
          omega
        have h5 : Nat.gcd a 2 ≠ 0 := fun q => by
          rw [q] at h1
          omega
        omega
      have hg : Nat.gcd a (2 ^ (k + 1)) = 1 := hc
      rw [hg, Nat.div_one, Nat.div_one]
theorem s_part {a b k : Nat} (ha : a < 2 ^ 62) (hb0 : 0 < b) (hb : b < 2 ^ 62) (hk : k < 2) {M : Mem} {Q : Option Value → Mem → Prop} : Ct 105 [.long (lN a), .long (lN b), .int (nI k)] M Q = Q (some (.long (if k = 0 then lN (a / Nat.gcd a b) else lN (b / Nat.gcd a b)))) M := by
  refine Ev.ct (Ev.of ?_) Q
  have hG0 : 0 < Nat.gcd a b := Nat.gcd_pos_of_pos_right a hb0
  have hGb : Nat.gcd a b ≤ b := Nat.le_of_dvd hb0 (Nat.gcd_dvd_right a b)
  generalize hG : Nat.gcd a b = G at *
  have key : ∀ (n x y : Nat) (v : Option Value), y ≤ n → x < 2 ^ 62 → y < 2 ^ 62 → Nat.gcd x y = G → WP 105 [] 1 [some (.long (lN a)), none, some (.long (lN b)), none, some (.int (nI k)), some (.long (lN x)), none, some (.long (lN y)), none, v, none] [] M (fun r N => r = some (.long (if k = 0 then lN (a / G) else lN (b / G))) ∧ N = M) := by
    intro n
    induction n with
    | zero =>
      intro x y v hy hx _ hg
      obtain rfl : y = 0 := by omega
      rw [Nat.gcd_zero_right] at hg
      subst hg
      rw [B_105_1]
      simp only [B_105_0, B_105_2, B_105_3, B_105_4, cmp_0, r_iconst_p, r_iconst_m, r_bipush_p, r_bipush_m, r_sipush_p, r_sipush_m, r_ldc_p, r_ldc_m, r_ldc_w_p, r_ldc_w_m, r_lconst_p, r_lconst_m, r_ldc2_w_p, r_ldc2_w_m, r_iload, r_iload_n, r_lload, r_lload_n, r_aload, r_aload_n, r_istore, r_istore_n, r_astore, r_astore_n, r_lstore, r_lstore_n, r_iinc_p, r_iinc_m, r_iadd, r_isub, r_imul, r_iand, r_ior, r_ixor, r_ishl, r_ishr, r_iushr, r_idiv, r_irem, r_ladd, r_lsub, r_lmul, r_ldiv, r_lrem, r_lshl, r_lcmp, r_i2l, r_i2b, r_i2s, r_dup_i, r_dup_r, r_dup2_ii, r_dup2_ir, r_dup2_l, r_pop, r_getfield, r_putfield, r_iaload, r_iastore, r_aaload, r_arraylength, r_if_eq, r_icmp_eq, r_if_ne, r_icmp_ne, r_if_lt, r_icmp_lt, r_if_ge, r_icmp_ge, r_if_gt, r_icmp_gt, r_if_le, r_icmp_le, r_goto, r_switch, r_ireturn0, r_ireturn1, r_lreturn, r_areturn, r_return, r_inv0, r_inv1, r_inv2, r_inv3, r_inv4, r_inv5, r_min, r_max, r_acopy, onI_s, onL_s, onR_s, onO_s, fv0, fv1, fv2, fv3, fp1, fp20, fp21, fp3, tl_s, tl_n, lg0, lg1, lg2, lg3, lg4, lg5, lg6, lg7, lg8, lg9, lg10, lg11, lg12, lg13, lg14, lg15, lg16, lg17, ls0, ls1, ls2, ls3, ls4, ls5, ls6, ls7, ls8, ls9, ls10, ls11, ls12, ls13, ls14, ls15, ls16, ls17, lk0, lk1, lk2, lk3, lk4, lk5, lk6, lk7, lk8, lk9, lk10, lk11, lk12, lk13, lk14, lk15, lk16, lk17, kl_n, kl_i, kl_r, kl_l, Nat.reduceAdd, Nat.reduceLeDiff, not_false_eq_true, r_ins0, r_ins1, r_ins2, r_ins3, r_ins4, r_ins5]
      rw [brc_T, q_eq (by omega) (by omega), pk_lEQ (by omega) (by omega), pk_lDiv (by omega) (by omega) (by omega), pk_lDiv (by omega) (by omega) (by omega)]
      refine brc_i (fun hz => ⟨by omega, ?_⟩) (fun hz => ⟨by omega, ?_⟩)
      · rw [if_neg hz]; exact ⟨rfl, trivial⟩
      · rw [if_pos (Classical.not_not.mp hz)]; exact ⟨rfl, trivial⟩
    | succ n ih =>
      intro x y v hy hx hy2 hg
      by_cases h0 : y = 0
      · exact ih x y v (by omega) hx hy2 hg
      · have hr : x % y < y := Nat.mod_lt x (by omega)
        rw [B_105_1]
        simp only [B_105_0, B_105_3, B_105_4, cmp_0, r_iconst_p, r_iconst_m, r_bipush_p, r_bipush_m, r_sipush_p, r_sipush_m, r_ldc_p, r_ldc_m, r_ldc_w_p, r_ldc_w_m, r_lconst_p, r_lconst_m, r_ldc2_w_p, r_ldc2_w_m, r_iload, r_iload_n, r_lload, r_lload_n, r_aload, r_aload_n, r_istore, r_istore_n, r_astore, r_astore_n, r_lstore, r_lstore_n, r_iinc_p, r_iinc_m, r_iadd, r_isub, r_imul, r_iand, r_ior, r_ixor, r_ishl, r_ishr, r_iushr, r_idiv, r_irem, r_ladd, r_lsub, r_lmul, r_ldiv, r_lrem, r_lshl, r_lcmp, r_i2l, r_i2b, r_i2s, r_dup_i, r_dup_r, r_dup2_ii, r_dup2_ir, r_dup2_l, r_pop, r_getfield, r_putfield, r_iaload, r_iastore, r_aaload, r_arraylength, r_if_eq, r_icmp_eq, r_if_ne, r_icmp_ne, r_if_lt, r_icmp_lt, r_if_ge, r_icmp_ge, r_if_gt, r_icmp_gt, r_if_le, r_icmp_le, r_goto, r_switch, r_ireturn0, r_ireturn1, r_lreturn, r_areturn, r_return, r_inv0, r_inv1, r_inv2, r_inv3, r_inv4, r_inv5, r_min, r_max, r_acopy, onI_s, onL_s, onR_s, onO_s, fv0, fv1, fv2, fv3, fp1, fp20, fp21, fp3, tl_s, tl_n, lg0, lg1, lg2, lg3, lg4, lg5, lg6, lg7, lg8, lg9, lg10, lg11, lg12, lg13, lg14, lg15, lg16, lg17, ls0, ls1, ls2, ls3, ls4, ls5, ls6, ls7, ls8, ls9, ls10, ls11, ls12, ls13, ls14, ls15, ls16, ls17, lk0, lk1, lk2, lk3, lk4, lk5, lk6, lk7, lk8, lk9, lk10, lk11, lk12, lk13, lk14, lk15, lk16, lk17, kl_n, kl_i, kl_r, kl_l, Nat.reduceAdd, Nat.reduceLeDiff, not_false_eq_true, r_ins0, r_ins1, r_ins2, r_ins3, r_ins4, r_ins5]
        rw [pk_lEQ (by omega) (by omega), brc_neg h0, pk_lRem (by omega) (by omega) (by omega)]
        exact ⟨h0, ih y (x % y) _ (by omega) hy2 (by omega) (by rw [Nat.gcd_comm, ← Nat.gcd_rec, Nat.gcd_comm]; exact hg)⟩
  simp only [E_105, B_105_0, B_105_2, B_105_3, B_105_4, cmp_0, r_iconst_p, r_iconst_m, r_bipush_p, r_bipush_m, r_sipush_p, r_sipush_m, r_ldc_p, r_ldc_m, r_ldc_w_p, r_ldc_w_m, r_lconst_p, r_lconst_m, r_ldc2_w_p, r_ldc2_w_m, r_iload, r_iload_n, r_lload, r_lload_n, r_aload, r_aload_n, r_istore, r_istore_n, r_astore, r_astore_n, r_lstore, r_lstore_n, r_iinc_p, r_iinc_m, r_iadd, r_isub, r_imul, r_iand, r_ior, r_ixor, r_ishl, r_ishr, r_iushr, r_idiv, r_irem, r_ladd, r_lsub, r_lmul, r_ldiv, r_lrem, r_lshl, r_lcmp, r_i2l, r_i2b, r_i2s, r_dup_i, r_dup_r, r_dup2_ii, r_dup2_ir, r_dup2_l, r_pop, r_getfield, r_putfield, r_iaload, r_iastore, r_aaload, r_arraylength, r_if_eq, r_icmp_eq, r_if_ne, r_icmp_ne, r_if_lt, r_icmp_lt, r_if_ge, r_icmp_ge, r_if_gt, r_icmp_gt, r_if_le, r_icmp_le, r_goto, r_switch, r_ireturn0, r_ireturn1, r_lreturn, r_areturn, r_return, r_inv0, r_inv1, r_inv2, r_inv3, r_inv4, r_inv5, r_min, r_max, r_acopy, onI_s, onL_s, onR_s, onO_s, fv0, fv1, fv2, fv3, fp1, fp20, fp21, fp3, tl_s, tl_n, lg0, lg1, lg2, lg3, lg4, lg5, lg6, lg7, lg8, lg9, lg10, lg11, lg12, lg13, lg14, lg15, lg16, lg17, ls0, ls1, ls2, ls3, ls4, ls5, ls6, ls7, ls8, ls9, ls10, ls11, ls12, ls13, ls14, ls15, ls16, ls17, lk0, lk1, lk2, lk3, lk4, lk5, lk6, lk7, lk8, lk9, lk10, lk11, lk12, lk13, lk14, lk15, lk16, lk17, kl_n, kl_i, kl_r, kl_l, Nat.reduceAdd, Nat.reduceLeDiff, not_false_eq_true, r_ins0, r_ins1, r_ins2, r_ins3, r_ins4, r_ins5]
  exact key b a b none (Nat.le_refl _) ha hb hG
/-! the sum over the sets that are gone is that over the sets that are -/
theorem smN_rev (f : Nat → Nat) : ∀ n, smN (fun s => f (n - 1 - s)) n = smN f n
  | 0 => rfl
  | n + 1 => by
    have ih := smN_rev f n
    have e := smN_split (fun s => f (n + 1 - 1 - s)) 1 n
    rw [show 1 + n = n + 1 by omega] at e
    rw [e, smN_s f n]
    have e1 : smN (fun s => f (n + 1 - 1 - s)) 1 = f n := by show 0 + f (n + 1 - 1 - 0) = f n; rw [Nat.zero_add]; congr 1
    rw [e1, ← ih]
    have e2 : smN (fun i => f (n + 1 - 1 - (1 + i))) n = smN (fun s => f (n - 1 - s)) n := smN_congr n (fun i _ => by congr 1; omega)
    rw [e2, Nat.add_comm]
def prd (s c : Nat) : Nat → Nat
  | 0 => 1
  | n + 1 => prd s c n * (if s.testBit n = true then 16 - c else c)
theorem prd_s (s c n : Nat) : prd s c (n + 1) = prd s c n * (if s.testBit n = true then 16 - c else c) := rfl
theorem prd_eq (s c : Nat) : ∀ n, prd s c n = (16 - c) ^ smN (fun i => (s.testBit i).toNat) n * c ^ (n - smN (fun i => (s.testBit i).toNat) n) ∧ smN (fun i => (s.testBit i).toNat) n ≤ n
  | 0 => by simp [prd, smN]
  | n + 1 => by
    obtain ⟨i1, i2⟩ := prd_eq s c n
    rw [prd_s, i1, smN_s]
    cases hb : s.testBit n with
    | true =>
      rw [if_pos rfl, show (true).toNat = 1 from rfl, Nat.pow_succ, show n + 1 - (smN (fun i => (s.testBit i).toNat) n + 1) = n - smN (fun i => (s.testBit i).toNat) n by omega]
      refine ⟨?_, by omega⟩
      rw [Nat.mul_assoc, Nat.mul_comm (c ^ _), ← Nat.mul_assoc]
    | false =>
      rw [if_neg (by decide), show (false).toNat = 0 from rfl, Nat.add_zero, show n + 1 - smN (fun i => (s.testBit i).toNat) n = n - smN (fun i => (s.testBit i).toNat) n + 1 by omega, Nat.pow_succ]
      exact ⟨by rw [Nat.mul_assoc], by omega⟩
theorem pop_ne : ∀ ne, ne ≤ 8 → ∀ s, s < 2 ^ ne → smN (fun i => (s.testBit i).toNat) ne = popc s := by decide +kernel
theorem pop_cm : ∀ ne, ne ≤ 8 → ∀ s, s < 2 ^ ne → popc (2 ^ ne - 1 - s) = ne - popc s := by decide +kernel
theorem bit_cm : ∀ ne, ne ≤ 8 → ∀ s, s < 2 ^ ne → ∀ i, i < ne → (2 ^ ne - 1 - s).testBit i = !s.testBit i := by decide +kernel
theorem shl4 : ∀ ne, ne ≤ 8 → lN 1 <<< ((nI (4 * ne)).toInt64 &&& 63) = lN (16 ^ ne) := by decide +kernel
theorem evw_cg {ek ew ec : Nat → Nat} {e e' : Nat} : ∀ n, (∀ i, i < n → e.testBit i = e'.testBit i) → evw ek ew ec e n = evw ek ew ec e' n
  | 0, _ => rfl
  | n + 1, h => by rw [evw_s, evw_s, evw_cg n (fun i hi => h i (by omega)), h n (by omega)]
theorem evw_gone {ek ew ec : Nat → Nat} {ne s : Nat} (h8 : ne ≤ 8) (hs : s < 2 ^ ne) : evw ek ew ec (255 - s) ne = evw ek ew ec (2 ^ ne - 1 - s) ne := by
  have := pow2_le h8
  exact evw_cg ne (fun i hi => by rw [goneB s (by omega) i (by omega), bit_cm ne h8 s hs i hi])
theorem chS_ref {sh : Nat → Bool} {ne c : Nat} (h8 : ne ≤ 8) : smN (fun s => if sh (2 ^ ne - 1 - s) = true then prd s c ne else 0) (2 ^ ne) = chS sh ne c (2 ^ ne) := by
  have hp : 0 < 2 ^ ne := Nat.pow_pos (by decide)
  unfold chS
  rw [← smN_rev (fun s => if sh s = true then c ^ popc s * (16 - c) ^ (ne - popc s) else 0)]
  apply smN_congr
  intro s hs
  have hpl := pop_le ne h8 s hs
  rw [(prd_eq s c ne).1, pop_ne ne h8 s hs, pop_cm ne h8 s hs, show ne - (ne - popc s) = popc s by omega, Nat.mul_comm]
section RW
variable {M : Mem} {g : Sg}
set_option maxHeartbeats 1000000 in
theorem m_chanceOf (h : MF M g) {c i k : Nat} (hc : c ≤ 16) (hi : i < gno g) (hk : k < 2) : Ct 185 [.ref 62, .int (nI c), .int (nI i), .int (nI k)] M (fun r N => r = some (.long (if k = 0 then lN (gch g c i).1 else lN (gch g c i).2)) ∧ MF N g ∧ Lw M N) := by
  have hl0 := h.LV
  have h8 := hl0.2.2.2.2.2.2.1.2.1
  have hno := hl0.2.2.2.1
  have hp8 := pow2_le h8
  have hp0 : 0 < 2 ^ gne g := Nat.pow_pos (by decide)
  generalize hsh : chF (gB g) (gno g) (gow g) (goq g) (gne g) (gek g) (gew g) (gec g) i = sh
  have hA := chS_ref (sh := sh) (c := c) h8
  have h16 : 16 ^ gne g ≤ 16 ^ 8 := Nat.pow_le_pow_right (by decide) h8
  have h160 : 0 < 16 ^ gne g := Nat.pow_pos (by decide)
  generalize hfs : (fun s => if sh (2 ^ gne g - 1 - s) = true then prd s c (gne g) else 0) = fs at hA
  have hAl : chS sh (gne g) c (2 ^ gne g) < 2 ^ 62 := by
    unfold chS
    have := smN_le (f := fun s => if sh s = true then c ^ popc s * (16 - c) ^ (gne g - popc s) else 0) (k := 16 ^ 8) (2 ^ gne g) (fun s hs => by
      have := ch_le (s := s) hc (pop_le (gne g) h8 s hs)
      split
      · omega
      · omega)
    have h2 : 2 ^ gne g * 16 ^ 8 ≤ 256 * 16 ^ 8 := Nat.mul_le_mul_right _ hp8
    omega
  have hgch : gch g c i = (chS sh (gne g) c (2 ^ gne g) / Nat.gcd (chS sh (gne g) c (2 ^ gne g)) (16 ^ gne g), 16 ^ gne g / Nat.gcd (chS sh (gne g) c (2 ^ gne g)) (16 ^ gne g)) := by
    unfold gch
    rw [hsh]
    have e := hlv_gcd 32 (4 * gne g) (chS sh (gne g) c (2 ^ gne g)) (by omega)
    rw [Nat.pow_mul, show 2 ^ 4 = 16 from rfl] at e
    exact e
  rw [hgch]
  generalize hQ : (fun (r : Option Value) (N : Mem) => r = some (.long (if k = 0 then lN (chS sh (gne g) c (2 ^ gne g) / Nat.gcd (chS sh (gne g) c (2 ^ gne g)) (16 ^ gne g), 16 ^ gne g / Nat.gcd (chS sh (gne g) c (2 ^ gne g)) (16 ^ gne g)).1 else lN (chS sh (gne g) c (2 ^ gne g) / Nat.gcd (chS sh (gne g) c (2 ^ gne g)) (16 ^ gne g), 16 ^ gne g / Nat.gcd (chS sh (gne g) c (2 ^ gne g)) (16 ^ gne g)).2)) ∧ MF N g ∧ Lw M N) = Q
  have key : ∀ (n s gn : Nat) (N : Mem) (v v9 : Option Value), s + n = 2 ^ gne g → ST N g → LV N (gB g) (gno g) (gow g) (goq g) (gne g) (gek g) (gew g) (gec g) gn 0 0 0 → Lw M N → WP 185 [] 1 [some (.ref 62), some (.int (nI c)), some (.int (nI i)), some (.int (nI k)), some (.long (lN (smN fs s))), none, some (.int (nI s)), v, none, v9] [] N Q := by
    intro n
    induction n with
    | zero =>
      intro s gn N v v9 hs hS hL hw
      have e : s = 2 ^ gne g := by omega
      subst e
      have hL2 := hL.g13 (k := 0) (by omega)
      rw [B_185_1]
      simp only [B_185_0, B_185_5, B_185_6, B_185_7, B_185_8, cm, hL.2.2.2.2.2.2.1.1, hL2.2.2.2.2.2.2.1.1, shl1 (show gne g < 31 by omega), q_mul, shl4 _ h8, hA, s_part hAl h160 (show 16 ^ gne g < 2 ^ 62 by omega) hk, r_iconst_p, r_iconst_m, r_bipush_p, r_bipush_m, r_sipush_p, r_sipush_m, r_ldc_p, r_ldc_m, r_ldc_w_p, r_ldc_w_m, r_lconst_p, r_lconst_m, r_ldc2_w_p, r_ldc2_w_m, r_iload, r_iload_n, r_lload, r_lload_n, r_aload, r_aload_n, r_istore, r_istore_n, r_astore, r_astore_n, r_lstore, r_lstore_n, r_iinc_p, r_iinc_m, r_iadd, r_isub, r_imul, r_iand, r_ior, r_ixor, r_ishl, r_ishr, r_iushr, r_idiv, r_irem, r_ladd, r_lsub, r_lmul, r_ldiv, r_lrem, r_lshl, r_lcmp, r_i2l, r_i2b, r_i2s, r_dup_i, r_dup_r, r_dup2_ii, r_dup2_ir, r_dup2_l, r_pop, r_getfield, r_putfield, r_iaload, r_iastore, r_aaload, r_arraylength, r_if_eq, r_icmp_eq, r_if_ne, r_icmp_ne, r_if_lt, r_icmp_lt, r_if_ge, r_icmp_ge, r_if_gt, r_icmp_gt, r_if_le, r_icmp_le, r_goto, r_switch, r_ireturn0, r_ireturn1, r_lreturn, r_areturn, r_return, r_inv0, r_inv1, r_inv2, r_inv3, r_inv4, r_inv5, r_min, r_max, r_acopy, onI_s, onL_s, onR_s, onO_s, fv0, fv1, fv2, fv3, fp1, fp20, fp21, fp3, tl_s, tl_n, lg0, lg1, lg2, lg3, lg4, lg5, lg6, lg7, lg8, lg9, lg10, lg11, lg12, lg13, lg14, lg15, lg16, lg17, ls0, ls1, ls2, ls3, ls4, ls5, ls6, ls7, ls8, ls9, ls10, ls11, ls12, ls13, ls14, ls15, ls16, ls17, lk0, lk1, lk2, lk3, lk4, lk5, lk6, lk7, lk8, lk9, lk10, lk11, lk12, lk13, lk14, lk15, lk16, lk17, kl_n, kl_i, kl_r, kl_l, Nat.reduceAdd, Nat.reduceLeDiff, not_false_eq_true, r_ins0, r_ins1, r_ins2, r_ins3, r_ins4, r_ins5]
      rw [Nat.one_shiftLeft, brc_pos (Int32.le_refl _), ← hQ]
      exact ⟨by simp, rfl, mf_of (hS.st (by omega)) hL2, hw.st (by omega)⟩
    | succ n ih =>
      intro s gn N v v9 hs hS hL hw
      have hsl : s < 2 ^ gne g := by omega
      rw [B_185_1]
      simp only [B_185_0, B_185_2, B_185_5, B_185_6, B_185_7, cm, hL.2.2.2.2.2.2.1.1, shl1 (show gne g < 31 by omega), r_iconst_p, r_iconst_m, r_bipush_p, r_bipush_m, r_sipush_p, r_sipush_m, r_ldc_p, r_ldc_m, r_ldc_w_p, r_ldc_w_m, r_lconst_p, r_lconst_m, r_ldc2_w_p, r_ldc2_w_m, r_iload, r_iload_n, r_lload, r_lload_n, r_aload, r_aload_n, r_istore, r_istore_n, r_astore, r_astore_n, r_lstore, r_lstore_n, r_iinc_p, r_iinc_m, r_iadd, r_isub, r_imul, r_iand, r_ior, r_ixor, r_ishl, r_ishr, r_iushr, r_idiv, r_irem, r_ladd, r_lsub, r_lmul, r_ldiv, r_lrem, r_lshl, r_lcmp, r_i2l, r_i2b, r_i2s, r_dup_i, r_dup_r, r_dup2_ii, r_dup2_ir, r_dup2_l, r_pop, r_getfield, r_putfield, r_iaload, r_iastore, r_aaload, r_arraylength, r_if_eq, r_icmp_eq, r_if_ne, r_icmp_ne, r_if_lt, r_icmp_lt, r_if_ge, r_icmp_ge, r_if_gt, r_icmp_gt, r_if_le, r_icmp_le, r_goto, r_switch, r_ireturn0, r_ireturn1, r_lreturn, r_areturn, r_return, r_inv0, r_inv1, r_inv2, r_inv3, r_inv4, r_inv5, r_min, r_max, r_acopy, onI_s, onL_s, onR_s, onO_s, fv0, fv1, fv2, fv3, fp1, fp20, fp21, fp3, tl_s, tl_n, lg0, lg1, lg2, lg3, lg4, lg5, lg6, lg7, lg8, lg9, lg10, lg11, lg12, lg13, lg14, lg15, lg16, lg17, ls0, ls1, ls2, ls3, ls4, ls5, ls6, ls7, ls8, ls9, ls10, ls11, ls12, ls13, ls14, ls15, ls16, ls17, lk0, lk1, lk2, lk3, lk4, lk5, lk6, lk7, lk8, lk9, lk10, lk11, lk12, lk13, lk14, lk15, lk16, lk17, kl_n, kl_i, kl_r, kl_l, Nat.reduceAdd, Nat.reduceLeDiff, not_false_eq_true, r_ins0, r_ins1, r_ins2, r_ins3, r_ins4, r_ins5]
      rw [Nat.one_shiftLeft, brc_neg (nI_ge (by omega) (by omega))]
      have hE := hL.g13 (k := s) (by omega)
      refine ⟨trivial, by simp, (x_lives (hS.st (by omega)) hE).mono ?_⟩
      rintro r P ⟨rfl, hS1, hL1, w1, hO, -⟩
      rw [LI_gn, evw_gone h8 hsl] at hO
      have hI : okI (InW (gB g) (gno g) (gow g) (goq g) (evw (gek g) (gew g) (gec g) (2 ^ gne g - 1 - s) (gne g))) := ⟨hL1.2.1, hL1.2.2.2.1, hL1.2.2.2.2.1, hL1.2.2.2.2.2.1⟩
      have esh : decide ((yr (InW (gB g) (gno g) (gow g) (goq g) (evw (gek g) (gew g) (gec g) (2 ^ gne g - 1 - s) (gne g))) 24).2 i < goq g i) = sh (2 ^ gne g - 1 - s) := by
        rw [← hsh]
        apply decide_eq_decide.mpr
        exact ⟨fun q => ⟨hi, q⟩, fun q => q.2⟩
      have inner : ∀ (w0 m j : Nat), j + m = gne g → (if sh (2 ^ gne g - 1 - s) = true then prd s c j else 0) = w0 → WP 185 [] 4 [some (.ref 62), some (.int (nI c)), some (.int (nI i)), some (.int (nI k)), some (.long (lN (smN fs s))), none, some (.int (nI s)), some (.long (lN w0)), none, some (.int (nI j))] [] P Q := by
        intro w0 m
        induction m generalizing w0 with
        | zero =>
          intro j hj hw0
          obtain rfl : j = gne g := by omega
          rw [B_185_4]
          simp only [B_185_0, B_185_2, B_185_3, B_185_5, B_185_6, B_185_7, B_185_8, cm, hL1.2.2.2.2.2.2.1.1, lN_add, q_add, r_iconst_p, r_iconst_m, r_bipush_p, r_bipush_m, r_sipush_p, r_sipush_m, r_ldc_p, r_ldc_m, r_ldc_w_p, r_ldc_w_m, r_lconst_p, r_lconst_m, r_ldc2_w_p, r_ldc2_w_m, r_iload, r_iload_n, r_lload, r_lload_n, r_aload, r_aload_n, r_istore, r_istore_n, r_astore, r_astore_n, r_lstore, r_lstore_n, r_iinc_p, r_iinc_m, r_iadd, r_isub, r_imul, r_iand, r_ior, r_ixor, r_ishl, r_ishr, r_iushr, r_idiv, r_irem, r_ladd, r_lsub, r_lmul, r_ldiv, r_lrem, r_lshl, r_lcmp, r_i2l, r_i2b, r_i2s, r_dup_i, r_dup_r, r_dup2_ii, r_dup2_ir, r_dup2_l, r_pop, r_getfield, r_putfield, r_iaload, r_iastore, r_aaload, r_arraylength, r_if_eq, r_icmp_eq, r_if_ne, r_icmp_ne, r_if_lt, r_icmp_lt, r_if_ge, r_icmp_ge, r_if_gt, r_icmp_gt, r_if_le, r_icmp_le, r_goto, r_switch, r_ireturn0, r_ireturn1, r_lreturn, r_areturn, r_return, r_inv0, r_inv1, r_inv2, r_inv3, r_inv4, r_inv5, r_min, r_max, r_acopy, onI_s, onL_s, onR_s, onO_s, fv0, fv1, fv2, fv3, fp1, fp20, fp21, fp3, tl_s, tl_n, lg0, lg1, lg2, lg3, lg4, lg5, lg6, lg7, lg8, lg9, lg10, lg11, lg12, lg13, lg14, lg15, lg16, lg17, ls0, ls1, ls2, ls3, ls4, ls5, ls6, ls7, ls8, ls9, ls10, ls11, ls12, ls13, ls14, ls15, ls16, ls17, lk0, lk1, lk2, lk3, lk4, lk5, lk6, lk7, lk8, lk9, lk10, lk11, lk12, lk13, lk14, lk15, lk16, lk17, kl_n, kl_i, kl_r, kl_l, Nat.reduceAdd, Nat.reduceLeDiff, not_false_eq_true, r_ins0, r_ins1, r_ins2, r_ins3, r_ins4, r_ins5]
          rw [brc_pos (Int32.le_refl _)]
          have e : smN fs s + w0 = smN fs (s + 1) := by rw [smN_s, ← hw0, ← hfs]
          rw [e]
          exact ih (s + 1) s P _ _ (by omega) hS1 hL1 ((hw.st (by omega)).tr w1)
        | succ m ihm =>
          intro j hj hw0
          rw [B_185_4]
          simp only [B_185_0, B_185_2, B_185_3, B_185_5, B_185_6, B_185_8, cm, hL1.2.2.2.2.2.2.1.1, q_add, s_isIn (show s < 2 ^ 31 by omega) (show j < 31 by omega), q_sub (show c ≤ 16 by omega), nI_l (show 16 - c < 2 ^ 31 by omega), nI_l (show c < 2 ^ 31 by omega), lN_mul, r_iconst_p, r_iconst_m, r_bipush_p, r_bipush_m, r_sipush_p, r_sipush_m, r_ldc_p, r_ldc_m, r_ldc_w_p, r_ldc_w_m, r_lconst_p, r_lconst_m, r_ldc2_w_p, r_ldc2_w_m, r_iload, r_iload_n, r_lload, r_lload_n, r_aload, r_aload_n, r_istore, r_istore_n, r_astore, r_astore_n, r_lstore, r_lstore_n, r_iinc_p, r_iinc_m, r_iadd, r_isub, r_imul, r_iand, r_ior, r_ixor, r_ishl, r_ishr, r_iushr, r_idiv, r_irem, r_ladd, r_lsub, r_lmul, r_ldiv, r_lrem, r_lshl, r_lcmp, r_i2l, r_i2b, r_i2s, r_dup_i, r_dup_r, r_dup2_ii, r_dup2_ir, r_dup2_l, r_pop, r_getfield, r_putfield, r_iaload, r_iastore, r_aaload, r_arraylength, r_if_eq, r_icmp_eq, r_if_ne, r_icmp_ne, r_if_lt, r_icmp_lt, r_if_ge, r_icmp_ge, r_if_gt, r_icmp_gt, r_if_le, r_icmp_le, r_goto, r_switch, r_ireturn0, r_ireturn1, r_lreturn, r_areturn, r_return, r_inv0, r_inv1, r_inv2, r_inv3, r_inv4, r_inv5, r_min, r_max, r_acopy, onI_s, onL_s, onR_s, onO_s, fv0, fv1, fv2, fv3, fp1, fp20, fp21, fp3, tl_s, tl_n, lg0, lg1, lg2, lg3, lg4, lg5, lg6, lg7, lg8, lg9, lg10, lg11, lg12, lg13, lg14, lg15, lg16, lg17, ls0, ls1, ls2, ls3, ls4, ls5, ls6, ls7, ls8, ls9, ls10, ls11, ls12, ls13, ls14, ls15, ls16, ls17, lk0, lk1, lk2, lk3, lk4, lk5, lk6, lk7, lk8, lk9, lk10, lk11, lk12, lk13, lk14, lk15, lk16, lk17, kl_n, kl_i, kl_r, kl_l, Nat.reduceAdd, Nat.reduceLeDiff, not_false_eq_true, r_ins0, r_ins1, r_ins2, r_ins3, r_ins4, r_ins5]
          rw [brc_neg (nI_ge (by omega) (by omega))]
          refine ⟨by simp, ?_⟩
          have nx := fun w1 (hw1 : (if sh (2 ^ gne g - 1 - s) = true then prd s c (j + 1) else 0) = w1) => ihm w1 (j + 1) (by omega) hw1
          have ep : (if sh (2 ^ gne g - 1 - s) = true then prd s c (j + 1) else 0) = w0 * (if s.testBit j = true then 16 - c else c) := by
            rw [← hw0, prd_s]
            by_cases q : sh (2 ^ gne g - 1 - s) = true
            · rw [if_pos q, if_pos q]
            · rw [if_neg q, if_neg q, Nat.zero_mul]
          cases hb : s.testBit j with
          | false =>
            rw [hb, if_neg (show ¬ false = true by decide)] at ep
            rw [rF', brc_pos rfl]
            exact nx _ ep
          | true =>
            rw [hb, if_pos (show true = true from rfl)] at ep
            rw [rT', n10, brc_F]
            exact nx _ ep
      simp only [B_185_0, B_185_2, B_185_3, B_185_5, B_185_6, B_185_7, cm, s_isShort hO hI hL1.2.2.1 rfl hi hno, esh, r_iconst_p, r_iconst_m, r_bipush_p, r_bipush_m, r_sipush_p, r_sipush_m, r_ldc_p, r_ldc_m, r_ldc_w_p, r_ldc_w_m, r_lconst_p, r_lconst_m, r_ldc2_w_p, r_ldc2_w_m, r_iload, r_iload_n, r_lload, r_lload_n, r_aload, r_aload_n, r_istore, r_istore_n, r_astore, r_astore_n, r_lstore, r_lstore_n, r_iinc_p, r_iinc_m, r_iadd, r_isub, r_imul, r_iand, r_ior, r_ixor, r_ishl, r_ishr, r_iushr, r_idiv, r_irem, r_ladd, r_lsub, r_lmul, r_ldiv, r_lrem, r_lshl, r_lcmp, r_i2l, r_i2b, r_i2s, r_dup_i, r_dup_r, r_dup2_ii, r_dup2_ir, r_dup2_l, r_pop, r_getfield, r_putfield, r_iaload, r_iastore, r_aaload, r_arraylength, r_if_eq, r_icmp_eq, r_if_ne, r_icmp_ne, r_if_lt, r_icmp_lt, r_if_ge, r_icmp_ge, r_if_gt, r_icmp_gt, r_if_le, r_icmp_le, r_goto, r_switch, r_ireturn0, r_ireturn1, r_lreturn, r_areturn, r_return, r_inv0, r_inv1, r_inv2, r_inv3, r_inv4, r_inv5, r_min, r_max, r_acopy, onI_s, onL_s, onR_s, onO_s, fv0, fv1, fv2, fv3, fp1, fp20, fp21, fp3, tl_s, tl_n, lg0, lg1, lg2, lg3, lg4, lg5, lg6, lg7, lg8, lg9, lg10, lg11, lg12, lg13, lg14, lg15, lg16, lg17, ls0, ls1, ls2, ls3, ls4, ls5, ls6, ls7, ls8, ls9, ls10, ls11, ls12, ls13, ls14, ls15, ls16, ls17, lk0, lk1, lk2, lk3, lk4, lk5, lk6, lk7, lk8, lk9, lk10, lk11, lk12, lk13, lk14, lk15, lk16, lk17, kl_n, kl_i, kl_r, kl_l, Nat.reduceAdd, Nat.reduceLeDiff, not_false_eq_true, r_ins0, r_ins1, r_ins2, r_ins3, r_ins4, r_ins5]
      refine ⟨trivial, by simp, ?_⟩
      cases hz : sh (2 ^ gne g - 1 - s) with
      | false =>
        rw [rF', brc_pos rfl]
        exact inner 0 (gne g) 0 (by omega) (by rw [hz, if_neg (by decide)])
      | true =>
        rw [rT', n10, brc_F]
        exact inner 1 (gne g) 0 (by omega) (by rw [hz, if_pos rfl]; rfl)
  simp only [E_185, B_185_0, B_185_2, B_185_3, B_185_5, B_185_6, B_185_7, B_185_8, cm, r_iconst_p, r_iconst_m, r_bipush_p, r_bipush_m, r_sipush_p, r_sipush_m, r_ldc_p, r_ldc_m, r_ldc_w_p, r_ldc_w_m, r_lconst_p, r_lconst_m, r_ldc2_w_p, r_ldc2_w_m, r_iload, r_iload_n, r_lload, r_lload_n, r_aload, r_aload_n, r_istore, r_istore_n, r_astore, r_astore_n, r_lstore, r_lstore_n, r_iinc_p, r_iinc_m, r_iadd, r_isub, r_imul, r_iand, r_ior, r_ixor, r_ishl, r_ishr, r_iushr, r_idiv, r_irem, r_ladd, r_lsub, r_lmul, r_ldiv, r_lrem, r_lshl, r_lcmp, r_i2l, r_i2b, r_i2s, r_dup_i, r_dup_r, r_dup2_ii, r_dup2_ir, r_dup2_l, r_pop, r_getfield, r_putfield, r_iaload, r_iastore, r_aaload, r_arraylength, r_if_eq, r_icmp_eq, r_if_ne, r_icmp_ne, r_if_lt, r_icmp_lt, r_if_ge, r_icmp_ge, r_if_gt, r_icmp_gt, r_if_le, r_icmp_le, r_goto, r_switch, r_ireturn0, r_ireturn1, r_lreturn, r_areturn, r_return, r_inv0, r_inv1, r_inv2, r_inv3, r_inv4, r_inv5, r_min, r_max, r_acopy, onI_s, onL_s, onR_s, onO_s, fv0, fv1, fv2, fv3, fp1, fp20, fp21, fp3, tl_s, tl_n, lg0, lg1, lg2, lg3, lg4, lg5, lg6, lg7, lg8, lg9, lg10, lg11, lg12, lg13, lg14, lg15, lg16, lg17, ls0, ls1, ls2, ls3, ls4, ls5, ls6, ls7, ls8, ls9, ls10, ls11, ls12, ls13, ls14, ls15, ls16, ls17, lk0, lk1, lk2, lk3, lk4, lk5, lk6, lk7, lk8, lk9, lk10, lk11, lk12, lk13, lk14, lk15, lk16, lk17, kl_n, kl_i, kl_r, kl_l, Nat.reduceAdd, Nat.reduceLeDiff, not_false_eq_true, r_ins0, r_ins1, r_ins2, r_ins3, r_ins4, r_ins5]
  exact key (2 ^ gne g) 0 0 M none none (by omega) h.ST h.LV Lw.rf
end RW
