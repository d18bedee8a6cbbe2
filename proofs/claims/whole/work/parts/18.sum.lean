/-! sums: what is taken and what melts comes off the ice -/
theorem smN_s (f : Nat → Nat) (n : Nat) : smN f (n + 1) = smN f n + f n := rfl
theorem ord_s (ow oq : Nat → Nat) (w n : Nat) (s : Sta) : ord ow oq w (n + 1) s = if ow n = w then ((srv 36 (ord ow oq w n s).1 0 (oq n)).1, fun i => if i = n then (srv 36 (ord ow oq w n s).1 0 (oq n)).2 else (ord ow oq w n s).2 i) else ord ow oq w n s := rfl
theorem smN_congr {f g : Nat → Nat} : ∀ n, (∀ i, i < n → f i = g i) → smN f n = smN g n
  | 0, _ => rfl
  | n + 1, h => by unfold smN; rw [smN_congr n (fun i hi => h i (by omega)), h n (by omega)]
theorem smN_upd {f g : Nat → Nat} {c : Nat} : ∀ n, c < n → (∀ i, i ≠ c → g i = f i) → smN g n + f c = smN f n + g c
  | 0, h, _ => absurd h (Nat.not_lt_zero c)
  | n + 1, h, e => by
    unfold smN
    by_cases q : c = n
    · subst q
      rw [smN_congr (f := g) (g := f) c (fun i hi => e i (by omega))]
      omega
    · have := smN_upd (f := f) (g := g) n (by omega) e
      rw [e n (fun q2 => q q2.symm)]
      omega
theorem smN_add {f g h : Nat → Nat} : ∀ n, (∀ i, i < n → f i + g i = h i) → smN f n + smN g n = smN h n
  | 0, _ => rfl
  | n + 1, e => by
    have := smN_add (f := f) (g := g) (h := h) n (fun i hi => e i (by omega))
    have := e n (by omega)
    unfold smN
    omega
theorem smN_le {f : Nat → Nat} {k : Nat} : ∀ n, (∀ i, i < n → f i ≤ k) → smN f n ≤ n * k
  | 0, _ => Nat.zero_le _
  | n + 1, h => by
    have := smN_le (f := f) (k := k) n (fun i hi => h i (by omega))
    have := h n (by omega)
    unfold smN
    rw [Nat.succ_mul]
    omega
theorem smI_nI {f : Nat → Int32} {g : Nat → Nat} : ∀ n, (∀ i, i < n → f i = nI (g i)) → smI f n = nI (smN g n)
  | 0, _ => rfl
  | n + 1, h => by
    unfold smI smN
    rw [smI_nI n (fun i hi => h i (by omega)), h n (by omega), q_add]
theorem smN_split (f : Nat → Nat) (m : Nat) : ∀ n, smN f (m + n) = smN f m + smN (fun i => f (m + i)) n
  | 0 => rfl
  | n + 1 => by
    have := smN_split f m n
    show smN f (m + n) + f (m + n) = _
    rw [smN_s]
    omega
theorem smN_grid (f : Nat → Nat) (k : Nat) : ∀ n, smN f (n * k) = smN (fun c => smN (fun j => f (c * k + j)) k) n
  | 0 => by rw [Nat.zero_mul]; rfl
  | n + 1 => by
    rw [Nat.succ_mul, smN_split, smN_grid f k n]
    rfl
theorem sum_snoc (l : List Nat) (x : Nat) : (l ++ [x]).sum = l.sum + x := by simp
theorem sum_getD : ∀ (l : List Nat) (n : Nat), l.length ≤ n → smN (fun j => l.getD j 0) n = l.sum := by
  have key : ∀ (l : List Nat) (n : Nat), smN (fun j => l.getD j 0) n = (l.take n).sum := by
    intro l n
    induction n with
    | zero => simp [smN]
    | succ n ih =>
      unfold smN
      rw [ih, List.take_succ, List.sum_append, List.getD_eq_getElem?_getD]
      cases l[n]? <;> simp
  intro l n h
  rw [key, List.take_of_length_le h]
theorem sum_le {l : List Nat} (h : ∀ v ∈ l, 1 ≤ v ∧ v ≤ 9) : l.sum ≤ 9 * l.length := by
  induction l with
  | nil => simp
  | cons v l ih =>
    have := (h v List.mem_cons_self).2
    have := ih (fun w hw => h w (List.mem_cons_of_mem _ hw))
    rw [List.sum_cons, List.length_cons]
    omega
theorem icC_le {C : Col} (h : okC6 C) : icC C ≤ 324 := by
  have := smN_le (f := fun c => (C c).sum) (k := 54) 6 (fun i _ => by have := sum_le (h i).2; have := (h i).1; omega)
  unfold icC
  omega
theorem RS_sum {M : Mem} {g h : Nat} {C : Col} (H : RS M g h C) (hC : okC6 C) : smI (M g) 36 = nI (icC C) := by
  rw [smI_nI (g := fun k => (C (k / 6)).getD (k % 6) 0) 36 (fun i hi => by
    have := (H (i / 6) (by omega)).2 (i % 6) (by omega)
    rw [show i / 6 * 6 + i % 6 = i by omega] at this
    exact this)]
  congr 1
  rw [show 36 = 6 * 6 from rfl, smN_grid]
  unfold icC
  apply smN_congr
  intro c hc
  rw [← sum_getD (C c) 6 (hC c).1]
  apply smN_congr
  intro j hj
  rw [show (c * 6 + j) / 6 = c by omega, show (c * 6 + j) % 6 = j by omega]
theorem sum_drop {l : List Nat} (h : l ≠ []) : l.dropLast.sum + top l = l.sum := by
  obtain ⟨a, x, rfl⟩ : ∃ a x, l = a ++ [x] := ⟨l.dropLast, l.getLast h, (List.dropLast_concat_getLast h).symm⟩
  rw [List.dropLast_concat, sum_snoc]
  congr 1
  unfold top
  rw [List.length_append, List.length_singleton, Nat.add_sub_cancel, List.getD_eq_getElem?_getD, List.getElem?_append_right (Nat.le_refl _), Nat.sub_self]
  rfl
theorem icC_drop {C : Col} {c : Nat} (hc : c < 6) (hn : C c ≠ []) : icC (setc C c (C c).dropLast) + top (C c) = icC C := by
  have h := smN_upd (f := fun d => (C d).sum) (g := fun d => (setc C c (C c).dropLast d).sum) 6 hc (fun i hi => by simp [setc, hi])
  have h2 := sum_drop hn
  unfold icC
  simp only [setc, if_true] at h ⊢
  omega
theorem icC_srv : ∀ (k : Nat) {C : Col} {h w : Nat}, okC6 C → icC (srv k C h w).1 + (srv k C h w).2 = icC C + h
  | 0, C, h, w, _ => rfl
  | k + 1, C, h, w, hC => by
    unfold srv
    split
    · rename_i hc
      have h1 := icC_srv k (C := setc C ((grt C 6).2 - 1) (C ((grt C 6).2 - 1)).dropLast) (h := h + (grt C 6).1) (w := w) (okC6_drop hC _)
      have h2 := icC_drop (C := C) (c := (grt C 6).2 - 1) (by have := (grt_le hC 6).2; omega) (grt_ne hc.2)
      have h3 := ((grt_at (C := C) 6).2 hc.2).1
      omega
    · rfl
theorem mel_sum {f : Nat → Nat} {l : List Nat} : ∀ n, (mel f l n).1.sum + (mel f l n).2 = smN (fun j => l.getD j 0) n
  | 0 => rfl
  | n + 1 => by
    have ih := mel_sum (f := f) (l := l) n
    unfold mel smN
    simp only
    split
    · rw [sum_snoc]; omega
    · omega
theorem icC_mlC (C : Col) (sw : Nat → Bool) (dr th : Bool) : icC (mlC C sw dr th) + mlW C sw dr th = icC C := by
  unfold icC mlW mlC mlc
  refine smN_add 6 (fun c _ => ?_)
  rw [mel_sum, sum_getD _ _ (Nat.le_refl _)]
theorem ord_has {ow oq : Nat → Nat} {w : Nat} : ∀ (n : Nat) {s : Sta} {i : Nat}, (ow i ≠ w ∨ n ≤ i) → (ord ow oq w n s).2 i = s.2 i
  | 0, _, _, _ => rfl
  | n + 1, s, i, h => by
    have ih := ord_has (ow := ow) (oq := oq) (w := w) n (s := s) (i := i)
    unfold ord
    split
    · rename_i e
      dsimp only
      rw [if_neg (by rcases h with q | q
                     · exact fun e2 => q (e2 ▸ e)
                     · omega)]
      exact ih (by rcases h with q | q
                   · exact Or.inl q
                   · exact Or.inr (by omega))
    · exact ih (by rcases h with q | q
                   · exact Or.inl q
                   · exact Or.inr (by omega))
theorem ord_keep {ow oq : Nat → Nat} {w : Nat} {s : Sta} {i : Nat} : ∀ (n k : Nat), i < n → (ord ow oq w (n + k) s).2 i = (ord ow oq w n s).2 i
  | n, 0, _ => rfl
  | n, k + 1, h => by
    have ih := ord_keep (ow := ow) (oq := oq) (w := w) (s := s) (i := i) n k h
    show (ord ow oq w (n + k + 1) s).2 i = _
    rw [ord_s]
    split
    · dsimp only
      rw [if_neg (by omega)]
      exact ih
    · exact ih
