/-! THE MATHEMATICAL MODEL: columns as lists, bottom first -/
def top (l : List Nat) : Nat := l.getD (l.length - 1) 0
abbrev Col : Type := Nat → List Nat
def setc (C : Col) (c : Nat) (l : List Nat) : Col := fun d => if d = c then l else C d
/-- the greatest top of the first n columns, and its column and 1 (0: none) -/
def grt (C : Col) : Nat → Nat × Nat
  | 0 => (0, 0)
  | n + 1 => if (grt C n).1 < top (C n) then (top (C n), n + 1) else grt C n
def ix (k : Nat) : Int32 := if k = 0 then mI 1 else nI (k - 1)
def srv : Nat → Col → Nat → Nat → Col × Nat
  | 0, C, h, _ => (C, h)
  | k + 1, C, h, w => if h < w ∧ ¬ (grt C 6).2 = 0 then srv k (setc C ((grt C 6).2 - 1) (C ((grt C 6).2 - 1)).dropLast) (h + (grt C 6).1) w else (C, h)
abbrev Sta : Type := Col × (Nat → Nat)
/-- the first n orders, as far as they are of week w -/
def ord (ow oq : Nat → Nat) (w : Nat) : Nat → Sta → Sta
  | 0, s => s
  | n + 1, s => if ow n = w then ((srv 36 (ord ow oq w n s).1 0 (oq n)).1, fun i => if i = n then (srv 36 (ord ow oq w n s).1 0 (oq n)).2 else (ord ow oq w n s).2 i) else ord ow oq w n s
def fre (C : Col) (sw : Nat → Bool) (c j : Nat) : Nat := (if j + 1 = (C c).length ∧ sw c = false then 1 else 0) + (if 0 < c ∧ (C (c - 1)).length ≤ j then 1 else 0) + (if c < 5 ∧ (C (c + 1)).length ≤ j then 1 else 0)
def los (C : Col) (sw : Nat → Bool) (dr th : Bool) (c j : Nat) : Nat := fre C sw c j / 2 + (if dr = true ∧ j + 1 = (C c).length ∧ sw c = false then 1 else 0) + (if th = true ∧ 0 < fre C sw c j then 1 else 0)
def mel (f : Nat → Nat) (l : List Nat) : Nat → List Nat × Nat
  | 0 => ([], 0)
  | n + 1 => (if f n < l.getD n 0 then (mel f l n).1 ++ [l.getD n 0 - f n] else (mel f l n).1, (mel f l n).2 + min (f n) (l.getD n 0))
def mlc (C : Col) (sw : Nat → Bool) (dr th : Bool) (c : Nat) : List Nat × Nat := mel (los C sw dr th c) (C c) (C c).length
def smN (f : Nat → Nat) : Nat → Nat
  | 0 => 0
  | n + 1 => smN f n + f n
def mlC (C : Col) (sw : Nat → Bool) (dr th : Bool) : Col := fun c => (mlc C sw dr th c).1
def mlW (C : Col) (sw : Nat → Bool) (dr th : Bool) : Nat := smN (fun c => (mlc C sw dr th c).2) 6
/-- what a summer depends on: blocks, number of orders, their weeks, what they want, doors, thaws, straw -/
abbrev Inp : Type := Col × Nat × (Nat → Nat) × (Nat → Nat) × (Nat → Bool) × (Nat → Bool) × (Nat → Nat → Bool)
def yr (I : Inp) : Nat → Sta
  | 0 => (I.1, fun _ => 0)
  | w + 1 => (mlC (ord I.2.2.1 I.2.2.2.1 w I.2.1 (yr I w)).1 (I.2.2.2.2.2.2 w) (I.2.2.2.2.1 w) (I.2.2.2.2.2.1 w), (ord I.2.2.1 I.2.2.2.1 w I.2.1 (yr I w)).2)
def wat (I : Inp) (w : Nat) : Nat := mlW (ord I.2.2.1 I.2.2.2.1 w I.2.1 (yr I w)).1 (I.2.2.2.2.2.2 w) (I.2.2.2.2.1 w) (I.2.2.2.2.2.1 w)
def lsm (l : List Nat) : Nat := l.sum
def icC (C : Col) : Nat := smN (fun c => (C c).sum) 6
/-- columns that may stand -/
def okC6 (C : Col) : Prop := ∀ c, (C c).length ≤ 6 ∧ ∀ v ∈ C c, 1 ≤ v ∧ v ≤ 9
theorem top_nil : top [] = 0 := rfl
theorem getD_le {l : List Nat} (h : ∀ v ∈ l, 1 ≤ v ∧ v ≤ 9) (j : Nat) : l.getD j 0 ≤ 9 := by
  rw [List.getD_eq_getElem?_getD]
  cases hj : l[j]? with
  | none => simp
  | some v => exact (h v (List.mem_of_getElem? hj)).2
theorem getD_pos {l : List Nat} (h : ∀ v ∈ l, 1 ≤ v ∧ v ≤ 9) {j : Nat} (hj : j < l.length) : 1 ≤ l.getD j 0 := by
  rw [List.getD_eq_getElem?_getD, List.getElem?_eq_getElem hj]
  exact (h _ (List.getElem_mem hj)).1
theorem top_le {l : List Nat} (h : ∀ v ∈ l, 1 ≤ v ∧ v ≤ 9) : top l ≤ 9 := getD_le h _
theorem top_pos {l : List Nat} (h : ∀ v ∈ l, 1 ≤ v ∧ v ≤ 9) (hl : l ≠ []) : 1 ≤ top l := getD_pos h (by have := List.length_pos_iff.mpr hl; omega)
theorem grt_le {C : Col} (h : okC6 C) : ∀ n, (grt C n).1 ≤ 9 ∧ (grt C n).2 ≤ n
  | 0 => ⟨Nat.zero_le _, Nat.le_refl 0⟩
  | n + 1 => by
    have ih := grt_le h n
    unfold grt
    split
    · exact ⟨top_le (h n).2, Nat.le_refl _⟩
    · exact ⟨ih.1, by omega⟩
/-- the column that is found has that top; none is found if all are bare -/
theorem grt_at {C : Col} : ∀ n, ((grt C n).2 = 0 → (grt C n).1 = 0) ∧ (¬ (grt C n).2 = 0 → (grt C n).1 = top (C ((grt C n).2 - 1)) ∧ 0 < (grt C n).1)
  | 0 => ⟨fun _ => rfl, fun h => absurd rfl h⟩
  | n + 1 => by
    have ih := grt_at (C := C) n
    unfold grt
    split
    · rename_i h; exact ⟨fun q => by simp at q, fun _ => ⟨by simp, by simp; omega⟩⟩
    · exact ih
theorem grt_none {C : Col} (hC : okC6 C) : ∀ n, (grt C n).2 = 0 → ∀ c, c < n → C c = []
  | 0, _, c, hc => absurd hc (Nat.not_lt_zero c)
  | n + 1, h, c, hc => by
    unfold grt at h
    split at h
    · simp at h
    · rename_i hn
      have ih := grt_none hC n h
      have h0 := (grt_at (C := C) n).1 h
      rcases Nat.lt_or_ge c n with q | q
      · exact ih c q
      · have e : c = n := by omega
        subst e
        by_cases hl : C c = []
        · exact hl
        · have := top_pos (hC c).2 hl
          omega
theorem grt_ne {C : Col} (h : ¬ (grt C 6).2 = 0) : C ((grt C 6).2 - 1) ≠ [] := by
  intro e
  have h1 := (grt_at (C := C) 6).2 h
  rw [e] at h1
  simp [top] at h1
  omega
theorem okC6_set {C : Col} (h : okC6 C) {c : Nat} {l : List Nat} (hl : l.length ≤ 6 ∧ ∀ v ∈ l, 1 ≤ v ∧ v ≤ 9) : okC6 (setc C c l) := by
  intro d
  unfold setc
  split
  · exact hl
  · exact h d
theorem okC6_drop {C : Col} (h : okC6 C) (c : Nat) : okC6 (setc C c (C c).dropLast) := okC6_set h ⟨by rw [List.length_dropLast]; have := (h c).1; omega, fun v hv => (h c).2 v (List.dropLast_subset _ hv)⟩
theorem srv_ok : ∀ (k : Nat) {C : Col} {h w : Nat}, okC6 C → h ≤ 18 → w ≤ 9 → okC6 (srv k C h w).1 ∧ (srv k C h w).2 ≤ 18
  | 0, C, h, w, hC, hh, _ => ⟨hC, hh⟩
  | k + 1, C, h, w, hC, hh, hw => by
    unfold srv
    split
    · have := (grt_le hC 6).1
      exact srv_ok k (okC6_drop hC _) (by omega) hw
    · exact ⟨hC, hh⟩
theorem ord_ok {ow oq : Nat → Nat} {w : Nat} (hq : ∀ i, oq i ≤ 9) : ∀ (n : Nat) {s : Sta}, okC6 s.1 → (∀ i, s.2 i ≤ 18) → okC6 (ord ow oq w n s).1 ∧ ∀ i, (ord ow oq w n s).2 i ≤ 18
  | 0, s, h, h2 => ⟨h, h2⟩
  | n + 1, s, h, h2 => by
    have ih := ord_ok (ow := ow) (w := w) hq n h h2
    unfold ord
    split
    · have := srv_ok 36 (h := 0) ih.1 (by omega) (hq n)
      refine ⟨this.1, fun i => ?_⟩
      dsimp only
      split
      · exact this.2
      · exact ih.2 i
    · exact ih
theorem mel_len (f : Nat → Nat) (l : List Nat) : ∀ n, (mel f l n).1.length ≤ n
  | 0 => Nat.le_refl 0
  | n + 1 => by
    have ih := mel_len f l n
    unfold mel
    dsimp only
    split
    · rw [List.length_append]; simp; omega
    · omega
theorem mel_mem {f : Nat → Nat} {l : List Nat} (h : ∀ v ∈ l, 1 ≤ v ∧ v ≤ 9) : ∀ n, ∀ v ∈ (mel f l n).1, 1 ≤ v ∧ v ≤ 9
  | 0, v, hv => by simp [mel] at hv
  | n + 1, v, hv => by
    have ih := mel_mem (f := f) h n
    unfold mel at hv
    dsimp only at hv
    split at hv
    · rcases List.mem_append.mp hv with q | q
      · exact ih v q
      · rw [List.mem_singleton] at q
        have := getD_le h n
        omega
    · exact ih v hv
theorem mlC_ok {C : Col} (h : okC6 C) (sw : Nat → Bool) (dr th : Bool) : okC6 (mlC C sw dr th) := fun c => ⟨Nat.le_trans (mel_len _ _ _) (h c).1, mel_mem (h c).2 _⟩
def okI (I : Inp) : Prop := okC6 I.1 ∧ I.2.1 ≤ 12 ∧ (∀ i, I.2.2.1 i ≤ 23) ∧ ∀ i, I.2.2.2.1 i ≤ 9
theorem yr_ok {I : Inp} (h : okI I) : ∀ w, okC6 (yr I w).1 ∧ ∀ i, (yr I w).2 i ≤ 18
  | 0 => ⟨h.1, fun _ => Nat.zero_le _⟩
  | w + 1 => by
    have ih := yr_ok h w
    have h2 := ord_ok (ow := I.2.2.1) (w := w) h.2.2.2 I.2.1 ih.1 ih.2
    exact ⟨mlC_ok h2.1 _ _ _, h2.2⟩
