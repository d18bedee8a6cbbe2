/-! NUMBERS AND MEMORY for the pure part -/
theorem q_lt {a b : Nat} (ha : a < 2 ^ 31) (hb : b < 2 ^ 31) : (nI a < nI b) = (a < b) := propext (nI_ltI ha hb)
theorem q_le {a b : Nat} (ha : a < 2 ^ 31) (hb : b < 2 ^ 31) : (nI a ≤ nI b) = (a ≤ b) := propext (nI_leI ha hb)
theorem q_eq {a b : Nat} (ha : a < 2 ^ 31) (hb : b < 2 ^ 31) : (nI a = nI b) = (a = b) := propext (nI_eq ha hb)
theorem q_in {a n : Nat} (ha : a < 2 ^ 31) (hn : n < 2 ^ 31) : vp_in (nI a) n = (a < n) := propext (by rw [vp_in_iff, nI_toInt ha]; omega)
theorem q_cl {a : Nat} (ha : a < 2 ^ 31) : (nI a).toNatClampNeg = a := nI_clamp ha
theorem q_add (a b : Nat) : nI a + nI b = nI (a + b) := nI_add a b
theorem q_mul (a b : Nat) : nI a * nI b = nI (a * b) := pk_mul a b
theorem q_sub {a b : Nat} (h : b ≤ a) : nI a - nI b = nI (a - b) := pk_sub h
theorem mI_toInt {a : Nat} (ha : a ≤ 2 ^ 31) : (mI a).toInt = -(a : Int) := by
  unfold mI
  rw [Int32.toInt_ofInt, show (Int32.size : Nat) = 4294967296 from rfl]
  rw [Int.bmod_eq_of_le (by omega) (by omega)]
theorem q_dec {a : Nat} : nI (a + 1) + mI 1 = nI a := pk_m1 a
theorem q_dec' {a : Nat} (h : 0 < a) : nI a + mI 1 = nI (a - 1) := by
  obtain ⟨k, rfl⟩ : ∃ k, a = k + 1 := ⟨a - 1, by omega⟩
  exact pk_m1 k
theorem q_mm {a b : Nat} (ha : a ≤ 2 ^ 31) (hb : b ≤ 2 ^ 31) : (mI a = mI b) = (a = b) := propext (by
  rw [← Int32.toInt_inj, mI_toInt ha, mI_toInt hb]; omega)
theorem q_nm {a b : Nat} (ha : a < 2 ^ 31) (h0 : 0 < b) (hb : b ≤ 2 ^ 31) : (nI a = mI b) = False := propext ⟨fun h => by
  have := congrArg Int32.toInt h
  rw [nI_toInt ha, mI_toInt hb] at this; omega, False.elim⟩
theorem q_mn {a b : Nat} (ha : a < 2 ^ 31) (h0 : 0 < b) (hb : b ≤ 2 ^ 31) : (mI b = nI a) = False := propext ⟨fun h => by
  have := congrArg Int32.toInt h
  rw [nI_toInt ha, mI_toInt hb] at this; omega, False.elim⟩
theorem q_mlt {a b : Nat} (ha : a < 2 ^ 31) (h0 : 0 < b) (hb : b ≤ 2 ^ 31) : (mI b < nI a) = True := propext ⟨fun _ => trivial, fun _ => by
  rw [Int32.lt_iff_toInt_lt, nI_toInt ha, mI_toInt hb]; omega⟩
theorem q_mle {a b : Nat} (ha : a < 2 ^ 31) (h0 : 0 < b) (hb : b ≤ 2 ^ 31) : (mI b ≤ nI a) = True := propext ⟨fun _ => trivial, fun _ => by
  rw [Int32.le_iff_toInt_le, nI_toInt ha, mI_toInt hb]; omega⟩
theorem q_nlt {a b : Nat} (ha : a < 2 ^ 31) (h0 : 0 < b) (hb : b ≤ 2 ^ 31) : (nI a < mI b) = False := propext ⟨fun h => by
  rw [Int32.lt_iff_toInt_lt, nI_toInt ha, mI_toInt hb] at h; omega, False.elim⟩
theorem q_nle {a b : Nat} (ha : a < 2 ^ 31) (h0 : 0 < b) (hb : b ≤ 2 ^ 31) : (nI a ≤ mI b) = False := propext ⟨fun h => by
  rw [Int32.le_iff_toInt_le, nI_toInt ha, mI_toInt hb] at h; omega, False.elim⟩
theorem q_mmlt {a b : Nat} (ha : a ≤ 2 ^ 31) (hb : b ≤ 2 ^ 31) : (mI a < mI b) = (b < a) := propext (by rw [Int32.lt_iff_toInt_lt, mI_toInt ha, mI_toInt hb]; omega)
theorem q_mmle {a b : Nat} (ha : a ≤ 2 ^ 31) (hb : b ≤ 2 ^ 31) : (mI a ≤ mI b) = (b ≤ a) := propext (by rw [Int32.le_iff_toInt_le, mI_toInt ha, mI_toInt hb]; omega)
/-- any int: a small natural number, or outside -/
theorem i_cases (x : Int32) (n : Nat) (hn : n < 2 ^ 31) : (x < nI 0 ∨ nI n < x) ∨ ∃ j, j ≤ n ∧ x = nI j := by
  by_cases h : x < nI 0
  · exact Or.inl (Or.inl h)
  · obtain ⟨j, hj, rfl⟩ := nI_of (x := x) (by rw [nI_0] at h; exact h)
    by_cases h2 : j ≤ n
    · exact Or.inr ⟨j, h2, rfl⟩
    · exact Or.inl (Or.inr (by rw [q_lt hn hj]; omega))
theorem nlt_le {x y : Int32} : (¬ x < y) = (y ≤ x) := propext Int32.not_lt
theorem nle_lt {x y : Int32} : (¬ x ≤ y) = (y < x) := propext Int32.not_le
theorem u_eq {f : Nat → Int32} {k : Nat} {x : Int32} : upd f k x k = x := by simp [upd]
theorem u_ne {f : Nat → Int32} {k j : Nat} {x : Int32} (h : ¬ j = k) : upd f k x j = f j := by simp [upd, h]
theorem u_if {f : Nat → Int32} {k j : Nat} {x : Int32} : upd f k x j = if j = k then x else f j := rfl
theorem msc_eq {M : Mem} {c : Nat} {f : Nat → Int32} : setC M c f c = f := by simp [setC]
theorem msc_ne {M : Mem} {c d : Nat} {f : Nat → Int32} (h : ¬ d = c) : setC M c f d = M d := by simp [setC, h]
theorem msc_if {M : Mem} {c d : Nat} {f : Nat → Int32} : setC M c f d = if d = c then f else M d := rfl
theorem msc_sc {M : Mem} {c : Nat} {f g : Nat → Int32} : setC (setC M c f) c g = setC M c g := by
  funext d
  by_cases h : d = c
  · simp [setC, h]
  · simp [setC, h]
theorem msc_id {M : Mem} {c : Nat} : setC M c (M c) = M := by
  funext d
  by_cases h : d = c
  · simp [setC, h]
  · simp [setC, h]
theorem sm_eq {M : Mem} {c i : Nat} {x : Int32} : stM M c i x c = upd (M c) i x := by simp [stM, setC]
theorem sm_ne {M : Mem} {c d i : Nat} {x : Int32} (h : ¬ d = c) : stM M c i x d = M d := by simp [stM, setC, h]
theorem sm_if {M : Mem} {c d i : Nat} {x : Int32} : stM M c i x d = if d = c then upd (M c) i x else M d := rfl
theorem cpy_in {α : Type} {f g : Nat → α} {sp dp n k : Nat} (h : dp ≤ k) (h2 : k < dp + n) : va_cpy f g sp dp n k = f (sp + (k - dp)) := by simp [va_cpy, h, h2]
theorem cp_if {M : Mem} {cs cd sp dp n d : Nat} : cpyM M cs cd sp dp n d = if d = cd then va_cpy (M cs) (M cd) sp dp n else M d := rfl
theorem inb_in {c n : Nat} {i : Int32} (h : alen c = some n) : inb c i = vp_in i n := inb_s h
theorem inb_n {c n a : Nat} (h : alen c = some n) (ha : a < 2 ^ 31) (hn : n < 2 ^ 31) : inb c (nI a) = (a < n) := by rw [inb_s h, q_in ha hn]
theorem len0 : ([] : List Value).length = 0 := rfl
theorem len1 {a : Value} : [a].length = 1 := rfl
theorem len2 {a b : Value} : [a, b].length = 2 := rfl
theorem len3 {a b c : Value} : [a, b, c].length = 3 := rfl
theorem len4 {a b c d : Value} : [a, b, c, d].length = 4 := rfl
/-- calls whose outcome is known -/
theorem ct_use {z : Nat} {as : List Value} {M M' : Mem} {r : Option Value} {Q : Option Value → Mem → Prop} (h : Ev z as M r M') (k : Q r M') : Ct z as M Q := by rw [h.ct]; exact k
theorem ev_mono {z : Nat} {as : List Value} {M : Mem} {P : Option Value → Mem → Prop} {Q : Option Value → Mem → Prop} (h : Ct z as M P) (k : ∀ r M', P r M' → Q r M') : Ct z as M Q := h.mono k
