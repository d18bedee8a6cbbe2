section EFF
variable {p : Program} {l : Launch} {e : Env} {R : Room} {s : State} {m : MethodId} {args : Array Value} {below : List Frame} {meth : Method} {c0 : Code} {H : Heap} {locs : List Loc} {Q : State → Prop} {D : va_G} {ty : ClassId × ClassId} {ad : Nat → Nat} {A : Nat → Prop} {y : Nat}
/-- where a method's run stands: machine, code, tables, room -/
def Cx (p : Program) (R : Room) (s : State) (m : MethodId) (args : Array Value) (c0 : Code) (D : va_G) (ty : ClassId × ClassId) (ad : Nat → Nat) (A : Nat → Prop) (y : Nat) : Prop :=
  p.tables.exec = Jvm.exec ∧ c0.code = mb y ∧ c0.maxLocals = mL y ∧ s.vm.findClass (rn (mc y)) = some m.cls ∧ (∀ w ∈ TG, w.before args s = true) ∧ va_K D cls_ (tyL ty) s ∧ (∀ q ∈ nuL, va_Nw (nuC q) s) ∧ (mf y ≤ R.frames ∧ mo y ≤ R.locals) ∧ Apt A ad
theorem gI_inv {v : Option Value} {K : Int32 → Option St3} {q : St3} (h : gI v K = some q) : ∃ x, v = some (.int x) ∧ K x = some q := by
  unfold gI at h; split at h
  · exact ⟨_, rfl, h⟩
  · cases h
theorem gL_inv {v : Option Value} {K : Int64 → Option St3} {q : St3} (h : gL v K = some q) : ∃ x, v = some (.long x) ∧ K x = some q := by
  unfold gL at h; split at h
  · exact ⟨_, rfl, h⟩
  · cases h
theorem gR_inv {v : Option Value} {K : Nat → Option St3} {q : St3} (h : gR v K = some q) : ∃ x, v = some (.ref x) ∧ K x = some q := by
  unfold gR at h; split at h
  · exact ⟨_, rfl, h⟩
  · cases h
theorem s1_inv {S : List Value} {K : Int32 → List Value → Option St3} {q : St3} (h : s1 S K = some q) : ∃ x S0, S = .int x :: S0 ∧ K x S0 = some q := by
  unfold s1 at h; split at h
  · exact ⟨_, _, rfl, h⟩
  · cases h
theorem s2_inv {S : List Value} {K : Int32 → Int32 → List Value → Option St3} {q : St3} (h : s2 S K = some q) : ∃ x v S0, S = .int v :: .int x :: S0 ∧ K x v S0 = some q := by
  unfold s2 at h; split at h
  · exact ⟨_, _, _, rfl, h⟩
  · cases h
theorem s1L_inv {S : List Value} {K : Int64 → List Value → Option St3} {q : St3} (h : s1L S K = some q) : ∃ x S0, S = .long x :: S0 ∧ K x S0 = some q := by
  unfold s1L at h; split at h
  · exact ⟨_, _, rfl, h⟩
  · cases h
theorem s2L_inv {S : List Value} {K : Int64 → Int64 → List Value → Option St3} {q : St3} (h : s2L S K = some q) : ∃ x v S0, S = .long v :: .long x :: S0 ∧ K x v S0 = some q := by
  unfold s2L at h; split at h
  · exact ⟨_, _, _, rfl, h⟩
  · cases h
theorem mm2_inv {S : List Value} {K : Int32 → Int32 → List Value → Option St3} {q : St3} (h : mm2 S K = some q) : ∃ x v S0, S = .int v :: .int x :: S0 ∧ S0.length ≤ 4 ∧ K x v S0 = some q := by
  unfold mm2 at h; split at h
  · split at h
    · exact ⟨_, _, _, rfl, by assumption, h⟩
    · cases h
  · cases h
theorem cat_le (ad : Nat → Nat) {S : List Value} (h : S.length ≤ 4) : ((S.map (conc ad)).map fun v => v.category).sum ≤ 8 := by
  have g : ∀ S : List Value, ((S.map (conc ad)).map fun v => v.category).sum ≤ 2 * S.length := by
    intro S
    induction S with
    | nil => simp
    | cons v S ih =>
      simp only [List.map_cons, List.sum_cons, List.length_cons]
      rcases lv_cat (conc ad v) with q | q <;> omega
  have := g S
  omega
theorem any_mem {α : Type} [DecidableEq α] {L : List (Nat × α)} {x : α} (h : L.any (fun q => decide (q.2 = x)) = true) : ∃ h0, (h0, x) ∈ L := by
  obtain ⟨q, hq, h2⟩ := List.any_eq_true.mp h
  rw [decide_eq_true_eq] at h2
  obtain ⟨q1, q2⟩ := q
  cases h2
  exact ⟨q1, hq⟩
theorem fu_in {own i a b : Nat} (h : fuL.any (fun q => decide (q.2 = (own, i, a, b))) = true) : Jvm.Cond.fieldLink (rn own) i (rn a) (tT a b).2.1 (tT a b).2.2.1 ∈ TG := by
  obtain ⟨h0, hq⟩ := any_mem h
  exact tg_at (List.all_eq_true.mp fu_chk _ hq)
theorem mu_in {own i z : Nat} (h : muL.any (fun q => decide (q.2 = (own, i, z))) = true) : Jvm.Cond.methodLink (rn own) i (my z) ∈ TG := by
  obtain ⟨h0, hq⟩ := any_mem h
  exact tg_at (List.all_eq_true.mp mu_chk _ hq)
theorem ac_in {own i : Nat} (h : acL.any (fun q => decide (q.2 = (own, i))) = true) : Jvm.Cond.methodLink (rn own) i arraycopyName ∈ TG := by
  obtain ⟨h0, hq⟩ := any_mem h
  exact tg_at (List.all_eq_true.mp ac_chk _ hq)
theorem min_in {own i : Nat} (h : minL.any (fun q => decide (q.2 = (own, i))) = true) : Jvm.Cond.methodLink (rn own) i Lib.Math.min.name ∈ TG := by
  obtain ⟨h0, hq⟩ := any_mem h
  exact tg_at (List.all_eq_true.mp min_chk _ hq)
theorem max_in {own i : Nat} (h : maxL.any (fun q => decide (q.2 = (own, i))) = true) : Jvm.Cond.methodLink (rn own) i Lib.Math.max.name ∈ TG := by
  obtain ⟨h0, hq⟩ := any_mem h
  exact tg_at (List.all_eq_true.mp max_chk _ hq)
theorem cu_in {own i a b : Nat} (h : cuL.any (fun q => decide (q.2 = (own, i, a, b))) = true) : Jvm.Cond.constant (rn own) i (cI a b) ∈ TG := by
  obtain ⟨h0, hq⟩ := any_mem h
  exact tg_at (List.all_eq_true.mp cu_chk _ hq)
theorem cl_in {own i a b : Nat} (h : clL.any (fun q => decide (q.2 = (own, i, a, b))) = true) : Jvm.Cond.constantLong (rn own) i (cL a b) ∈ TG := by
  obtain ⟨h0, hq⟩ := any_mem h
  exact tg_at (List.all_eq_true.mp cl_chk _ hq)
theorem dcT {a b : Nat} (ha : a < 12) (hb : b < nF a) : (tT a b).1 = rn a := by
  have h := List.all_eq_true.mp (List.all_eq_true.mp dcT_ok a (List.mem_range.mpr ha)) b (List.mem_range.mpr hb)
  exact of_decide_eq_true h
theorem okD_at {y pc : Nat} {o : Op} (h : okD y pc o = true) : ∃ n, decode (mb y) pc = .ok (o.1, n) ∧ (isTS o.1 = true ∨ n = ilen o.1) := by
  unfold okD at h
  split at h
  · rename_i q hq
    simp only [Bool.and_eq_true, Bool.or_eq_true, decide_eq_true_eq] at h
    obtain ⟨q1, q2⟩ := q
    obtain ⟨rfl, h2⟩ := h
    exact ⟨q2, hq, h2⟩
  · cases h
theorem ilen_at {y pc : Nat} {o : Op} (h : okD y pc o = true) (ht : isTS o.1 = false) : decode (mb y) pc = .ok (o.1, ilen o.1) := by
  obtain ⟨n, h1, h2⟩ := okD_at h
  rw [ht] at h2
  rcases h2 with h2 | h2
  · cases h2
  · rw [h1, h2]
set_option maxHeartbeats 4000000 in
theorem eff_sound {pc : Nat} {o : Op} {L L' : Lo} {S S' : List Value} {M M' : Mem} {ls : Array Slot} (C : Cx p R s m args c0 D ty ad A y) (hd : okD y pc o = true) (hX : okX y pc o = true) (he : eff o L S M = some (L', S', M')) (hl : lvh ad ls (mL y) L) (hP : va_P D cls_ (wsM ty ad M) H) (hS : va_S A s.heap H locs)
    (kk : ∀ (ls' : Array Slot) (H' : Heap) (locs' : List Loc), lvh ad ls' (mL y) L' → va_P D cls_ (wsM ty ad M') H' → va_S A s.heap H' locs' → W p l e R s m args below meth c0 H' locs' 0 0 Q (F0 m (pc + ilen o.1) ls' (S'.map (conc ad)))) :
    W p l e R s m args below meth c0 H locs 0 0 Q (F0 m pc ls (S.map (conc ad))) := by
  obtain ⟨hx, hb, hml, hown, hts, hK, hN, hR, hA⟩ := C
  have hD := hA.D ty M
  obtain ⟨i, a, b, c⟩ := o
  cases i with
  | iconst k =>
    have hdg := ilen_at hd rfl
    cases he
    exact lv_iconst hx hb hdg (of_decide_eq_true hX) (kk _ _ _ hl hP hS)
  | bipush k =>
    have hdg := ilen_at hd rfl
    cases he
    exact lv_bipush hx hb hdg (of_decide_eq_true hX) (kk _ _ _ hl hP hS)
  | sipush k =>
    have hdg := ilen_at hd rfl
    cases he
    exact lv_sipush hx hb hdg (of_decide_eq_true hX) (kk _ _ _ hl hP hS)
  | lconst k =>
    have hdg := ilen_at hd rfl
    cases he
    exact lv_lconst hx hb hdg (of_decide_eq_true hX) (kk _ _ _ hl hP hS)
  | ldc k =>
    have hdg := ilen_at hd rfl
    cases he
    exact lv_ldc hx hb hown (hts _ (cu_in hX)) hdg (kk _ _ _ hl hP hS)
  | ldc_w k =>
    have hdg := ilen_at hd rfl
    cases he
    exact lv_ldcw hx hb hown (hts _ (cu_in hX)) hdg (kk _ _ _ hl hP hS)
  | ldc2_w k =>
    have hdg := ilen_at hd rfl
    cases he
    exact lv_ldc2 hx hb hown (hts _ (cl_in hX)) hdg (kk _ _ _ hl hP hS)
  | iload k =>
    have hdg := ilen_at hd rfl
    obtain ⟨x, h1, h2⟩ := gI_inv he
    cases h2
    have e1 : k = a := of_decide_eq_true hX
    subst e1
    exact lv_iload hx hb hdg (hl.2.2.2 _ _ h1) (kk _ _ _ hl hP hS)
  | iload_n k =>
    have hdg := ilen_at hd rfl
    obtain ⟨x, h1, h2⟩ := gI_inv he
    cases h2
    have e1 : k.val = a := of_decide_eq_true hX
    exact lv_iload_n hx hb hdg e1 (hl.2.2.2 _ _ h1) (kk _ _ _ hl hP hS)
  | lload k =>
    have hdg := ilen_at hd rfl
    obtain ⟨x, h1, h2⟩ := gL_inv he
    cases h2
    have e1 : k = a := of_decide_eq_true hX
    subst e1
    exact lv_lload hx hb hdg (hl.2.2.2 _ _ h1) (kk _ _ _ hl hP hS)
  | lload_n k =>
    have hdg := ilen_at hd rfl
    obtain ⟨x, h1, h2⟩ := gL_inv he
    cases h2
    have e1 : k.val = a := of_decide_eq_true hX
    exact lv_lload_n hx hb hdg e1 (hl.2.2.2 _ _ h1) (kk _ _ _ hl hP hS)
  | aload k =>
    have hdg := ilen_at hd rfl
    obtain ⟨x, h1, h2⟩ := gR_inv he
    cases h2
    have e1 : k = a := of_decide_eq_true hX
    subst e1
    exact lv_aload hx hb hdg (hl.2.2.2 _ _ h1) (kk _ _ _ hl hP hS)
  | aload_n k =>
    have hdg := ilen_at hd rfl
    obtain ⟨x, h1, h2⟩ := gR_inv he
    cases h2
    have e1 : k.val = a := of_decide_eq_true hX
    exact lv_aload_n hx hb hdg e1 (hl.2.2.2 _ _ h1) (kk _ _ _ hl hP hS)
  | istore k =>
    have hdg := ilen_at hd rfl
    obtain ⟨x, S0, rfl, h2⟩ := s1_inv he
    cases h2
    simp only [okX, Bool.and_eq_true, decide_eq_true_eq] at hX
    obtain ⟨e1, hi⟩ := hX
    subst e1
    exact lv_istore hx hb hdg hl.has hi rfl (fun ls' h' => kk _ _ _ (hl.st1 (v := .int x) hi h') hP hS)
  | istore_n k =>
    have hdg := ilen_at hd rfl
    obtain ⟨x, S0, rfl, h2⟩ := s1_inv he
    cases h2
    simp only [okX, Bool.and_eq_true, decide_eq_true_eq] at hX
    obtain ⟨e1, hi⟩ := hX
    exact lv_istore_n hx hb hdg e1 hl.has hi rfl (fun ls' h' => kk _ _ _ (hl.st1 (v := .int x) hi h') hP hS)
  | lstore k =>
    have hdg := ilen_at hd rfl
    obtain ⟨x, S0, rfl, h2⟩ := s1L_inv he
    cases h2
    simp only [okX, Bool.and_eq_true, decide_eq_true_eq] at hX
    obtain ⟨e1, hi⟩ := hX
    subst e1
    exact lv_lstore hx hb hdg hl.has hi rfl (fun ls' h' => kk _ _ _ (hl.st2 (v := .long x) hi h') hP hS)
  | lstore_n k =>
    have hdg := ilen_at hd rfl
    obtain ⟨x, S0, rfl, h2⟩ := s1L_inv he
    cases h2
    simp only [okX, Bool.and_eq_true, decide_eq_true_eq] at hX
    obtain ⟨e1, hi⟩ := hX
    exact lv_lstore_n hx hb hdg e1 hl.has hi rfl (fun ls' h' => kk _ _ _ (hl.st2 (v := .long x) hi h') hP hS)
  | astore k =>
    have hdg := ilen_at hd rfl
    dsimp only [eff] at he
    split at he
    · cases he
      simp only [okX, Bool.and_eq_true, decide_eq_true_eq] at hX
      obtain ⟨e1, hi⟩ := hX
      subst e1
      exact lv_astore hx hb hdg hl.has hi rfl (fun ls' h' => kk _ _ _ (hl.st1 (v := .ref _) hi h') hP hS)
    · cases he
  | astore_n k =>
    have hdg := ilen_at hd rfl
    dsimp only [eff] at he
    split at he
    · cases he
      simp only [okX, Bool.and_eq_true, decide_eq_true_eq] at hX
      obtain ⟨e1, hi⟩ := hX
      exact lv_astore_n hx hb hdg e1 hl.has hi rfl (fun ls' h' => kk _ _ _ (hl.st1 (v := .ref _) hi h') hP hS)
    · cases he
  | iinc k n =>
    have hdg := ilen_at hd rfl
    obtain ⟨x, h1, h2⟩ := gI_inv he
    cases h2
    simp only [okX, Bool.and_eq_true, decide_eq_true_eq] at hX
    obtain ⟨⟨e1, hi⟩, e2⟩ := hX
    subst e1
    obtain ⟨kx, hkx⟩ := List.getElem?_of_mem (prs_in (ad := ad) h1)
    exact lv_iinc hx hb hdg hl.has hkx (by rw [e2]) hi rfl (fun ls' h' => kk _ _ _ (hl.st1 (v := .int _) hi h') hP hS)
  | iadd =>
    have hdg := ilen_at hd rfl
    obtain ⟨x, v, S0, rfl, h2⟩ := s2_inv he
    cases h2
    exact lv_iadd hx hb hdg (kk _ _ _ hl hP hS)
  | isub =>
    have hdg := ilen_at hd rfl
    obtain ⟨x, v, S0, rfl, h2⟩ := s2_inv he
    cases h2
    exact lv_isub hx hb hdg (kk _ _ _ hl hP hS)
  | imul =>
    have hdg := ilen_at hd rfl
    obtain ⟨x, v, S0, rfl, h2⟩ := s2_inv he
    cases h2
    exact lv_imul hx hb hdg (kk _ _ _ hl hP hS)
  | iand =>
    have hdg := ilen_at hd rfl
    obtain ⟨x, v, S0, rfl, h2⟩ := s2_inv he
    cases h2
    exact lv_iand hx hb hdg (kk _ _ _ hl hP hS)
  | ior =>
    have hdg := ilen_at hd rfl
    obtain ⟨x, v, S0, rfl, h2⟩ := s2_inv he
    cases h2
    exact lv_ior hx hb hdg (kk _ _ _ hl hP hS)
  | ixor =>
    have hdg := ilen_at hd rfl
    obtain ⟨x, v, S0, rfl, h2⟩ := s2_inv he
    cases h2
    exact lv_ixor hx hb hdg (kk _ _ _ hl hP hS)
  | ishl =>
    have hdg := ilen_at hd rfl
    obtain ⟨x, v, S0, rfl, h2⟩ := s2_inv he
    cases h2
    exact lv_ishl hx hb hdg (kk _ _ _ hl hP hS)
  | ishr =>
    have hdg := ilen_at hd rfl
    obtain ⟨x, v, S0, rfl, h2⟩ := s2_inv he
    cases h2
    exact lv_ishr hx hb hdg (kk _ _ _ hl hP hS)
  | iushr =>
    have hdg := ilen_at hd rfl
    obtain ⟨x, v, S0, rfl, h2⟩ := s2_inv he
    cases h2
    exact lv_iushr hx hb hdg rfl (kk _ _ _ hl hP hS)
  | idiv =>
    have hdg := ilen_at hd rfl
    obtain ⟨x, v, S0, rfl, h2⟩ := s2_inv he
    split at h2
    · cases h2
    · rename_i hne
      cases h2
      exact lv_idiv hx hb hdg hne (kk _ _ _ hl hP hS)
  | irem =>
    have hdg := ilen_at hd rfl
    obtain ⟨x, v, S0, rfl, h2⟩ := s2_inv he
    split at h2
    · cases h2
    · rename_i hne
      cases h2
      exact lv_irem hx hb hdg hne (kk _ _ _ hl hP hS)
  | ladd =>
    have hdg := ilen_at hd rfl
    obtain ⟨x, v, S0, rfl, h2⟩ := s2L_inv he
    cases h2
    exact lv_ladd hx hb hdg (kk _ _ _ hl hP hS)
  | lsub =>
    have hdg := ilen_at hd rfl
    obtain ⟨x, v, S0, rfl, h2⟩ := s2L_inv he
    cases h2
    exact lv_lsub hx hb hdg (kk _ _ _ hl hP hS)
  | lmul =>
    have hdg := ilen_at hd rfl
    obtain ⟨x, v, S0, rfl, h2⟩ := s2L_inv he
    cases h2
    exact lv_lmul hx hb hdg (kk _ _ _ hl hP hS)
  | ldiv =>
    have hdg := ilen_at hd rfl
    obtain ⟨x, v, S0, rfl, h2⟩ := s2L_inv he
    split at h2
    · cases h2
    · rename_i hne
      cases h2
      exact lv_ldiv hx hb hdg hne (kk _ _ _ hl hP hS)
  | lrem =>
    have hdg := ilen_at hd rfl
    obtain ⟨x, v, S0, rfl, h2⟩ := s2L_inv he
    split at h2
    · cases h2
    · rename_i hne
      cases h2
      exact lv_lrem hx hb hdg hne (kk _ _ _ hl hP hS)
  | lshl =>
    have hdg := ilen_at hd rfl
    dsimp only [eff] at he
    split at he
    · cases he
      exact lv_lshl hx hb hdg rfl (kk _ _ _ hl hP hS)
    · cases he
  | i2l =>
    have hdg := ilen_at hd rfl
    obtain ⟨x, S0, rfl, h2⟩ := s1_inv he
    cases h2
    exact lv_i2l hx hb hdg rfl (kk _ _ _ hl hP hS)
  | i2b =>
    have hdg := ilen_at hd rfl
    obtain ⟨x, S0, rfl, h2⟩ := s1_inv he
    cases h2
    exact lv_i2b hx hb hdg rfl (kk _ _ _ hl hP hS)
  | i2s =>
    have hdg := ilen_at hd rfl
    obtain ⟨x, S0, rfl, h2⟩ := s1_inv he
    cases h2
    exact lv_i2s hx hb hdg rfl (kk _ _ _ hl hP hS)
  | lcmp =>
    have hdg := ilen_at hd rfl
    obtain ⟨x, v, S0, rfl, h2⟩ := s2L_inv he
    cases h2
    exact W.lcmp hx hb hdg (kk _ _ _ hl hP hS)
  | dup =>
    have hdg := ilen_at hd rfl
    dsimp only [eff] at he
    split at he
    · cases he
      exact lv_dup hx hb hdg rfl (kk _ _ _ hl hP hS)
    · cases he
      exact lv_dup hx hb hdg rfl (kk _ _ _ hl hP hS)
    · cases he
  | dup2 =>
    have hdg := ilen_at hd rfl
    dsimp only [eff] at he
    split at he
    · cases he
      exact lv_dup2_11 hx hb hdg rfl rfl (kk _ _ _ hl hP hS)
    · cases he
      exact lv_dup2_11 hx hb hdg rfl rfl (kk _ _ _ hl hP hS)
    · cases he
      exact lv_dup2_2 hx hb hdg rfl (kk _ _ _ hl hP hS)
    · cases he
  | pop =>
    have hdg := ilen_at hd rfl
    obtain ⟨x, S0, rfl, h2⟩ := s1_inv he
    cases h2
    exact lv_pop hx hb hdg rfl (kk _ _ _ hl hP hS)
  | getfield k =>
    have hdg := ilen_at hd rfl
    dsimp only [eff] at he
    split at he
    · split at he
      · rename_i u S0 _ f hf
        cases he
        obtain ⟨fs, h1, h2⟩ := fld_sh hf
        obtain ⟨ha, hlen, -, -⟩ := okK_at h1
        have hbn : b < nF a := by rw [← hlen]; exact (List.getElem?_eq_some_iff.mp h2).1
        refine va_get (D := D) (C := rn a) (T := tT a) (N := nF a) (ref := rn a) hx hb hts (layT a ha) hown hK hP u ((wsM_at (sh_lt h1)).trans (by rw [obj_cE h1])) (clsT a ha) b hbn (hts _ (fu_in hX)) (fun _ h9 => by rw [dcT ha hbn] at h9; exact h9) (v := conc ad (fval M u f)) (by rw [List.getElem?_map, h2]; rfl) hdg (kk _ _ _ hl hP hS)
      · cases he
    · cases he
  | putfield k =>
    have hdg := ilen_at hd rfl
    dsimp only [eff] at he
    split at he
    · split at he
      · split at he
        · rename_i v u S0 _ f hf _ M1 hM1
          cases he
          obtain ⟨fs, h1, h2⟩ := fld_sh hf
          obtain ⟨ha, hlen, -, -⟩ := okK_at h1
          have hbl : b < fs.length := (List.getElem?_eq_some_iff.mp h2).1
          have hbn : b < nF a := by rw [← hlen]; exact hbl
          simp only [okX, Bool.and_eq_true, decide_eq_true_eq] at hX
          obtain ⟨g1, g2, g3, g4⟩ := fput_cE (ty := ty) (ad := ad) h1 h2 hM1
          refine va_put (D := D) (C := rn a) (T := tT a) (N := nF a) (ref := rn a) hx hb hts (layT a ha) (tyT a) (tyT_ok a ha) (nmT_ok a ha) hown hK hP hD hS u ((wsM_at (sh_lt h1)).trans (by rw [obj_cE h1])) (clsT a ha) b hbn (hts _ (fu_in hX.1)) (fun _ h9 => by rw [dcT ha hbn] at h9; exact h9) hX.2 (tyT_ok a ha b hbn) g3 g4 (by rw [List.length_map]; exact hbl) hdg (fun H1 locs1 hP1 hD1 hS1 => ?_)
          rw [wsM_set (sh_lt h1) g1 g2] at hP1
          exact kk _ _ _ hl hP1 hS1
        · cases he
      · cases he
    · cases he
  | iaload =>
    have hdg := ilen_at hd rfl
    dsimp only [eff] at he
    split at he
    · split at he
      · split at he
        · cases he
        · rename_i i u S0 _ n hn hin
          cases he
          exact va_iald hx hb hK hP u 0 ((wsM_at (sh_lt (alen_sh hn))).trans (by rw [alen_cE hn])) rfl hin hdg (kk _ _ _ hl hP hS)
      · cases he
    · cases he
  | iastore =>
    have hdg := ilen_at hd rfl
    dsimp only [eff] at he
    split at he
    · split at he
      · split at he
        · cases he
        · rename_i x i u S0 _ n hn hin
          cases he
          refine va_iast hx hb hK hP hD hS u 0 ((wsM_at (sh_lt (alen_sh hn))).trans (by rw [alen_cE hn])) rfl hin hdg (fun H1 locs1 hP1 hD1 hS1 => ?_)
          rw [wsM_set (M' := stM M u i.toNatClampNeg x) (sh_lt (alen_sh hn)) (by rw [alen_cE hn]; simp [stM, setC]) (fun c' hc => by simp [stM, setC, hc])] at hP1
          exact kk _ _ _ hl hP1 hS1
      · cases he
    · cases he
  | aaload =>
    have hdg := ilen_at hd rfl
    dsimp only [eff] at he
    split at he
    · split at he
      · cases he
      · rename_i i u S0 hin
        cases he
        have hin : vp_in i (rarr u).length := hin
        have hlt : i.toNatClampNeg < (rarr u).length := Nat.not_le.mp fun q => hin (Or.inr q)
        have h1 : ∃ cs, sh u = some (.inr (.inl cs)) ∧ rarr u = cs := by
          unfold rarr at hlt ⊢
          split at hlt
          · rename_i cs hcs; exact ⟨cs, hcs, rfl⟩
          · simp at hlt
        obtain ⟨cs, h1, h2⟩ := h1
        rw [h2] at hin hlt kk
        refine va_aldq hx hb hK hP u 1 ((wsM_at (sh_lt h1)).trans (by unfold cE; rw [h1])) rfl hin hdg ?_
        have e9 : va_rf ((cs[i.toNatClampNeg]?).map ad) = conc ad (.ref (cs.getD i.toNatClampNeg 0)) := by
          rw [List.getElem?_eq_getElem hlt, List.getD_eq_getElem?_getD, List.getElem?_eq_getElem hlt]
          rfl
        rw [e9]
        exact kk _ _ _ hl hP hS
    · cases he
  | arraylength =>
    have hdg := ilen_at hd rfl
    dsimp only [eff] at he
    split at he
    · split at he
      · rename_i u S0 _ n hn
        cases he
        exact va_alen hx hb hK hP u 0 (x := (n, .inl (M u))) (v := nI n) ((wsM_at (sh_lt (alen_sh hn))).trans (by rw [alen_cE hn])) rfl rfl hdg (kk _ _ _ hl hP hS)
      · cases he
    · cases he
  | invokestatic k =>
    have hdg := ilen_at hd rfl
    dsimp only [eff] at he
    by_cases h9 : a = 999
    · rw [if_pos h9] at he
      subst h9
      simp only [okX, if_true, okN, Bool.and_eq_true, decide_eq_true_eq] at hX
      unfold acp at he
      split at he
      · split at he
        · split at he
          · rename_i n dp cd sp cs S0 _ _ n0 n1 h0 h1 hc
            cases he
            obtain ⟨q1, q2, q3, q4, q5, q6⟩ := hc
            have hcat := cat_le ad q6
            have hw : nativeFrameWords "java/lang/System" "arraycopy" 5 + 11 ≤ 52 := by decide +kernel
            refine va_copyi hx hb (hml.trans hl.1.symm) hown (hts _ (ac_in hX.2)) (hts _ ac_nat) (hts _ ac_sta) (hts _ ac_ini) hK hP hD hS cs cd 0 0 (ty := .int) ((wsM_at (sh_lt (alen_sh h0))).trans (by rw [alen_cE h0])) ((wsM_at (sh_lt (alen_sh h1))).trans (by rw [alen_cE h1])) rfl rfl rfl q1 q2 q3 q4 q5 (fun _ _ => rfl) (by omega) (by omega) hdg (fun H1 locs1 hP1 hD1 hS1 => ?_)
            rw [wsM_set (M' := cpyM M cs cd sp.toNatClampNeg dp.toNatClampNeg n.toNatClampNeg) (sh_lt (alen_sh h1)) (by rw [alen_cE h1]; simp [cpyM, setC]) (fun c' hc => by simp [cpyM, setC, hc])] at hP1
            exact kk _ _ _ hl hP1 hS1
          · cases he
        · cases he
      · cases he
    · rw [if_neg h9] at he
      by_cases h8 : a = 998
      · rw [if_pos h8] at he
        subst h8
        simp only [okX, if_neg h9, if_true, okN, Bool.and_eq_true, decide_eq_true_eq] at hX
        obtain ⟨x, v, S0, rfl, h3, h2⟩ := mm2_inv he
        cases h2
        have hcat := cat_le ad h3
        exact va_mmin hx hb (hml.trans hl.1.symm) hown (hts _ (min_in hX.2)) (hts _ min_sta) (hts _ mat_ini) (hts _ min_cod) (by omega) (by omega) (Nat.zero_le _) (Nat.zero_le _) hdg (kk _ _ _ hl hP hS)
      · rw [if_neg h8] at he
        by_cases h7 : a = 997
        · rw [if_pos h7] at he
          subst h7
          simp only [okX, if_neg h9, if_neg h8, if_true, okN, Bool.and_eq_true, decide_eq_true_eq] at hX
          obtain ⟨x, v, S0, rfl, h3, h2⟩ := mm2_inv he
          cases h2
          have hcat := cat_le ad h3
          exact va_mmax hx hb (hml.trans hl.1.symm) hown (hts _ (max_in hX.2)) (hts _ max_sta) (hts _ mat_ini) (hts _ max_cod) (by omega) (by omega) (Nat.zero_le _) (Nat.zero_le _) hdg (kk _ _ _ hl hP hS)
        · rw [if_neg h7] at he
          cases he
  | _ => cases he
end EFF
