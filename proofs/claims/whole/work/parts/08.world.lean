theorem okL_blk {z : Nat} (h : z < NM) (k : Nat) : okL z (bs z k) (blk z k).1 (blk z k).2 = true := by
  have h1 := okM_in h
  unfold okM at h1
  rw [Bool.and_eq_true, Bool.and_eq_true, decide_eq_true_eq, decide_eq_true_eq] at h1
  obtain ⟨⟨h1, h2⟩, h3⟩ := h1
  by_cases hk : k < (blkT.getD z []).length
  · exact List.all_eq_true.mp h1 k (List.mem_range.mpr hk)
  · have e1 : blk z k = ([], 0) := by
      unfold blk
      rw [List.getD_eq_getElem?_getD, List.getElem?_eq_none (by omega)]
      rfl
    have e2 : bs z k = 0 := by
      unfold bs
      rw [List.getD_eq_getElem?_getD (i := k), List.getElem?_eq_none (by omega)]
      rfl
    rw [e1, e2]
    show decide (0 = bs z 0) = true
    rw [h2]
    rfl
/-! ===== locals ===== -/
theorem lput_len : ∀ (L : Lo) (k : Nat) (v : Option Value), (lput L k v).length = L.length
  | [], _, _ => rfl
  | _ :: _, 0, _ => rfl
  | u :: L, k + 1, v => by show (lput L k v).length + 1 = L.length + 1; rw [lput_len L k v]
theorem lkill_len : ∀ (L : Lo) (k : Nat), (lkill L k).length = L.length
  | [], 0 => rfl
  | [], _ + 1 => rfl
  | _ :: _, 0 => rfl
  | _ :: _, 1 => rfl
  | u :: L, k + 2 => by show (lkill L (k + 1)).length + 1 = L.length + 1; rw [lkill_len L (k + 1)]
theorem lget_lput : ∀ {L : Lo} {k j : Nat} {v : Option Value}, k < L.length → lget (lput L k v) j = if j = k then v else lget L j
  | [], k, j, v, h => by simp at h
  | u :: L, 0, 0, v, h => rfl
  | u :: L, 0, j + 1, v, h => by simp [lput, lget]
  | u :: L, k + 1, 0, v, h => by simp [lput, lget]
  | u :: L, k + 1, j + 1, v, h => by
    have h1 : k < L.length := by simp at h; omega
    simp only [lput, lget, lget_lput h1]
    by_cases hj : j = k
    · simp [hj]
    · simp [hj]
theorem kl_some {u : Option Value} {v : Value} (h : kl u = some v) : u = some v ∧ v.category = 1 := by
  cases u with
  | none => cases h
  | some w => cases w <;> first | (cases h; done) | (cases h; exact ⟨rfl, rfl⟩)
theorem lget_lkill : ∀ {L : Lo} {k j : Nat} {v : Value}, lget (lkill L k) j = some v → lget L j = some v ∧ ¬ (j + 1 = k ∧ v.category = 2)
  | [], 0, j, v, h => by simp [lkill, lget] at h
  | [], k + 1, j, v, h => by simp [lkill, lget] at h
  | u :: L, 0, j, v, h => ⟨h, fun q => by omega⟩
  | u :: L, 1, 0, v, h => by
    obtain ⟨h1, h2⟩ := kl_some (u := u) h
    exact ⟨h1, fun q => by rw [h2] at q; omega⟩
  | u :: L, 1, j + 1, v, h => ⟨h, fun q => by omega⟩
  | u :: L, k + 2, 0, v, h => ⟨h, fun q => by omega⟩
  | u :: L, k + 2, j + 1, v, h => by
    obtain ⟨h1, h2⟩ := lget_lkill (L := L) (k := k + 1) (j := j) h
    exact ⟨h1, fun q => h2 ⟨by omega, q.2⟩⟩
theorem lget_lt : ∀ {L : Lo} {j : Nat} {v : Value}, lget L j = some v → j < L.length
  | [], j, v, h => by cases h
  | u :: L, 0, v, h => Nat.succ_pos _
  | u :: L, j + 1, v, h => Nat.succ_lt_succ (lget_lt (L := L) h)
def conc (ad : Nat → Nat) (v : Value) : Value := match v with
  | .ref c => .ref (ad c)
  | v => v
theorem conc_cat (ad : Nat → Nat) (v : Value) : (conc ad v).category = v.category := by cases v <;> rfl
def lvh (ad : Nat → Nat) (ls : Array Slot) (n : Nat) (L : Lo) : Prop := ls.size = n ∧ lv_wf ls ∧ L.length = n ∧ ∀ k v, lget L k = some v → ls[k]? = some (.val (conc ad v))
def prs (ad : Nat → Nat) (L : Lo) : List (Nat × Value) := (List.range L.length).filterMap (fun k => (lget L k).map (fun v => (k, conc ad v)))
theorem prs_in {ad : Nat → Nat} {L : Lo} {k : Nat} {v : Value} (h : lget L k = some v) : (k, conc ad v) ∈ prs ad L := List.mem_filterMap.mpr ⟨k, List.mem_range.mpr (lget_lt h), by rw [h]; rfl⟩
theorem prs_of {ad : Nat → Nat} {L : Lo} {q : Nat × Value} (h : q ∈ prs ad L) : ∃ v, lget L q.1 = some v ∧ q.2 = conc ad v := by
  obtain ⟨k, -, h2⟩ := List.mem_filterMap.mp h
  cases hv : lget L k with
  | none => rw [hv] at h2; cases h2
  | some v => rw [hv] at h2; cases h2; exact ⟨v, hv, rfl⟩
theorem lvh.has {ad : Nat → Nat} {ls : Array Slot} {n : Nat} {L : Lo} (h : lvh ad ls n L) : lv_has ls n (prs ad L) := ⟨h.1, h.2.1, fun q hq => by
  obtain ⟨v, h1, h2⟩ := prs_of hq
  rw [h2]
  exact h.2.2.2 _ _ h1⟩
theorem lvh.st1 {ad : Nat → Nat} {ls ls' : Array Slot} {n i : Nat} {L : Lo} {v : Value} (h : lvh ad ls n L) (hi : i < n) (h' : lv_has ls' n ((i, conc ad v) :: (prs ad L).filter (fun q => !(q.1 == i) && !(q.1 + 1 == i && q.2.category == 2)))) : lvh ad ls' n (lput (lkill L i) i (some v)) := by
  refine ⟨h'.1, h'.2.1, by rw [lput_len, lkill_len]; exact h.2.2.1, fun k w hk => ?_⟩
  rw [lget_lput (by rw [lkill_len, h.2.2.1]; exact hi)] at hk
  by_cases e : k = i
  · rw [if_pos e] at hk
    cases hk
    subst e
    exact h'.2.2 (k, conc ad v) List.mem_cons_self
  · rw [if_neg e] at hk
    obtain ⟨h1, h2⟩ := lget_lkill hk
    refine h'.2.2 (k, conc ad w) (List.mem_cons_of_mem _ (List.mem_filter.mpr ⟨prs_in h1, ?_⟩))
    simp only [Bool.and_eq_true, Bool.not_eq_true', beq_eq_false_iff_ne, Bool.and_eq_false_iff, conc_cat]
    refine ⟨e, ?_⟩
    by_cases e2 : k + 1 = i
    · exact Or.inr (fun q => h2 ⟨e2, q⟩)
    · exact Or.inl e2
theorem lvh.st2 {ad : Nat → Nat} {ls ls' : Array Slot} {n i : Nat} {L : Lo} {v : Value} (h : lvh ad ls n L) (hi : i + 1 < n) (h' : lv_has ls' n ((i, conc ad v) :: (prs ad L).filter (fun q => !(q.1 == i) && (!(q.1 == i + 1) && !(q.1 + 1 == i && q.2.category == 2))))) : lvh ad ls' n (lput (lput (lkill L i) i (some v)) (i + 1) none) := by
  refine ⟨h'.1, h'.2.1, by rw [lput_len, lput_len, lkill_len]; exact h.2.2.1, fun k w hk => ?_⟩
  rw [lget_lput (by rw [lput_len, lkill_len, h.2.2.1]; exact hi)] at hk
  by_cases e : k = i + 1
  · rw [if_pos e] at hk; cases hk
  · rw [if_neg e, lget_lput (by rw [lkill_len, h.2.2.1]; omega)] at hk
    by_cases e0 : k = i
    · rw [if_pos e0] at hk
      cases hk
      subst e0
      exact h'.2.2 (k, conc ad v) List.mem_cons_self
    · rw [if_neg e0] at hk
      obtain ⟨h1, h2⟩ := lget_lkill hk
      refine h'.2.2 (k, conc ad w) (List.mem_cons_of_mem _ (List.mem_filter.mpr ⟨prs_in h1, ?_⟩))
      simp only [Bool.and_eq_true, Bool.not_eq_true', beq_eq_false_iff_ne, Bool.and_eq_false_iff, conc_cat]
      refine ⟨e0, e, ?_⟩
      by_cases e2 : k + 1 = i
      · exact Or.inr (fun q => h2 ⟨e2, q⟩)
      · exact Or.inl e2
/-! ===== the world ===== -/
def cE (ty : ClassId × ClassId) (ad : Nat → Nat) (M : Mem) (c : Nat) : va_E := match sh c with
  | some (.inl n) => .inl (ty.1, n, .inl (M c))
  | some (.inr (.inl cs)) => .inl (ty.2, cs.length, .inr (.inr (.inr (.inr (fun i => (cs[i]?).map ad)))))
  | some (.inr (.inr o)) => .inr (o.1, o.2.map (fun f => conc ad (fval M c f)))
  | none => .inr (0, [])
def wsM (ty : ClassId × ClassId) (ad : Nat → Nat) (M : Mem) : va_W := (List.range NC).map (fun c => (ad c, cE ty ad M c))
def tyL (ty : ClassId × ClassId) : List (ClassId × FieldType) := [(ty.1, .int), (ty.2, .object "IceHouse$Sheet")]
theorem fval_congr {M M' : Mem} {c : Nat} (h : M' c = M c) (f : Nat × Nat × Nat) : fval M' c f = fval M c f := by unfold fval; rw [h]
theorem cE_congr {ty : ClassId × ClassId} {ad : Nat → Nat} {M M' : Mem} {c : Nat} (h : M' c = M c) : cE ty ad M' c = cE ty ad M c := by
  have e : (fun f => conc ad (fval M' c f)) = (fun f => conc ad (fval M c f)) := funext (fun f => by rw [fval_congr h])
  unfold cE
  rw [h, e]
theorem wsM_at {ty : ClassId × ClassId} {ad : Nat → Nat} {M : Mem} {c : Nat} (h : c < NC) : (wsM ty ad M)[c]? = some (ad c, cE ty ad M c) := by
  unfold wsM
  rw [List.getElem?_map, List.getElem?_range h]
  rfl
theorem wsM_of {ty : ClassId × ClassId} {ad : Nat → Nat} {M : Mem} {c : Nat} {q : Nat × va_E} (h : (wsM ty ad M)[c]? = some q) : c < NC ∧ q = (ad c, cE ty ad M c) := by
  have hc : c < NC := by
    rcases Nat.lt_or_ge c NC with hc | hc
    · exact hc
    · rw [List.getElem?_eq_none (by unfold wsM; simp; exact hc)] at h; cases h
  rw [wsM_at hc] at h
  exact ⟨hc, (Option.some.inj h).symm⟩
theorem wsM_set {ty : ClassId × ClassId} {ad : Nat → Nat} {M M' : Mem} {c : Nat} {e : va_E} (h : c < NC) (he : cE ty ad M' c = e) (ho : ∀ c', c' ≠ c → M' c' = M c') : (wsM ty ad M).set c (ad c, e) = wsM ty ad M' := by
  apply List.ext_getElem?
  intro i
  rw [List.getElem?_set]
  by_cases hi : i < NC
  · by_cases e1 : c = i
    · subst e1
      rw [if_pos rfl, if_pos (by unfold wsM; simp; exact h), wsM_at h, he]
    · rw [if_neg e1, wsM_at hi, wsM_at hi, cE_congr (ho i (Ne.symm e1))]
  · rw [if_neg (show ¬ c = i from fun q => hi (q ▸ h)), List.getElem?_eq_none (by unfold wsM; simp; omega), List.getElem?_eq_none (by unfold wsM; simp; omega)]
def Apt (A : Nat → Prop) (ad : Nat → Nat) : Prop := (∀ i j, i < NC → j < NC → ad i = ad j → i = j) ∧ ∀ i, i < NC → A (ad i)
theorem Apt.D {A : Nat → Prop} {ad : Nat → Nat} (h : Apt A ad) (ty : ClassId × ClassId) (M : Mem) : va_D A (wsM ty ad M) := by
  refine ⟨fun i j p q hi hj he => ?_, fun k q hk => ?_⟩
  · obtain ⟨h1, rfl⟩ := wsM_of hi
    obtain ⟨h2, rfl⟩ := wsM_of hj
    exact h.1 i j h1 h2 he
  · obtain ⟨h1, rfl⟩ := wsM_of hk
    exact h.2 k h1
theorem sh_lt {c : Nat} {k : Kd} (h : sh c = some k) : c < NC := by
  have h1 := (List.getElem?_eq_some_iff.mp h).1
  exact h1
theorem alen_sh {c n : Nat} (h : alen c = some n) : sh c = some (.inl n) := by
  unfold alen at h
  split at h
  · rename_i k hk; rw [hk]; cases h; rfl
  · cases h
theorem alen_cE {c n : Nat} {ty : ClassId × ClassId} {ad : Nat → Nat} {M : Mem} (h : alen c = some n) : cE ty ad M c = .inl (ty.1, n, .inl (M c)) := by unfold cE; rw [alen_sh h]
theorem fld_sh {c a b : Nat} {f : Nat × Nat × Nat} (h : fld c a b = some f) : ∃ fs, sh c = some (.inr (.inr (a, fs))) ∧ fs[b]? = some f := by
  unfold fld at h
  split at h
  · rename_i o ho
    split at h
    · rename_i ha
      obtain ⟨o1, o2⟩ := o
      cases ha
      exact ⟨o2, ho, h⟩
    · cases h
  · cases h
/-- an object's cell as the tables have it -/
def okK (c : Nat) : Bool := match sh c with
  | some (.inr (.inr o)) => decide (o.1 < 12) && decide (o.2.length = nF o.1) && decide (o.2.length ≤ 100) && (List.range o.2.length).all (fun j => match o.2[j]? with
      | some (0, _, _) => true
      | some (1, i, _) => decide (i = j) && decide (tyT o.1 j = .int)
      | some (2, i, _) => decide (i = j) && decide (tyT o.1 j = .boolean)
      | some (3, i, k) => decide (i = j) && decide (k = j + 100) && decide (tyT o.1 j = .long)
      | _ => false)
  | _ => true
theorem okK_all : (List.range NC).all okK = true := by decide +kernel
theorem okK_at {c a : Nat} {fs : List (Nat × Nat × Nat)} (h : sh c = some (.inr (.inr (a, fs)))) : a < 12 ∧ fs.length = nF a ∧ fs.length ≤ 100 ∧ ∀ j f, fs[j]? = some f → f.1 = 0 ∨ (f.1 = 1 ∧ f.2.1 = j ∧ tyT a j = .int) ∨ (f.1 = 2 ∧ f.2.1 = j ∧ tyT a j = .boolean) ∨ (f.1 = 3 ∧ f.2.1 = j ∧ f.2.2 = j + 100 ∧ tyT a j = .long) := by
  have h1 := List.all_eq_true.mp okK_all c (List.mem_range.mpr (sh_lt h))
  unfold okK at h1
  rw [h] at h1
  simp only [Bool.and_eq_true, decide_eq_true_eq] at h1
  obtain ⟨⟨⟨h1, h2⟩, h3⟩, h4⟩ := h1
  refine ⟨h1, h2, h3, fun j f hf => ?_⟩
  have hj := (List.getElem?_eq_some_iff.mp hf).1
  have h5 := List.all_eq_true.mp h4 j (List.mem_range.mpr hj)
  rw [hf] at h5
  obtain ⟨f0, f1, f2⟩ := f
  match f0, h5 with
  | 0, _ => exact Or.inl rfl
  | 1, h5 => simp only [Bool.and_eq_true, decide_eq_true_eq] at h5; exact Or.inr (Or.inl ⟨rfl, h5.1, h5.2⟩)
  | 2, h5 => simp only [Bool.and_eq_true, decide_eq_true_eq] at h5; exact Or.inr (Or.inr (Or.inl ⟨rfl, h5.1, h5.2⟩))
  | 3, h5 => simp only [Bool.and_eq_true, decide_eq_true_eq] at h5; exact Or.inr (Or.inr (Or.inr ⟨rfl, h5.1.1, h5.1.2, h5.2⟩))
  | f0 + 4, h5 => cases h5
theorem obj_cE {c a : Nat} {fs : List (Nat × Nat × Nat)} {ty : ClassId × ClassId} {ad : Nat → Nat} {M : Mem} (h : sh c = some (.inr (.inr (a, fs)))) : cE ty ad M c = .inr (a, fs.map (fun f => conc ad (fval M c f))) := by unfold cE; rw [h]
theorem jn_jn (x : Int64) : jn (jnl x) (jnh x) = x := by
  have h := x.toBitVec.isLt
  have e1 : (jnl x).toBitVec.toNat = x.toBitVec.toNat % 2 ^ 32 := by
    unfold jnl
    show (BitVec.ofNat 32 _).toNat = _
    rw [BitVec.toNat_ofNat]
    omega
  have e2 : (jnh x).toBitVec.toNat = x.toBitVec.toNat / 2 ^ 32 := by
    unfold jnh
    show (BitVec.ofNat 32 _).toNat = _
    rw [BitVec.toNat_ofNat]
    omega
  unfold jn
  rw [e1, e2]
  have e3 : x.toBitVec.toNat % 2 ^ 32 + 2 ^ 32 * (x.toBitVec.toNat / 2 ^ 32) = x.toBitVec.toNat := by omega
  rw [e3]
  apply Int64.toBitVec_inj.mp
  show BitVec.ofNat 64 _ = _
  apply BitVec.eq_of_toNat_eq
  rw [BitVec.toNat_ofNat]
  omega
/-- what comes into a field: the cell behind it -/
theorem fput_cE {c a b : Nat} {fs : List (Nat × Nat × Nat)} {f : Nat × Nat × Nat} {v : Value} {ty : ClassId × ClassId} {ad : Nat → Nat} {M M' : Mem} (h : sh c = some (.inr (.inr (a, fs)))) (hf : fs[b]? = some f) (hp : fput M c f v = some M') :
    cE ty ad M' c = .inr (a, (fs.map (fun f => conc ad (fval M c f))).set b (conc ad v)) ∧ (∀ c', c' ≠ c → M' c' = M c') ∧ narrow (tyT a b) (conc ad v) = conc ad v ∧ fits (tyT a b) (conc ad v) = true := by
  obtain ⟨ha, hlen, h100, hall⟩ := okK_at h
  have hbl : b < fs.length := (List.getElem?_eq_some_iff.mp hf).1
  have key : ∀ (M' : Mem), fval M' c f = v → (∀ j g, j ≠ b → fs[j]? = some g → fval M' c g = fval M c g) → cE ty ad M' c = .inr (a, (fs.map (fun f => conc ad (fval M c f))).set b (conc ad v)) := by
    intro M' h1 h2
    rw [obj_cE h]
    congr 2
    apply List.ext_getElem?
    intro i
    rw [List.getElem?_set, List.getElem?_map, List.getElem?_map]
    by_cases e : b = i
    · subst e
      rw [if_pos rfl, if_pos (by rw [List.length_map]; exact hbl), hf]
      show some (conc ad (fval M' c f)) = _
      rw [h1]
    · rw [if_neg e]
      cases hg : fs[i]? with
      | none => rfl
      | some g =>
        show some (conc ad (fval M' c g)) = some (conc ad (fval M c g))
        rw [h2 i g (Ne.symm e) hg]
  have apart : ∀ (M' : Mem), (∀ j, j ≠ b → j < 100 → M' c j = M c j) → (∀ j, j ≠ b → M' c (j + 100) = M c (j + 100)) → ∀ j g, j ≠ b → fs[j]? = some g → fval M' c g = fval M c g := by
    intro M' h1 h2 j g hj hg
    have hjl : j < 100 := Nat.lt_of_lt_of_le (List.getElem?_eq_some_iff.mp hg).1 h100
    obtain ⟨g0, g1, g2⟩ := g
    rcases hall j _ hg with q | ⟨q, q2, -⟩ | ⟨q, q2, -⟩ | ⟨q, q2, q3, -⟩
    · simp only at q; subst q; rfl
    · simp only at q q2; subst q; subst q2; show Value.int (M' c g1) = Value.int (M c g1); rw [h1 g1 hj hjl]
    · simp only at q q2; subst q; subst q2; show Value.int (M' c g1) = Value.int (M c g1); rw [h1 g1 hj hjl]
    · simp only at q q2 q3; subst q; subst q2; subst q3; show Value.long (jn (M' c g1) (M' c (g1 + 100))) = Value.long (jn (M c g1) (M c (g1 + 100))); rw [h1 g1 hj hjl, h2 g1 hj]
  have hb2 : b < 100 := Nat.lt_of_lt_of_le hbl h100
  have far : ∀ (x : Int32) (j : Nat), j ≠ b → stM M c b x c (j + 100) = M c (j + 100) := fun x j _ => by
    have : j + 100 ≠ b := by omega
    simp [stM, setC, upd, this]
  obtain ⟨f0, f1, f2⟩ := f
  rcases hall b _ hf with q | ⟨q, q2, q4⟩ | ⟨q, q2, q4⟩ | ⟨q, q2, q3, q4⟩
  · simp only at q; subst q; cases v <;> cases hp
  · simp only at q q2; subst q; subst q2
    cases v with
    | int x =>
      cases hp
      refine ⟨key _ (by show Value.int (stM M c f1 x c f1) = _; simp [stM, setC, upd]) (apart _ (fun j hj _ => by simp [stM, setC, upd, hj]) (far x)), fun c' hc => by simp [stM, setC, hc], by rw [q4]; rfl, by rw [q4]; rfl⟩
    | _ => cases hp
  · simp only at q q2; subst q; subst q2
    cases v with
    | int x =>
      have hp : (if x = 0 ∨ x = 1 then some (stM M c f1 x) else none) = some M' := hp
      by_cases hx : x = 0 ∨ x = 1
      · rw [if_pos hx] at hp
        cases hp
        refine ⟨key _ (by show Value.int (stM M c f1 x c f1) = _; simp [stM, setC, upd]) (apart _ (fun j hj _ => by simp [stM, setC, upd, hj]) (far x)), fun c' hc => by simp [stM, setC, hc], ?_, ?_⟩
        · rw [q4]; rcases hx with rfl | rfl <;> rfl
        · rw [q4]; rcases hx with rfl | rfl <;> rfl
      · rw [if_neg hx] at hp; cases hp
    | _ => cases hp
  · simp only at q q2 q3; subst q; subst q2; subst q3
    cases v with
    | long x =>
      cases hp
      have n1 : f1 ≠ f1 + 100 := by omega
      refine ⟨key _ ?_ (apart _ (fun j hj h1 => ?_) (fun j hj => ?_)), fun c' hc => by simp [stM, setC, hc], by rw [q4]; rfl, by rw [q4]; rfl⟩
      · show Value.long (jn (stM (stM M c f1 (jnl x)) c (f1 + 100) (jnh x) c f1) (stM (stM M c f1 (jnl x)) c (f1 + 100) (jnh x) c (f1 + 100))) = _
        simp [stM, setC, upd, n1, jn_jn]
      · have : j ≠ f1 + 100 := by omega
        simp [stM, setC, upd, hj, this]
      · have : j + 100 ≠ f1 := by omega
        have h2 : j + 100 ≠ f1 + 100 := by omega
        simp [stM, setC, upd, hj, this]
    | _ => cases hp
