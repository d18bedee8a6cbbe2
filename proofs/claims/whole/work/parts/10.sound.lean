/-! SOUNDNESS: what the abstract machine does, the machine does -/
def wsOf (z : Nat) : List Jvm.Cond := Jvm.Cond.code (my z) (mb z) (mL z) (mr z) :: TG
def rmOf (z : Nat) : Room := { frames := mf z, cells := 0, slots := 0, locals := mo z }
def AW (ad : Nat → Nat) : Nat → Prop := fun q => ∃ c, c < NC ∧ q = ad c
def PcZ (D : va_G) (ty : ClassId × ClassId) (ad : Nat → Nat) (as : List Value) (M : Mem) : Array Value → State → Prop := va_Pc (as.map (conc ad)) (fun U => va_P D cls_ (wsM ty ad M) U.heap ∧ va_K D cls_ (tyL ty) U ∧ ∀ q ∈ nuL, va_Nw (nuC q) U)
def QcZ (D : va_G) (ty : ClassId × ClassId) (ad : Nat → Nat) (r : Option Value) (M' : Mem) : Array Value → State → Outcome → State → Prop := fun _ st oc t => oc = .returned (r.map (conc ad)) ∧ va_P D cls_ (wsM ty ad M') t.heap ∧ va_F (AW ad) st t
def inj (ad : Nat → Nat) : Prop := ∀ i j, i < NC → j < NC → ad i = ad j → i = j
theorem inj.apt {ad : Nat → Nat} (h : inj ad) : Apt (AW ad) ad := ⟨h, fun i hi => ⟨i, hi, rfl⟩⟩
def RetOK (y pc : Nat) (r : Option Value) : Prop := match r with
  | none => decode (mb y) pc = .ok (.return_, 1) ∧ mr y = none
  | some (.int x) => decode (mb y) pc = .ok (.ireturn, 1) ∧ (mr y = some .int ∨ (mr y = some .boolean ∧ (x = 0 ∨ x = 1)))
  | some (.long _) => decode (mb y) pc = .ok (.lreturn, 1) ∧ mr y = some .long
  | some (.ref _) => decode (mb y) pc = .ok (.areturn, 1) ∧ ∃ n, mr y = some (.object n)
  | _ => False
theorem mn_at {z : Nat} (h : z < NM) : (my z).cls = rn (mc z) ∧ plainName (my z).cls = true ∧ (my z).cls ≠ "java/lang/invoke/MethodHandle" ∧ (my z).cls ≠ "java/lang/invoke/VarHandle" ∧ (parseMethodDescriptor (my z).desc).map (fun d => d.parameters.length) = some (np z) ∧ Jvm.Cond.initialized (my z).cls ∈ TG ∧ (stc z = 0 → Jvm.Cond.instanceMethod (my z) ∈ TG ∧ Jvm.Cond.selects (my z).cls (my z) (my z) ∈ TG) ∧ (stc z = 1 → Jvm.Cond.static (my z) ∈ TG) := by
  have h1 := mn_in h
  unfold mnC at h1
  simp only [Bool.and_eq_true, decide_eq_true_eq] at h1
  obtain ⟨⟨⟨⟨⟨⟨⟨h1, -⟩, h2⟩, h3⟩, h4⟩, h5⟩, h6⟩, h7⟩ := h1
  refine ⟨h1, h2, h3, h4, h5, tg_in (List.mem_of_getElem? h6) rfl, fun h0 => ?_, fun h0 => ?_⟩
  · rw [if_pos h0] at h7
    simp only [Bool.and_eq_true, decide_eq_true_eq] at h7
    exact ⟨tg_in (List.mem_of_getElem? h7.1) rfl, tg_in (List.mem_of_getElem? h7.2) rfl⟩
  · rw [if_neg (by omega)] at h7
    simp only [decide_eq_true_eq] at h7
    exact tg_in (List.mem_of_getElem? h7) rfl
theorem cw_TG {z : Nat} (h : z < NM) : Jvm.Cond.code (my z) (mb z) (mL z) (mr z) ∈ TG := tg_in (cw_in h) rfl
theorem goodZ {z : Nat} (h : z < NM) : GoodIn TG (wsOf z) := by
  intro w hw
  rcases List.mem_cons.mp hw with rfl | hw
  · exact tg_good (cw_TG h)
  · exact tg_good hw
theorem lw_tbl_good {args : Array Value} {s : State} (h : ∀ w ∈ lw_tbl, w.before args s = true) : ∀ w ∈ TG, w.before args s = true := fun w hw => h w (List.mem_filter.mp hw).1
theorem ent_lv (ad : Nat → Nat) : ∀ (as : List Value) (i : Nat) (k : Nat) (v : Value), lget (entL as) k = some v → (i + k, conc ad v) ∈ lv_args i (as.map (conc ad))
  | [], i, k, v, h => by cases h
  | u :: as, i, k, v, h => by
    have key : ∀ (j : Nat), (if (conc ad u).category = 2 then i + 2 else i + 1) = j → (i + k, conc ad v) ∈ (i, conc ad u) :: lv_args j (as.map (conc ad)) → (i + k, conc ad v) ∈ lv_args i ((u :: as).map (conc ad)) := by
      intro j hj hm
      show _ ∈ (i, conc ad u) :: lv_args (if (conc ad u).category = 2 then i + 2 else i + 1) (as.map (conc ad))
      rw [hj]
      exact hm
    have one : u.category = 1 → (∀ k, lget (entL (u :: as)) k = lget (some u :: entL as) k) → (i + k, conc ad v) ∈ lv_args i ((u :: as).map (conc ad)) := by
      intro hc hg
      rw [hg] at h
      refine key (i + 1) (by rw [conc_cat, hc]; rfl) ?_
      match k, h with
      | 0, h => cases h; exact List.mem_cons_self
      | k + 1, h =>
        have := ent_lv ad as (i + 1) k v h
        rw [show i + (k + 1) = i + 1 + k by omega]
        exact List.mem_cons_of_mem _ this
    have two : u.category = 2 → (∀ k, lget (entL (u :: as)) k = lget (some u :: none :: entL as) k) → (i + k, conc ad v) ∈ lv_args i ((u :: as).map (conc ad)) := by
      intro hc hg
      rw [hg] at h
      refine key (i + 2) (by rw [conc_cat, hc]; rfl) ?_
      match k, h with
      | 0, h => cases h; exact List.mem_cons_self
      | 1, h => cases h
      | k + 2, h =>
        have := ent_lv ad as (i + 2) k v h
        rw [show i + (k + 2) = i + 2 + k by omega]
        exact List.mem_cons_of_mem _ this
    cases u with
    | long x => exact two rfl (fun _ => rfl)
    | double x => exact two rfl (fun _ => rfl)
    | _ => exact one rfl (fun _ => rfl)
theorem ent_len (ad : Nat → Nat) : ∀ (as : List Value), (lg_sl (as.map (conc ad))).length = (entL as).length
  | [] => rfl
  | u :: as => by
    have ih := ent_len ad as
    unfold lg_sl at ih ⊢
    rw [List.map_cons, List.flatMap_cons, List.length_append, ih, conc_cat]
    cases u <;> simp [Value.category, entL] <;> omega
theorem lget_rep : ∀ (n k : Nat), lget (List.replicate n none) k = none
  | 0, _ => rfl
  | _ + 1, 0 => rfl
  | n + 1, k + 1 => lget_rep n k
theorem lget_app : ∀ {L : Lo} {n k : Nat} {v : Value}, lget (L ++ List.replicate n none) k = some v → lget L k = some v
  | [], n, k, v, h => by rw [List.nil_append, lget_rep] at h; cases h
  | u :: L, n, 0, v, h => h
  | u :: L, n, k + 1, v, h => lget_app (L := L) (n := n) h
theorem lvh_ent (ad : Nat → Nat) {z : Nat} {as : List Value} (h : (ent z as).length = mL z) : lvh ad ((lg_sl (as.map (conc ad)) ++ List.replicate (mL z - (lg_sl (as.map (conc ad))).length) Slot.unset).toArray) (mL z) (ent z as) := by
  have hle : (lg_sl (as.map (conc ad))).length ≤ mL z := by
    rw [ent_len, ← h]
    unfold ent
    rw [List.length_append]
    omega
  obtain ⟨h1, h2, h3⟩ := lv_entry (as.map (conc ad)) hle
  refine ⟨h1, h2, h, fun k v hk => ?_⟩
  have h4 := ent_lv ad as 0 k v (lget_app hk)
  rw [Nat.zero_add] at h4
  exact h3 _ h4
/-- behind a call: any answer -/
theorem my_call {p : Program} {l : Launch} {e : Env} {R : Room} {s : State} {m : MethodId} {args : Array Value} {below : List Frame} {meth : Method} {c0 : Code} {H : Heap} {locs : List Loc} {cells slots : Nat} {Q : State → Prop} {D : va_G} {ty : ClassId × ClassId} {ad : Nat → Nat} {A : Nat → Prop} {pc : Nat} {ls : Array Slot} {rest st0 : List Value} {a : Array Value} {H0 : Heap} {r : Option Value} {M' : Mem}
    (hr : va_Run p l e R s m args below meth c0 H locs cells slots 0 0 (F0 m pc ls st0) rest (QcZ D ty ad r M' a) (AW ad)) (hS : va_S A H0 H locs) (hA : ∀ q, AW ad q → A q)
    (kk : ∀ (H1 : Heap) (locs1 : List Loc), va_P D cls_ (wsM ty ad M') H1 → va_S A H0 H1 locs1 → W p l e R s m args below meth c0 H1 locs1 cells slots Q (F0 m (pc + 3) ls ((r.map (conc ad)).toList ++ rest))) : W p l e R s m args below meth c0 H locs cells slots Q (F0 m pc ls st0) := by
  intro T hT X
  obtain ⟨v, st₀, t, T', L, h0, X', hL, e1, e2, ⟨hv, hp, hz, hk⟩, st⟩ := hr T hT X
  cases hv
  rw [h0] at hz hk
  obtain ⟨t2, a1, b1⟩ := kk T'.heap (locs ++ L) (by rw [e1]; exact hp)
    ⟨Nat.le_trans hS.1 (by rw [e1]; exact hz), fun q h1 h2 => by rw [e1, hk q (Nat.lt_of_lt_of_le h1 hS.1) (fun z => h2 (hA q z))]; exact hS.2.1 q h1 h2, fun q hq => by
      rcases List.mem_append.mp hq with h | h
      · exact hS.2.2 q h
      · exact hA _ (hL q h)⟩ T' rfl X'
  exact ⟨t2, st t2 a1, b1⟩
/-- what is to be shown, by the fuel -/
def Snd (l : Launch) (D : va_G) (ty : ClassId × ClassId) (ad : Nat → Nat) (n : Nat) : Prop := ∀ (y : Nat) (is : List Op) (ft : Nat) (L : Lo) (S : List Value) (M : Mem) (r : Option Value) (M' : Mem), arun n y is ft L S M = some (r, M') → y < NM → ∀ pc, okL y pc is ft = true →
  ∀ (p : Program) (e : Env) (R : Room) (s : State) (m : MethodId) (args : Array Value) (below : List Frame) (meth : Method) (c0 : Code) (H : Heap) (locs : List Loc) (ls : Array Slot) (A : Nat → Prop) (Q : State → Prop), Cx p R s m args c0 D ty ad A y → lvh ad ls (mL y) L → va_P D cls_ (wsM ty ad M) H → va_S A s.heap H locs →
  (∀ (H' : Heap) (locs' : List Loc) (pc' : Nat) (ls' : Array Slot), va_P D cls_ (wsM ty ad M') H' → va_S A s.heap H' locs' → RetOK y pc' r → W p l e R s m args below meth c0 H' locs' 0 0 Q (F0 m pc' ls' (r.map (conc ad)).toList)) → W p l e R s m args below meth c0 H locs 0 0 Q (F0 m pc ls (S.map (conc ad)))
/-- a method's contract out of its run -/
theorem met_of {l : Launch} {D : va_G} {ty : ClassId × ClassId} {ad : Nat → Nat} (hj : inj ad) {n : Nat} (hn : Snd l D ty ad n) {z : Nat} (hz : z < NM) {as : List Value} {M M' : Mem} {r : Option Value} (h : cal (arun n) z as M = some (r, M')) : Met l (my z) (wsOf z) (rmOf z) (PcZ D ty ad as M) (QcZ D ty ad r M') 0 0 (AW ad) := by
  obtain ⟨hcl, hpl, -⟩ := mn_at hz
  refine Met.ofW (cc := mb z) (maxL := mL z) (ret := mr z) hpl rfl ?_
  intro p e s m args below meth c s₁ B hml hv
  obtain ⟨rfl, hP, hK, hN⟩ := hv
  have hx := B.exec
  have hb := B.bytes
  have hr := B.returns
  have hts0 := atoms_spec (ws := wsOf z) B.pre
  have hown : s.vm.findClass (rn (mc z)) = some m.cls := by rw [← hcl]; exact findClass_of_methodNamed B.named
  have hlocks := B.notSynchronized
  unfold cal at h
  split at h
  · rename_i hlen
    have hl := lvh_ent ad hlen
    rw [lg_entry_eq]
    refine hn z [] 0 (ent z as) [] M r M' h hz 0 ?_ p e _ s m _ below meth c s.heap [] _ (AW ad) _ ⟨hx, hb, hml, hown, fun w hw => hts0 w (List.mem_cons_of_mem _ hw), hK, hN, ⟨Nat.le_refl _, Nat.le_refl _⟩, hj.apt⟩ hl hP va_S.rf ?_
    · have h1 := okM_in hz
      unfold okM at h1
      rw [Bool.and_eq_true, Bool.and_eq_true, decide_eq_true_eq] at h1
      show decide (0 = bs z 0) = true
      rw [h1.1.2]
      rfl
    · intro H' locs' pc' ls' hP' hS' hret
      match r, hret with
      | none, hret => exact W.vret hx hb (hr.trans hret.2) (fun t ht hW => ⟨rfl, by rw [ht]; exact hP', hS'.F ht⟩) hS'.2.2 hret.1
      | some (.int x), hret =>
        rcases hret.2 with q | ⟨q, q2⟩
        · exact W.iret (v := x) hx hb (hr.trans q) (fun t ht hW => ⟨rfl, by rw [ht]; exact hP', hS'.F ht⟩) hS'.2.2 hret.1
        · exact W.zret (v := x) hx hb (hr.trans q) (by rcases q2 with rfl | rfl <;> rfl) (fun t ht hW => ⟨rfl, by rw [ht]; exact hP', hS'.F ht⟩) hS'.2.2 hret.1
      | some (.long x), hret => exact W.lret (v := x) hx hb (hr.trans hret.2) (fun t ht hW => ⟨rfl, by rw [ht]; exact hP', hS'.F ht⟩) hS'.2.2 hret.1
      | some (.ref x), hret =>
        obtain ⟨nm, hnm⟩ := hret.2
        exact W.aret (v := .ref (ad x)) hx hb (hr.trans hnm) (Or.inl ⟨nm, rfl⟩) (Or.inr ⟨_, rfl⟩) (fun t ht hW => ⟨rfl, by rw [ht]; exact hP', hS'.F ht⟩) hS'.2.2 hret.1
  · cases h
theorem PcZ_blind {D : va_G} {ty : ClassId × ClassId} {ad : Nat → Nat} {as : List Value} {M : Mem} : FrameBlind (PcZ D ty ad as M) := by
  intro a U g mk q
  obtain ⟨q0, qP, qK, qN⟩ := q
  exact ⟨q0, qP, va_K.moved (u := U) (U := U.calling g mk a) (Vm.Alike.refl U.vm) qK, fun w hw => va_Nw.same (u := U) (U := U.calling g mk a) rfl rfl (qN w hw)⟩
theorem PcZ_at {D : va_G} {ty : ClassId × ClassId} {ad : Nat → Nat} {as : List Value} {M : Mem} {s : State} {H : Heap} (hK : va_K D cls_ (tyL ty) s) (hN : ∀ q ∈ nuL, va_Nw (nuC q) s) (hP : va_P D cls_ (wsM ty ad M) H) (U : State) (hU : U.heap = H) (hW : s.WarmedH U.vm) : PcZ D ty ad as M (as.map (conc ad)).toArray U :=
  ⟨rfl, by rw [hU]; exact hP, va_K.moved hW.alike hK, fun w hw => va_Nw.warmM hW (hN w hw)⟩
theorem onE_inv {x : Option St3} {K : Lo → List Value → Mem → Option Rs} {r : Rs} (h : onE x K = some r) : ∃ L S M, x = some (L, S, M) ∧ K L S M = some r := by
  cases x with
  | none => cases h
  | some q => exact ⟨q.1, q.2.1, q.2.2, rfl, h⟩
theorem onC_inv {x : Option Rs} {K : Option Value → Mem → Option Rs} {r : Rs} (h : onC x K = some r) : ∃ v M, x = some (v, M) ∧ K v M = some r := by
  cases x with
  | none => cases h
  | some q => exact ⟨q.1, q.2, rfl, h⟩
theorem conc_res (ad : Nat → Nat) (r : Option Value) (S : List Value) : (r.toList ++ S).map (conc ad) = (r.map (conc ad)).toList ++ S.map (conc ad) := by
  cases r with
  | none => rfl
  | some v => rfl
set_option maxHeartbeats 4000000 in
theorem sound (l : Launch) (D : va_G) (ty : ClassId × ClassId) (ad : Nat → Nat) (hj : inj ad) : ∀ n, Snd l D ty ad n := by
  intro n
  induction n with
  | zero => intro y is ft L S M r M' h; cases h
  | succ n ih =>
    intro y is ft L S M r M' h hy pc hok p e R s m args below meth c0 H locs ls A Q C hl hP hS hret
    cases is with
    | nil =>
      have e1 : pc = bs y ft := of_decide_eq_true hok
      subst e1
      exact ih y (blk y ft).1 (blk y ft).2 L S M r M' h hy _ (okL_blk hy ft) p e R s m args below meth c0 H locs ls A Q C hl hP hS hret
    | cons o is =>
      obtain ⟨hx, hb, hml, hown, hts, hK, hN, hR, hA⟩ := id C
      have hok : (okD y pc o && okX y pc o && (termI o.1 || okL y (pc + ilen o.1) is ft)) = true := hok
      rw [Bool.and_eq_true, Bool.and_eq_true, Bool.or_eq_true] at hok
      obtain ⟨⟨hd, hX⟩, hnx⟩ := hok
      have h : stp (arun n) y (o :: is) ft L S M = some (r, M') := h
      -- to a block
      have jmp : ∀ (t : Nat) (S' : List Value), arun n y [] t L S' M = some (r, M') → W p l e R s m args below meth c0 H locs 0 0 Q (F0 m (bs y t) ls (S'.map (conc ad))) := fun t S' h' =>
        ih y [] t L S' M r M' h' hy (bs y t) (by show decide (bs y t = bs y t) = true; exact decide_eq_true rfl) p e R s m args below meth c0 H locs ls A Q C hl hP hS hret
      -- to the next instruction
      have nxt : termI o.1 = false → ∀ (L' : Lo) (S' : List Value) (M1 : Mem), arun n y is ft L' S' M1 = some (r, M') → ∀ (ls' : Array Slot) (H' : Heap) (locs' : List Loc), lvh ad ls' (mL y) L' → va_P D cls_ (wsM ty ad M1) H' → va_S A s.heap H' locs' → W p l e R s m args below meth c0 H' locs' 0 0 Q (F0 m (pc + ilen o.1) ls' (S'.map (conc ad))) := by
        intro ht L' S' M1 h' ls' H' locs' hl' hP' hS'
        rw [ht] at hnx
        rcases hnx with q | q
        · cases q
        · exact ih y is ft L' S' M1 r M' h' hy _ q p e R s m args below meth c0 H' locs' ls' A Q C hl' hP' hS' hret
      obtain ⟨i, a, b, c⟩ := o
      cases i with
      | ireturn =>
        have hdg := ilen_at hd rfl
        have h : rtI a S M = some (r, M') := h
        unfold rtI at h
        split at h
        · split at h
          · rename_i x hc
            cases h
            refine hret H locs pc ls hP hS ⟨hdg, ?_⟩
            have hX : (if a = 0 then decide (mr y = some .int) else decide (mr y = some .boolean)) = true := hX
            by_cases h0 : a = 0
            · rw [if_pos h0] at hX; exact Or.inl (of_decide_eq_true hX)
            · rw [if_neg h0] at hX
              exact Or.inr ⟨of_decide_eq_true hX, hc.resolve_left h0⟩
          · cases h
        · cases h
      | lreturn =>
        have hdg := ilen_at hd rfl
        have h : rtL S M = some (r, M') := h
        unfold rtL at h
        split at h
        · cases h; exact hret H locs pc ls hP hS ⟨hdg, of_decide_eq_true hX⟩
        · cases h
      | areturn =>
        have hdg := ilen_at hd rfl
        have h : rtR S M = some (r, M') := h
        unfold rtR at h
        split at h
        · cases h
          refine hret H locs pc ls hP hS ⟨hdg, ?_⟩
          have hX : (match mr y with | some (.object _) => true | _ => false) = true := hX
          split at hX
          · rename_i nm hq; exact ⟨nm, hq⟩
          · cases hX
        · cases h
      | return_ =>
        have hdg := ilen_at hd rfl
        have h : rtV S M = some (r, M') := h
        unfold rtV at h
        split at h
        · cases h; exact hret H locs pc ls hP hS ⟨hdg, of_decide_eq_true hX⟩
        · cases h
      | goto k =>
        have hdg := ilen_at hd rfl
        exact lv_goto hx hb hdg (of_decide_eq_true hX) (jmp a S h)
      | tableswitch df lo hi offs =>
        obtain ⟨len, hdg, -⟩ := okD_at hd
        have h : swI S (fun x S => arun n y [] (swt a x) L S M) = some (r, M') := h
        match S, h with
        | .int x :: S0, h =>
          have h : arun n y [] (swt a x) L S0 M = some (r, M') := h
          have hj2 := jmp _ S0 h
          have hX : okS y pc a df lo hi offs = true := hX
          unfold okS at hX
          split at hX
          · rename_i lo' ts df' hjt
            simp only [Bool.and_eq_true, decide_eq_true_eq] at hX
            obtain ⟨⟨⟨⟨e1, e2⟩, e3⟩, e4⟩, e5⟩ := hX
            subst e1
            unfold swt at hj2
            rw [hjt] at hj2
            dsimp only at hj2
            by_cases hc : x.toInt < lo' ∨ lo' + (ts.length : Int) ≤ x.toInt
            · rw [if_pos hc] at hj2
              exact lv_tableOut hx hb hdg (by rcases hc with q | q <;> omega) e4 hj2
            · rw [if_neg hc] at hj2
              have h1 : ¬ x.toInt < lo' := fun q => hc (Or.inl q)
              have h2 : ¬ hi < x.toInt := fun q => hc (Or.inr (by omega))
              have h3 : (x.toInt - lo').toNat < ts.length := by omega
              have h4 := of_decide_eq_true (List.all_eq_true.mp e5 _ (List.mem_range.mpr h3))
              have h5 : offs[(x.toInt - lo').toNat]? = some (offs.getD (x.toInt - lo').toNat 0) := by
                rw [Array.getElem?_eq_getElem (by omega), Array.getD_eq_getD_getElem?, Array.getElem?_eq_getElem (by omega)]
                rfl
              exact lv_tableIn hx hb hdg h1 h2 h5 h4 hj2
          · cases hX
      | ifCond cd k =>
        have hdg := ilen_at hd rfl
        have ht : (pc : Int) + k = (bs y a : Int) := of_decide_eq_true hX
        match S, h with
        | .int x :: S0, h =>
          have h : (if cmpI cd x 0 then arun n y [] a L S0 M else arun n y is ft L S0 M) = some (r, M') := h
          have kt : cmpI cd x 0 = true → W p l e R s m args below meth c0 H locs 0 0 Q (F0 m (bs y a) ls (S0.map (conc ad))) := fun q => by rw [if_pos q] at h; exact jmp a S0 h
          have kf : cmpI cd x 0 = false → W p l e R s m args below meth c0 H locs 0 0 Q (F0 m (pc + 3) ls (S0.map (conc ad))) := fun q => by rw [if_neg (by rw [q]; decide)] at h; exact nxt rfl L S0 M h ls H locs hl hP hS
          cases cd with
          | eq => exact lv_if_eq hx hb hdg ht (fun q => kt (decide_eq_true q)) (fun q => kf (decide_eq_false q))
          | ne => exact lv_if_ne hx hb hdg ht (fun q => kt (decide_eq_true q)) (fun q => kf (decide_eq_false (fun w => w q)))
          | lt => exact lv_if_lt hx hb hdg ht (fun q => kt (decide_eq_true q)) (fun q => kf (decide_eq_false q))
          | ge => exact lv_if_ge hx hb hdg ht (fun q => kt (decide_eq_true q)) (fun q => kf (decide_eq_false q))
          | gt => exact lv_if_gt hx hb hdg ht (fun q => kt (decide_eq_true q)) (fun q => kf (decide_eq_false q))
          | le => exact lv_if_le hx hb hdg ht (fun q => kt (decide_eq_true q)) (fun q => kf (decide_eq_false q))
      | if_icmp cd k =>
        have hdg := ilen_at hd rfl
        have ht : (pc : Int) + k = (bs y a : Int) := of_decide_eq_true hX
        match S, h with
        | .int v :: .int x :: S0, h =>
          have h : (if cmpI cd x v then arun n y [] a L S0 M else arun n y is ft L S0 M) = some (r, M') := h
          have kt : cmpI cd x v = true → W p l e R s m args below meth c0 H locs 0 0 Q (F0 m (bs y a) ls (S0.map (conc ad))) := fun q => by rw [if_pos q] at h; exact jmp a S0 h
          have kf : cmpI cd x v = false → W p l e R s m args below meth c0 H locs 0 0 Q (F0 m (pc + 3) ls (S0.map (conc ad))) := fun q => by rw [if_neg (by rw [q]; decide)] at h; exact nxt rfl L S0 M h ls H locs hl hP hS
          cases cd with
          | eq => exact lv_icmp_eq hx hb hdg ht (fun q => kt (decide_eq_true q)) (fun q => kf (decide_eq_false q))
          | ne => exact lv_icmp_ne hx hb hdg ht (fun q => kt (decide_eq_true q)) (fun q => kf (decide_eq_false (fun w => w q)))
          | lt => exact lv_icmp_lt hx hb hdg ht (fun q => kt (decide_eq_true q)) (fun q => kf (decide_eq_false q))
          | ge => exact lv_icmp_ge hx hb hdg ht (fun q => kt (decide_eq_true q)) (fun q => kf (decide_eq_false q))
          | gt => exact lv_icmp_gt hx hb hdg ht (fun q => kt (decide_eq_true q)) (fun q => kf (decide_eq_false q))
          | le => exact lv_icmp_le hx hb hdg ht (fun q => kt (decide_eq_true q)) (fun q => kf (decide_eq_false q))
      | invokevirtual k =>
        have hdg := ilen_at hd rfl
        have h : ivI (S.drop b) (fun c1 S' => if cls c1 = c ∧ S'.length ≤ 4 then onC (cal (arun n) a (.ref c1 :: (S.take b).reverse) M) fun r M' => arun n y is ft L (r.toList ++ S') M' else none) = some (r, M') := h
        unfold ivI at h
        split at h
        · rename_i c1 S' hdrop
          dsimp only at h
          split at h
          · rename_i hc
            obtain ⟨v, M1, h1, h2⟩ := onC_inv h
            simp only [okX, okC, Bool.and_eq_true, decide_eq_true_eq] at hX
            obtain ⟨⟨⟨⟨⟨⟨⟨hzN, hfr⟩, hlo⟩, hmu⟩, hst⟩, hnp⟩, hmc⟩, h12⟩ := hX
            obtain ⟨hcl, -, hmh, hvh, hpd, hini, hins, -⟩ := mn_at hzN
            obtain ⟨hi1, hi2⟩ := hins hst
            have hM := met_of (l := l) (D := D) (ty := ty) hj ih hzN h1
            have hoc : ∃ fs, sh c1 = some (.inr (.inr (c, fs))) := by
              have hc1 := hc.1
              unfold cls at hc1
              split at hc1
              · rename_i o ho; obtain ⟨o1, o2⟩ := o; cases hc1; exact ⟨o2, ho⟩
              · omega
            obtain ⟨fs, hsh⟩ := hoc
            have hlen : (S.take b).length = b := by
              have := congrArg List.length hdrop
              rw [List.length_drop, List.length_cons] at this
              rw [List.length_take]
              omega
            have hsplit : S = S.take b ++ .ref c1 :: S' := by rw [← hdrop, List.take_append_drop]
            refine my_call (rest := S'.map (conc ad)) (r := v) (M' := M1) (va_runV (C := rn c) (As := ((S.take b).reverse).map (conc ad)) (b := ad c1) (Ts := TG) (own := rn (mc y)) (n := b) ⟨hx, hb, hml, hown, hts⟩ hM (cwV b hts ?_ rfl rfl rfl ⟨by rw [hcl, hmc], hmh, hvh, by rw [hpd, hnp]⟩ ⟨Nat.le_trans hfr hR.1, Nat.le_trans hlo hR.2⟩) ⟨PcZ_blind, va_recv hK hP (clsT c (hmc ▸ h12)) ((wsM_at (sh_lt hsh)).trans (by rw [obj_cE hsh])), fun U hU hW => PcZ_at hK hN hP U hU hW⟩ rfl (by rw [List.length_map, List.length_reverse, hlen]) hl.1 ?_ ?_ hdg ⟨Nat.zero_le _, Nat.zero_le _⟩) hS (fun q hq => by obtain ⟨k, hk, rfl⟩ := hq; exact hA.2 k hk) ?_
            · intro w hw
              unfold wsV at hw
              rcases List.mem_append.mp hw with hw | hw
              · simp only [List.mem_cons, List.not_mem_nil, or_false] at hw
                rcases hw with rfl | rfl | rfl | rfl
                · exact tg_good (mu_in hmu)
                · exact tg_good hi1
                · rw [hcl, hmc] at hi2; exact tg_good hi2
                · rw [hcl, hmc] at hini; exact tg_good hini
              · exact goodZ hzN w hw
            · show S.map (conc ad) = ((S.take b).reverse.map (conc ad)).reverse ++ .ref (ad c1) :: S'.map (conc ad)
              rw [← List.map_reverse, List.reverse_reverse]
              conv => lhs; rw [hsplit]
              rw [List.map_append]
              rfl
            · exact lv_room (cat_le ad hc.2)
            · intro H1 locs1 hP1 hS1
              rw [← conc_res]
              exact nxt rfl L _ M1 h2 ls H1 locs1 hl hP1 hS1
          · cases h
        · cases h
      | invokestatic k =>
        have hdg := ilen_at hd rfl
        have h : (if 997 ≤ a then onE (eff (.invokestatic k, a, b, c) L S M) fun L' S' M' => arun n y is ft L' S' M' else if b ≤ S.length ∧ (S.drop b).length ≤ 4 then onC (cal (arun n) a (S.take b).reverse M) fun r M' => arun n y is ft L (r.toList ++ S.drop b) M' else none) = some (r, M') := h
        by_cases h9 : 997 ≤ a
        · rw [if_pos h9] at h
          obtain ⟨L1, S1, M1, he, h2⟩ := onE_inv h
          exact eff_sound C hd hX he hl hP hS (nxt rfl L1 S1 M1 h2)
        · rw [if_neg h9] at h
          split at h
          · rename_i hc
            obtain ⟨v, M1, h1, h2⟩ := onC_inv h
            have hX : (if a = 999 then _ else if a = 998 then _ else if a = 997 then _ else okC y a && decide (stc a = 1) && decide (np a = b) && (if c = 1 then nuL.any (fun q => decide (q = (mc y, k, a))) else muL.any (fun q => decide (q.2 = (mc y, k, a))))) = true := hX
            rw [if_neg (by omega), if_neg (by omega), if_neg (by omega)] at hX
            simp only [okC, Bool.and_eq_true, decide_eq_true_eq] at hX
            obtain ⟨⟨⟨⟨⟨hzN, hfr⟩, hlo⟩, hst⟩, hnp⟩, hmu⟩ := hX
            obtain ⟨hcl, -, hmh, hvh, hpd, hini, -, hsta⟩ := mn_at hzN
            have hM := met_of (l := l) (D := D) (ty := ty) hj ih hzN h1
            have hlen : (S.take b).length = b := by rw [List.length_take]; omega
            have hstk : S.map (conc ad) = ((S.take b).reverse.map (conc ad)).reverse ++ (S.drop b).map (conc ad) := by
              rw [← List.map_reverse, List.reverse_reverse, ← List.map_append, List.take_append_drop]
            have fin : va_Run p l e R s m args below meth c0 H locs 0 0 0 0 (F0 m pc ls (S.map (conc ad))) ((S.drop b).map (conc ad)) (QcZ D ty ad v M1 (((S.take b).reverse).map (conc ad)).toArray) (AW ad) := by
              by_cases h1c : c = 1
              · rw [if_pos h1c] at hmu
                obtain ⟨q, hq, h2q⟩ := List.any_eq_true.mp hmu
                rw [decide_eq_true_eq] at h2q
                subst h2q
                exact va_runSN (Ts := TG) (own := rn (mc y)) (n := b) ⟨hx, hb, hml, hown, hts⟩ hM ⟨va_cnB b hts (goodZ hzN) rfl rfl rfl (hN _ hq) (hts _ hini) ⟨hmh, hvh, by rw [hpd, hnp]⟩ ⟨Nat.le_trans hfr hR.1, Nat.le_trans hlo hR.2⟩, hts _ (hsta hst), trivial⟩ ⟨PcZ_blind, fun U hU hW => PcZ_at hK hN hP U hU hW⟩ rfl (by rw [List.length_map, List.length_reverse, hlen]) hl.1 hstk (lv_room (cat_le ad hc.2)) hdg ⟨Nat.zero_le _, Nat.zero_le _⟩
              · rw [if_neg h1c] at hmu
                refine va_runS (Ts := TG) (own := rn (mc y)) (n := b) ⟨hx, hb, hml, hown, hts⟩ hM (va_cwS b hts ?_ rfl rfl rfl ⟨hmh, hvh, by rw [hpd, hnp]⟩ ⟨Nat.le_trans hfr hR.1, Nat.le_trans hlo hR.2⟩) ⟨PcZ_blind, fun U hU hW => PcZ_at hK hN hP U hU hW⟩ rfl (by rw [List.length_map, List.length_reverse, hlen]) hl.1 hstk (lv_room (cat_le ad hc.2)) hdg ⟨Nat.zero_le _, Nat.zero_le _⟩
                intro w hw
                unfold va_wsS at hw
                rcases List.mem_append.mp hw with hw | hw
                · simp only [List.mem_cons, List.not_mem_nil, or_false] at hw
                  rcases hw with rfl | rfl | rfl
                  · exact tg_good (mu_in hmu)
                  · exact tg_good (hsta hst)
                  · exact tg_good hini
                · exact goodZ hzN w hw
            refine my_call fin hS (fun q hq => by obtain ⟨k, hk, rfl⟩ := hq; exact hA.2 k hk) ?_
            intro H1 locs1 hP1 hS1
            rw [← conc_res]
            exact nxt rfl L _ M1 h2 ls H1 locs1 hl hP1 hS1
          · cases h
      | _ =>
        dsimp only [stp, brI, onB] at h
        obtain ⟨L1, S1, M1, he, h2⟩ := onE_inv h
        exact eff_sound C hd hX he hl hP hS (nxt rfl L1 S1 M1 h2)
