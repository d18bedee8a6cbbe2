/-! THE CLAIM OUT OF ONE WALK OF THE LAW'S BODY. Your part is whole_start (and what it stands on); all else here is the same for every law, but numbers. -/
def R_law : String := "IceHouseLaw"
def lw_P (b : Addr) (xs : List Int32) (args : Array Value) (s : State) : Prop := args = #[.ref b] ∧ s.IntsAt b xs ∧ xs.length ≤ 3072 ∧ (Jvm.Cond.and given_1 narrow_1).before args s = true
def lw_Q (_ : Array Value) (s : State) (o : Outcome) (t : State) : Prop := o = .returned (some (.int 1)) ∧ Framed s o t [] 600000 7302250
def lw_Z (below : List Frame) (a : Array Value) (s : State) : State → Prop := fun t => ∃ o, t.status = .running ∧ Ended t below o ∧ lw_Q a s o t
/-- the law's own end, with 1 on the stack, nothing written that was there before, its room as the claim has it -/
theorem lw_ret {p : Program} {l : Launch} {e : Env} {s : State} {m : MethodId} {below : List Frame} {meth : Method} {c : Code} {b : Nat} (hx : p.tables.exec = Jvm.exec) (hb : c.code = code) (hr : meth.sig.returnType = ret) (hlocks : meth.locks = false) {pc : Nat} {H : Heap} {ls : Array Slot} (hdg : decode code pc = .ok (.ireturn, 1)) : W p l e room_1 s m #[Value.ref b] below meth c H [] 600000 7302250 (lw_Z below #[Value.ref b] s) (F0 m pc ls [.int 1]) := by
  intro T hT X
  obtain ⟨fs, hret, hrun, hended, hW, hframe⟩ := X.leave (v := some (.int 1)) (hlocks := hlocks) (fun h => by rw [hr] at h; cases h)
  have hmeth' : T.vm.method? m = some meth := X.method'
  refine ⟨T.setFrames fs, ?_, .returned (some (.int 1)), hrun, hended, rfl, ⟨_, rfl⟩, hW, hframe⟩
  jvm_step X.here [X.here.top, hx, hb, hdg, hmeth', hr, ret, narrow_b1]
  (try refine ⟨rfl, ?_⟩); (try refine ⟨rfl, ?_⟩)
  first | (intro acts; rw [hret _ acts rfl rfl rfl]) | rw [hret _ _ rfl rfl rfl]
  exact Steps.refl _
/-- what holds at the law's entry: the machine, the code, the tables' words (any of lw_tbl by 'hts w (by decide +kernel)'), the script of L ints xs at the cell b, what the Statement gives of the start (any of its parts by flat_of_before) -/
def lw_At (p : Program) (s : State) (m : MethodId) (meth : Method) (c : Code) (b L : Nat) (xs : Nat → Int32) : Prop :=
  p.tables.exec = Jvm.exec ∧ c.code = code ∧ meth.sig.returnType = ret ∧ c.maxLocals = 4 ∧ s.vm.findClass R_law = some m.cls ∧ (∀ w ∈ lw_tbl, w.before #[Value.ref b] s = true) ∧ va_X b L xs s s.heap ∧ b < s.heap.size ∧ meth.locks = false ∧ (Jvm.Cond.and given_1 narrow_1).before #[Value.ref b] s = true
theorem nw_mem : ∀ q ∈ niL, niC q ∈ lw_tbl := by
  intro q hq
  simp only [niL, List.mem_cons, List.not_mem_nil, or_false] at hq
  rcases hq with rfl | rfl | rfl | rfl | rfl | rfl | rfl | rfl | rfl
  · exact List.mem_of_getElem? (i := 92) (by decide +kernel)
  · exact List.mem_of_getElem? (i := 370) (by decide +kernel)
  · exact List.mem_of_getElem? (i := 122) (by decide +kernel)
  · exact List.mem_of_getElem? (i := 140) (by decide +kernel)
  · exact List.mem_of_getElem? (i := 166) (by decide +kernel)
  · exact List.mem_of_getElem? (i := 191) (by decide +kernel)
  · exact List.mem_of_getElem? (i := 260) (by decide +kernel)
  · exact List.mem_of_getElem? (i := 262) (by decide +kernel)
  · exact List.mem_of_getElem? (i := 265) (by decide +kernel)
theorem ao_mem : Jvm.Cond.arrayOver (.object "IceHouse$Sheet") ∈ lw_tbl := List.mem_of_getElem? (i := 368) (by decide +kernel)
theorem ga_82 : Jvm.Cond.classLink RL 7 (rn 10) ∈ TG := tg_at (i := 82) (by decide +kernel)
theorem ga_83 : Jvm.Cond.instantiable (rn 10) (nF 10) ∈ TG := tg_at (i := 83) (by decide +kernel)
theorem ga_84 : Jvm.Cond.methodLink RL 9 yX10_init ∈ TG := tg_at (i := 84) (by decide +kernel)
theorem ga_85 : Jvm.Cond.instanceMethod yX10_init ∈ TG := tg_at (i := 85) (by decide +kernel)
theorem ga_86 : Jvm.Cond.code yX10_init cX10_init 2 none ∈ TG := tg_at (i := 86) (by decide +kernel)
theorem ga_66 : Jvm.Cond.initialized (rn 10) ∈ TG := tg_at (i := 66) (by decide +kernel)
theorem ga_78 : Jvm.Cond.initialized (rn 11) ∈ TG := tg_at (i := 78) (by decide +kernel)
theorem ga_847 : Jvm.Cond.classLink RL 10 (rn 11) ∈ TG := tg_at (i := 847) (by decide +kernel)
theorem ga_848 : Jvm.Cond.instantiable (rn 11) (nF 11) ∈ TG := tg_at (i := 848) (by decide +kernel)
theorem ga_849 : Jvm.Cond.methodLink RL 12 yX11_init ∈ TG := tg_at (i := 849) (by decide +kernel)
theorem ga_850 : Jvm.Cond.instanceMethod yX11_init ∈ TG := tg_at (i := 850) (by decide +kernel)
theorem ga_851 : Jvm.Cond.code yX11_init cX11_init 2 none ∈ TG := tg_at (i := 851) (by decide +kernel)
set_option maxHeartbeats 4000000 in
theorem law_loop {p : Program} {l : Launch} {e : Env} {s : State} {m : MethodId} {below : List Frame} {meth : Method} {c : Code} {b L : Nat} {xs : Nat → Int32} {D : va_G} {ty : ClassId × ClassId} {ad : Nat → Nat} (C : LC p s m c b L xs D ty ad) (hL : L ≤ 3072) (hr : meth.sig.returnType = ret) (hlocks : meth.locks = false) : ∀ (n i : Nat) (g : Sg) (M : Mem) (H : Heap) (locs : List Loc) (ls : Array Slot), L ≤ i + n → i ≤ L + 6 → CI M g → MJ M g → va_P D cls_ (wsM ty ad M) H → va_S (fun q => s.heap.size ≤ q) s.heap H locs → lv_has ls 4 [(3, .int (nI i)), (2, .ref (ad 62)), (1, .ref (ad 0)), (0, .ref b)] → W p l e room_1 s m #[Value.ref b] below meth c H locs 83 4116 (lw_Z below #[Value.ref b] s) (F0 m 18 ls []) := by
  obtain ⟨hx, hb, hml, hown, hts, hX, hbl, hK, hN, hj, hA⟩ := id C
  intro n
  induction n with
  | zero =>
    intro i g M H locs ls hn hi6 hC hM hP hS hl
    refine lv_iload_n hx hb dL_law_18 rfl (lv_at hl 0 rfl) ?_
    refine lv_aload_n hx hb dL_law_19 rfl (lv_at hl 3 rfl) ?_
    refine va_slen hx hb hX hbl (Nat.not_le.mpr hbl) hS dL_law_20 ?_
    refine lv_bipush (v := nI 6) hx hb dL_law_21 (by decide) ?_
    refine lv_isub hx hb dL_law_23 ?_
    refine lv_icmp_gt (tgt := 1315) hx hb dL_law_24 (by decide) (fun _ => ?_) (fun q => absurd ?_ q)
    · refine lv_iconst (v := 1) hx hb dL_law_1315 (by decide) ?_
      refine va_forget (fun q hq => hS.2.2 q hq) ?_
      refine W.widen (k := 600000) (n := 7302250) (Nat.le_of_ble_eq_true rfl) (Nat.le_of_ble_eq_true rfl) ?_
      exact lw_ret hx hb hr hlocks dL_law_1316
    · show nI L - nI 6 < nI i
      by_cases h6 : 6 ≤ L
      · rw [q_sub h6, q_lt (by omega) (by omega)]; omega
      · have h1 := pk_sneg (a := L) (b := 6) (by omega) (by omega)
        rw [Int32.lt_iff_toInt_lt] at h1 ⊢
        rw [nI_toInt (show i < 2 ^ 31 by omega)]
        have : (0 : Int32).toInt = 0 := rfl
        omega
  | succ n ih =>
    intro i g M H locs ls hn hi6 hC hM hP hS hl
    refine lv_iload_n hx hb dL_law_18 rfl (lv_at hl 0 rfl) ?_
    refine lv_aload_n hx hb dL_law_19 rfl (lv_at hl 3 rfl) ?_
    refine va_slen hx hb hX hbl (Nat.not_le.mpr hbl) hS dL_law_20 ?_
    refine lv_bipush (v := nI 6) hx hb dL_law_21 (by decide) ?_
    refine lv_isub hx hb dL_law_23 ?_
    refine lv_icmp_gt (tgt := 1315) hx hb dL_law_24 (by decide) (fun _ => ?_) (fun q => ?_)
    · refine lv_iconst (v := 1) hx hb dL_law_1315 (by decide) ?_
      refine va_forget (fun q hq => hS.2.2 q hq) ?_
      refine W.widen (k := 600000) (n := 7302250) (Nat.le_of_ble_eq_true rfl) (Nat.le_of_ble_eq_true rfl) ?_
      exact lw_ret hx hb hr hlocks dL_law_1316
    · have hi : i + 6 ≤ L := by
        have q : ¬ nI L - nI 6 < nI i := q
        by_cases h6 : 6 ≤ L
        · rw [q_sub h6, q_lt (by omega) (by omega)] at q; omega
        · exfalso
          apply q
          have h1 := pk_sneg (a := L) (b := 6) (by omega) (by omega)
          rw [Int32.lt_iff_toInt_lt] at h1 ⊢
          rw [nI_toInt (show i < 2 ^ 31 by omega)]
          have : (0 : Int32).toInt = 0 := rfl
          omega
      have K : ∀ (g' : Sg) (M' : Mem) (H' : Heap) (locs' : List Loc), CI M' g' → MJ M' g' → va_P D cls_ (wsM ty ad M') H' → va_S (fun q => s.heap.size ≤ q) s.heap H' locs' → W p l e room_1 s m #[Value.ref b] below meth c H' locs' 83 4116 (lw_Z below #[Value.ref b] s) (F0 m 1309 ls []) := by
        intro g' M' H' locs' hC' hM' hP' hS'
        refine lv_iinc (v := nI (i + 6)) (lv' := [(3, .int (nI (i + 6))), (2, .ref (ad 62)), (1, .ref (ad 0)), (0, .ref b)]) hx hb dL_law_1309 hl (k := 0) rfl (by rw [show Int32.ofInt 6 = nI 6 by decide, q_add]) (by decide) rfl (fun ls hl => ?_)
        refine lv_goto (tgt := 18) hx hb dL_law_1312 (by decide) ?_
        exact ih (i + 6) g' M' H' locs' ls (by omega) (by omega) hC' hM' hP' hS' hl
      refine lv_aload_n hx hb dL_law_27 rfl (lv_at hl 3 rfl) ?_
      refine lv_iload_n hx hb dL_law_28 rfl (lv_at hl 0 rfl) ?_
      refine va_sld hx hb hX hbl (Nat.not_le.mpr hbl) hS (i := nI i) (by rw [q_in (by omega) (by omega)]; omega) dL_law_29 ?_
      refine lv_bipush (v := nI 63) hx hb dL_law_30 (by decide) ?_
      refine lv_iand hx hb dL_law_32 ?_
      obtain ⟨j, hj64, ej⟩ := and63 (xs (nI i).toNatClampNeg)
      rw [ej]
      by_cases hj37 : j < 37
      · rcases (show j = 0 ∨ j = 1 ∨ j = 2 ∨ j = 3 ∨ j = 4 ∨ j = 5 ∨ j = 6 ∨ j = 7 ∨ j = 8 ∨ j = 9 ∨ j = 10 ∨ j = 11 ∨ j = 12 ∨ j = 13 ∨ j = 14 ∨ j = 15 ∨ j = 16 ∨ j = 17 ∨ j = 18 ∨ j = 19 ∨ j = 20 ∨ j = 21 ∨ j = 22 ∨ j = 23 ∨ j = 24 ∨ j = 25 ∨ j = 26 ∨ j = 27 ∨ j = 28 ∨ j = 29 ∨ j = 30 ∨ j = 31 ∨ j = 32 ∨ j = 33 ∨ j = 34 ∨ j = 35 ∨ j = 36 by omega) with rfl | rfl | rfl | rfl | rfl | rfl | rfl | rfl | rfl | rfl | rfl | rfl | rfl | rfl | rfl | rfl | rfl | rfl | rfl | rfl | rfl | rfl | rfl | rfl | rfl | rfl | rfl | rfl | rfl | rfl | rfl | rfl | rfl | rfl | rfl | rfl | rfl
        · exact lv_tableIn (tgt := 196) hx hb dL_law_33 (by decide) (by decide) rfl (by decide) (lc_0 C hC hM hi hL hP hS hl K)
        · exact lv_tableIn (tgt := 229) hx hb dL_law_33 (by decide) (by decide) rfl (by decide) (lc_1 C hC hM hi hL hP hS hl K)
        · exact lv_tableIn (tgt := 252) hx hb dL_law_33 (by decide) (by decide) rfl (by decide) (lc_2 C hC hM hi hL hP hS hl K)
        · exact lv_tableIn (tgt := 275) hx hb dL_law_33 (by decide) (by decide) rfl (by decide) (lc_3 C hC hM hi hL hP hS hl K)
        · exact lv_tableIn (tgt := 298) hx hb dL_law_33 (by decide) (by decide) rfl (by decide) (lc_4 C hC hM hi hL hP hS hl K)
        · exact lv_tableIn (tgt := 331) hx hb dL_law_33 (by decide) (by decide) rfl (by decide) (lc_5 C hC hM hi hL hP hS hl K)
        · exact lv_tableIn (tgt := 364) hx hb dL_law_33 (by decide) (by decide) rfl (by decide) (lc_6 C hC hM hi hL hP hS hl K)
        · exact lv_tableIn (tgt := 407) hx hb dL_law_33 (by decide) (by decide) rfl (by decide) (lc_7 C hC hM hi hL hP hS hl K)
        · exact lv_tableIn (tgt := 420) hx hb dL_law_33 (by decide) (by decide) rfl (by decide) (lc_8 C hC hM hi hL hP hS hl K)
        · exact lv_tableIn (tgt := 443) hx hb dL_law_33 (by decide) (by decide) rfl (by decide) (lc_9 C hC hM hi hL hP hS hl K)
        · exact lv_tableIn (tgt := 486) hx hb dL_law_33 (by decide) (by decide) rfl (by decide) (lc_10 C hC hM hi hL hP hS hl K)
        · exact lv_tableIn (tgt := 529) hx hb dL_law_33 (by decide) (by decide) rfl (by decide) (lc_11 C hC hM hi hL hP hS hl K)
        · exact lv_tableIn (tgt := 562) hx hb dL_law_33 (by decide) (by decide) rfl (by decide) (lc_12 C hC hM hi hL hP hS hl K)
        · exact lv_tableIn (tgt := 595) hx hb dL_law_33 (by decide) (by decide) rfl (by decide) (lc_13 C hC hM hi hL hP hS hl K)
        · exact lv_tableIn (tgt := 618) hx hb dL_law_33 (by decide) (by decide) rfl (by decide) (lc_14 C hC hM hi hL hP hS hl K)
        · exact lv_tableIn (tgt := 641) hx hb dL_law_33 (by decide) (by decide) rfl (by decide) (lc_15 C hC hM hi hL hP hS hl K)
        · exact lv_tableIn (tgt := 654) hx hb dL_law_33 (by decide) (by decide) rfl (by decide) (lc_16 C hC hM hi hL hP hS hl K)
        · exact lv_tableIn (tgt := 667) hx hb dL_law_33 (by decide) (by decide) rfl (by decide) (lc_17 C hC hM hi hL hP hS hl K)
        · exact lv_tableIn (tgt := 690) hx hb dL_law_33 (by decide) (by decide) rfl (by decide) (lc_18 C hC hM hi hL hP hS hl K)
        · exact lv_tableIn (tgt := 713) hx hb dL_law_33 (by decide) (by decide) rfl (by decide) (lc_19 C hC hM hi hL hP hS hl K)
        · exact lv_tableIn (tgt := 736) hx hb dL_law_33 (by decide) (by decide) rfl (by decide) (lc_20 C hC hM hi hL hP hS hl K)
        · exact lv_tableIn (tgt := 769) hx hb dL_law_33 (by decide) (by decide) rfl (by decide) (lc_21 C hC hM hi hL hP hS hl K)
        · exact lv_tableIn (tgt := 792) hx hb dL_law_33 (by decide) (by decide) rfl (by decide) (lc_22 C hC hM hi hL hP hS hl K)
        · exact lv_tableIn (tgt := 835) hx hb dL_law_33 (by decide) (by decide) rfl (by decide) (lc_23 C hC hM hi hL hP hS hl K)
        · exact lv_tableIn (tgt := 848) hx hb dL_law_33 (by decide) (by decide) rfl (by decide) (lc_24 C hC hM hi hL hP hS hl K)
        · exact lv_tableIn (tgt := 861) hx hb dL_law_33 (by decide) (by decide) rfl (by decide) (lc_25 C hC hM hi hL hP hS hl K)
        · exact lv_tableIn (tgt := 894) hx hb dL_law_33 (by decide) (by decide) rfl (by decide) (lc_26 C hC hM hi hL hP hS hl K)
        · exact lv_tableIn (tgt := 927) hx hb dL_law_33 (by decide) (by decide) rfl (by decide) (lc_27 C hC hM hi hL hP hS hl K)
        · exact lv_tableIn (tgt := 971) hx hb dL_law_33 (by decide) (by decide) rfl (by decide) (lc_28 C hC hM hi hL hP hS hl K)
        · exact lv_tableIn (tgt := 1014) hx hb dL_law_33 (by decide) (by decide) rfl (by decide) (lc_29 C hC hM hi hL hP hS hl K)
        · exact lv_tableIn (tgt := 1057) hx hb dL_law_33 (by decide) (by decide) rfl (by decide) (lc_30 C hC hM hi hL hP hS hl K)
        · exact lv_tableIn (tgt := 1080) hx hb dL_law_33 (by decide) (by decide) rfl (by decide) (lc_31 C hC hM hi hL hP hS hl K)
        · exact lv_tableIn (tgt := 1133) hx hb dL_law_33 (by decide) (by decide) rfl (by decide) (lc_32 C hC hM hi hL hP hS hl K)
        · exact lv_tableIn (tgt := 1176) hx hb dL_law_33 (by decide) (by decide) rfl (by decide) (lc_33 C hC hM hi hL hP hS hl K)
        · exact lv_tableIn (tgt := 1239) hx hb dL_law_33 (by decide) (by decide) rfl (by decide) (lc_34 C hC hM hi hL hP hS hl K)
        · exact lv_tableIn (tgt := 1272) hx hb dL_law_33 (by decide) (by decide) rfl (by decide) (lc_35 C hC hM hi hL hP hS hl K)
        · exact lv_tableIn (tgt := 1295) hx hb dL_law_33 (by decide) (by decide) rfl (by decide) (lc_36 C hC hM hi hL hP hS hl K)
      · refine lv_tableOut (tgt := 1309) hx hb dL_law_33 (by rw [nI_toInt (by omega)]; omega) (by decide) ?_
        exact K g M H locs hC hM hP hS
set_option maxHeartbeats 4000000 in
set_option maxRecDepth 100000 in
/-- the law, from its entry -/
theorem whole_start {p : Program} {e : Env} {s : State} {m : MethodId} {below : List Frame} {meth : Method} {c : Code} (l : Launch) {b L : Nat} {xs : Nat → Int32} (hL : L ≤ 3072) (C0 : lw_At p s m meth c b L xs) : W p l e room_1 s m #[Value.ref b] below meth c s.heap [] 0 0 (lw_Z below #[Value.ref b] s) (entryFrame m ([Value.ref b] : List Value).toArray 4) := by
  obtain ⟨hx, hb, hr, hml, hown, hts0, hX, hbl, hlocks, hgv⟩ := id C0
  have hts : ∀ w ∈ TG, w.before #[Value.ref b] s = true := lw_tbl_good hts0
  have hA : ∀ q : Nat, s.heap.size ≤ q → (fun q : Nat => s.heap.size ≤ q) q := fun _ h => h
  have kn : ∀ k, k < 12 → ∃ (cC : ClassId) (iS : Nat → Nat), u_Kn s (rn k) (tT k) (nF k) cC iS := by
    intro k hk
    match k, hk with
    | 0, _ => exact u_known (n := nF 0) hts (layT 0 (by decide)) (hts _ (tg_at (i := 91) (by decide +kernel)))
    | 1, _ => exact u_known (n := nF 1) hts (layT 1 (by decide)) (hts _ (tg_at (i := 165) (by decide +kernel)))
    | 2, _ => exact u_known (n := nF 2) hts (layT 2 (by decide)) (hts _ (tg_at (i := 139) (by decide +kernel)))
    | 3, _ => exact u_known (n := nF 3) hts (layT 3 (by decide)) (hts _ (tg_at (i := 248) (by decide +kernel)))
    | 4, _ => exact u_known (n := nF 4) hts (layT 4 (by decide)) (hts _ (tg_at (i := 190) (by decide +kernel)))
    | 5, _ => exact u_known (n := nF 5) hts (layT 5 (by decide)) (hts _ (tg_at (i := 369) (by decide +kernel)))
    | 6, _ => exact u_known (n := nF 6) hts (layT 6 (by decide)) (hts _ (tg_at (i := 121) (by decide +kernel)))
    | 7, _ => exact u_known (n := nF 7) hts (layT 7 (by decide)) (hts _ (tg_at (i := 254) (by decide +kernel)))
    | 8, _ => exact u_known (n := nF 8) hts (layT 8 (by decide)) (hts _ (tg_at (i := 97) (by decide +kernel)))
    | 9, _ => exact u_known (n := nF 9) hts (layT 9 (by decide)) (hts _ (tg_at (i := 264) (by decide +kernel)))
    | 10, _ => exact u_known (n := nF 10) hts (layT 10 (by decide)) (hts _ ga_83)
    | 11, _ => exact u_known (n := nF 11) hts (layT 11 (by decide)) (hts _ ga_848)
  obtain ⟨D, hKc⟩ : ∃ D : va_G, ∀ (k : Nat) (q : vw_C), cls_[k]? = some q → u_Kn s q.1 q.2.1 q.2.2 (D.1 k) (D.2 k) := by
    refine ⟨(fun k => if hk : k < 12 then Classical.choose (kn k hk) else 0, fun k => if hk : k < 12 then Classical.choose (Classical.choose_spec (kn k hk)) else fun _ => 0), fun k q hq => ?_⟩
    have hk : k < 12 := (List.getElem?_eq_some_iff.mp hq).1
    rw [clsT k hk] at hq
    cases hq
    dsimp only
    rw [dif_pos hk, dif_pos hk]
    exact Classical.choose_spec (Classical.choose_spec (kn k hk))
  obtain ⟨cI', kI, compI, f1, f2, f3⟩ := Cond.arrayClass_spec (hts _ tg_arr)
  obtain ⟨compO, cO, kO, o1, o2, o3, o4, o5⟩ := Cond.arrayOver_spec (hts0 _ ao_mem)
  have hK : va_K D cls_ (tyL (cI', cO)) s := by
    refine ⟨hKc, fun k q hq => ?_⟩
    match k, hq with
    | 0, hq => cases hq; exact ⟨fun n z => ⟨fun k h => (by cases h), kI, f2, compI, f3⟩, f1⟩
    | 1, hq => cases hq; exact ⟨fun n z => ⟨fun k h => (by cases h), kO, o3, compO, o4⟩, kO, compO, o3, o4, o1, o5⟩
    | k + 2, hq => simp [tyL] at hq
  have hNI : NI s := ⟨fun q hq => va_Nw.of rfl (hts0 _ (nw_mem q hq)), va_AO.of (hts0 _ ao_mem)⟩
  have hNu : ∀ q ∈ nuL, va_Nw (nuC q) s := fun q hq => va_Nw.of rfl (hts0 _ (nu_in q hq))
  generalize hty : ((cI', cO) : ClassId × ClassId) = ty at hK
  have hS : va_S (fun q : Nat => s.heap.size ≤ q) s.heap s.heap [] := va_S.rf
  have hP : va_P D cls_ [] s.heap := fun k q h => by simp at h
  have hD : va_D (fun q : Nat => s.heap.size ≤ q) [] := ⟨fun i j p q h => by simp at h, fun k q h => by simp at h⟩
  have hl := lv_entry ([.ref b]) (n := 4) (Nat.le_of_ble_eq_true rfl)
  rw [lg_entry_eq]
  generalize (lg_sl ([.ref b]) ++ List.replicate (4 - (lg_sl ([.ref b])).length) Slot.unset).toArray = ls at hl ⊢
  have hl : lv_has ls 4 [(0, .ref b)] := hl
  refine va_new (ci := 10) (fs := [.null, .null, .null, .null, .int 0, .int 0]) (C := rn 10) (T := tT 10) (N := nF 10) hx hb hts (layT 10 (by decide)) (tyT 10) (tyT_ok 10 (by decide)) hown (hts _ ga_82) (hts _ ga_83) (hts _ ga_66) hK hP hD hS hA (clsT 10 (by decide)) (fun j hj => by match j, hj with | 0, _ => rfl | 1, _ => rfl | 2, _ => rfl | 3, _ => rfl | 4, _ => rfl | 5, _ => rfl) (Nat.le_of_ble_eq_true rfl) (Nat.le_of_ble_eq_true rfl) dL_law_0 (fun x H hP hD hS => ?_)
  refine W.widen (k := 1) (n := 6) (Nat.le_of_ble_eq_true rfl) (Nat.le_of_ble_eq_true rfl) ?_
  refine lv_dup hx hb dL_law_3 rfl ?_
  refine my_init (n := 0) (F := fw_10 ty x) (wr := []) (q := x) (As := []) (rest := [.ref x]) hx hb hml hown hts hK hNI hP hD hS hA (k_10 l D ty x H.size) ga_86 ga_84 ga_66 ga_85 rfl ⟨by decide, by decide, by decide +kernel⟩ ⟨Nat.le_of_ble_eq_true rfl, Nat.le_of_ble_eq_true rfl⟩ ⟨Nat.le_of_ble_eq_true rfl, Nat.le_of_ble_eq_true rfl⟩ rfl hl.1 (Nat.le_of_ble_eq_true rfl) dL_law_4 (fun u H locs hP hD hS => ?_)
  have hP : va_P D cls_ (fw_10 ty x u) H := hP
  have hD : va_D (fun q : Nat => s.heap.size ≤ q) (fw_10 ty x u) := hD
  refine W.widen (k := 62) (n := 2193) (Nat.le_of_ble_eq_true rfl) (Nat.le_of_ble_eq_true rfl) ?_
  refine lv_astore_n (lv' := [(1, .ref x), (0, .ref b)]) hx hb dL_law_7 rfl hl (by decide) rfl (fun ls hl => ?_)
  refine va_new (ci := 11) (fs := [.null, .null, .null, .null, .int 0, .null, .null, .null, .null, .int 0, .null, .int 0, .null, .int 0, .int 0, .int 0, .int 0, .null, .null, .null, .null, .null, .null, .null, .int 0, .null, .null, .int 0, .null]) (C := rn 11) (T := tT 11) (N := nF 11) hx hb hts (layT 11 (by decide)) (tyT 11) (tyT_ok 11 (by decide)) hown (hts _ ga_847) (hts _ ga_848) (hts _ ga_78) hK hP hD hS hA (clsT 11 (by decide)) (fun j hj => by match j, hj with | 0, _ => rfl | 1, _ => rfl | 2, _ => rfl | 3, _ => rfl | 4, _ => rfl | 5, _ => rfl | 6, _ => rfl | 7, _ => rfl | 8, _ => rfl | 9, _ => rfl | 10, _ => rfl | 11, _ => rfl | 12, _ => rfl | 13, _ => rfl | 14, _ => rfl | 15, _ => rfl | 16, _ => rfl | 17, _ => rfl | 18, _ => rfl | 19, _ => rfl | 20, _ => rfl | 21, _ => rfl | 22, _ => rfl | 23, _ => rfl | 24, _ => rfl | 25, _ => rfl | 26, _ => rfl | 27, _ => rfl | 28, _ => rfl | j + 29, h => exact absurd h (by show ¬ (j + 29 < 29); omega)) (Nat.le_of_ble_eq_true rfl) (Nat.le_of_ble_eq_true rfl) dL_law_8 (fun y H hP hD hS => ?_)
  refine W.widen (k := 63) (n := 2222) (Nat.le_of_ble_eq_true rfl) (Nat.le_of_ble_eq_true rfl) ?_
  refine lv_dup hx hb dL_law_11 rfl ?_
  refine my_init (n := 0) (F := fw_11 ty y) (wr := fw_10 ty x u) (q := y) (As := []) (rest := [.ref y]) hx hb hml hown hts hK hNI hP hD hS hA (k_11 l D ty y H.size) ga_851 ga_849 ga_78 ga_850 rfl ⟨by decide, by decide, by decide +kernel⟩ ⟨Nat.le_of_ble_eq_true rfl, Nat.le_of_ble_eq_true rfl⟩ ⟨Nat.le_of_ble_eq_true rfl, Nat.le_of_ble_eq_true rfl⟩ rfl hl.1 (Nat.le_of_ble_eq_true rfl) dL_law_12 (fun f H locs hP hD hS => ?_)
  refine W.widen (k := 83) (n := 4116) (Nat.le_of_ble_eq_true rfl) (Nat.le_of_ble_eq_true rfl) ?_
  rw [start_ws] at hP hD
  have hj : inj (ad0 x y u f) := fun i j hi hj he => hD.1 i j _ _ (wsM_at hi) (wsM_at hj) he
  have hAd : ∀ k, k < NC → s.heap.size ≤ ad0 x y u f k := fun k hk => hD.2 k _ (wsM_at hk)
  refine lv_astore_n (lv' := [(2, .ref y), (1, .ref x), (0, .ref b)]) hx hb dL_law_15 rfl hl (by decide) rfl (fun ls hl => ?_)
  refine lv_iconst (v := nI 0) hx hb dL_law_16 (by decide) ?_
  refine lv_istore_n (lv' := [(3, .int (nI 0)), (2, .ref y), (1, .ref x), (0, .ref b)]) hx hb dL_law_17 rfl hl (by decide) rfl (fun ls hl => ?_)
  exact law_loop (ad := ad0 x y u f) ⟨hx, hb, hml, hown, hts, hX, hbl, hK, hNu, hj, hAd⟩ hL hr hlocks L 0 g0 M0 H locs ls (by omega) (by omega) start_CI start_MJ hP hS hl
