/-! MAKING THE OBJECTS: rows over the machine -/
def niL : List (String × Nat × MethodName) := [(RX10, 9, yX0_init), (RX10, 40, yX5_init), (RX0, 25, yX6_init), (RX0, 32, yX2_init), (RX0, 39, yX1_init), (RX0, 46, yX4_init), (RX7, 11, yX6_init), (RX7, 20, yX2_init), (RX7, 27, yX9_init)]
def niC (q : String × Nat × MethodName) : Jvm.Cond := .methodLinkNest q.1 q.2.1 q.2.2 "IceHouse"
def NI (U : State) : Prop := (∀ q ∈ niL, va_Nw (niC q) U) ∧ va_AO "IceHouse$Sheet" U
def PcI (D : va_G) (ty : ClassId × ClassId) (as : List Value) (sz : Nat) (w : va_W) : Array Value → State → Prop := va_Pc as (fun U => U.heap.size = sz ∧ va_P D cls_ w U.heap ∧ va_K D cls_ (tyL ty) U ∧ NI U)
def QcI {S : Type} (D : va_G) (F : S → va_W) (w : va_W) (sz : Nat) : Array Value → State → Outcome → State → Prop := va_Qv (fun _ : S => True) (fun f t => va_P D cls_ (F f) t.heap ∧ va_D (va_A w sz) (F f)) (va_A w sz)
theorem PcI_blind {D : va_G} {ty : ClassId × ClassId} {as : List Value} {sz : Nat} {w : va_W} : FrameBlind (PcI D ty as sz w) := by
  intro a U g mk q
  obtain ⟨q0, q1, qP, qK, qN, qA⟩ := q
  exact ⟨q0, q1, qP, va_K.moved (u := U) (U := U.calling g mk a) (Vm.Alike.refl U.vm) qK, fun w hw => va_Nw.same (u := U) (U := U.calling g mk a) rfl rfl (qN w hw), va_AO.moved (u := U) (U := U.calling g mk a) (Vm.Alike.refl U.vm) qA⟩
theorem PcI_at {D : va_G} {ty : ClassId × ClassId} {as : List Value} {w : va_W} {s : State} {H : Heap} (hK : va_K D cls_ (tyL ty) s) (hN : NI s) (hP : va_P D cls_ w H) (U : State) (hU : U.heap = H) (hW : s.WarmedH U.vm) : PcI D ty as H.size w as.toArray U :=
  ⟨rfl, by rw [hU], by rw [hU]; exact hP, va_K.moved hW.alike hK, fun w hw => va_Nw.warmM hW (hN.1 w hw), va_AO.moved hW.alike hN.2⟩
theorem D1 {w : Nat × va_E} {sz : Nat} : va_D (va_A [w] sz) [w] := by
  have h0 : ∀ (i : Nat) (p : Nat × va_E), [w][i]? = some p → i = 0 ∧ p = w := fun i p h => by
    match i, h with
    | 0, h => cases h; exact ⟨rfl, rfl⟩
    | i + 1, h => simp at h
  exact ⟨fun i j p q hi hj _ => by rw [(h0 i p hi).1, (h0 j q hj).1], fun k q hk => va_A.in hk⟩
theorem nd_of : ∀ {l : List Nat}, l.Nodup → va_nd l = true
  | [], _ => rfl
  | a :: l, h => by
    rw [List.nodup_cons] at h
    show (decide (a ∉ l) && va_nd l) = true
    rw [decide_eq_true h.1, nd_of h.2]; rfl
section MR
variable {p : Program} {l : Launch} {e : Env} {R : Room} {s : State} {m : MethodId} {args : Array Value} {below : List Frame} {meth : Method} {c0 : Code} {H H0 : Heap} {locs : List Loc} {cells slots : Nat} {Q : State → Prop} {D : va_G} {ty : ClassId × ClassId} {A : Nat → Prop} {pc : Nat} {ls : Array Slot} {rest : List Value} {cc : ByteArray} {own : String} {nL : Nat} {ws : va_W}
theorem ty_int {cA : ClassId} (hK : va_K D cls_ (tyL ty) s) (h : va_RA s cA .int) : cA = ty.1 := by
  have h1 : va_RA s ty.1 .int := (hK.2 0 (ty.1, .int) rfl).2
  have h1 : s.vm.findClass _ = some ty.1 := h1
  have h : s.vm.findClass _ = some cA := h
  rw [h1] at h
  exact (Option.some.inj h).symm
theorem ty_obj {cA : ClassId} (hK : va_K D cls_ (tyL ty) s) (h : va_RA s cA (.object "IceHouse$Sheet")) : cA = ty.2 := by
  have h1 : va_RA s ty.2 (.object "IceHouse$Sheet") := (hK.2 1 (ty.2, .object "IceHouse$Sheet") rfl).2
  obtain ⟨-, -, -, -, -, h1⟩ := h1
  obtain ⟨-, -, -, -, -, h⟩ := h
  rw [h1] at h
  exact (Option.some.inj h).symm
theorem tg_arr : Jvm.Cond.arrayClass .int ∈ TG := tg_at (i := 119) (by decide +kernel)
theorem my_newa (hx : p.tables.exec = Jvm.exec) (hb : c0.code = cc) (hts : ∀ w ∈ TG, w.before args s = true) (hK : va_K D cls_ (tyL ty) s) (hP : va_P D cls_ ws H) (hD : va_D A ws) (hS : va_S A H0 H locs) (hA : ∀ q, H0.size ≤ q → A q) {x : Int32} {n : Nat} (hxn : x = nI n) (hn : n < 2 ^ 20) (hcells : cells + 1 ≤ R.cells) (hslots : slots + n ≤ R.slots) (hdg : decode cc pc = .ok (.newarray .int, 2))
    (kk : ∀ (q : Nat) (H1 : Heap), va_P D cls_ (ws ++ [(q, .inl (ty.1, n, .inl (fun _ => 0)))]) H1 → va_D A (ws ++ [(q, .inl (ty.1, n, .inl (fun _ => 0)))]) → va_S A H0 H1 locs → W p l e R s m args below meth c0 H1 locs (cells + 1) (slots + n) Q (F0 m (pc + 2) ls (.ref q :: rest))) : W p l e R s m args below meth c0 H locs cells slots Q (F0 m pc ls (.int x :: rest)) := by
  subst hxn
  refine va_newa (atype := .int) (a0 := (n, .inl (fun _ => 0))) hx hb (hts _ tg_arr) rfl hK hP hD hS hA (fun cA => rfl) ?_ (nI_clamp (by omega)) ?_ hcells hslots hdg (fun q cA H1 hK1 hP1 hD1 hS1 => ?_)
  · rw [← nI_0, q_lt (by omega) (by omega)]; omega
  · show n * 4 ≤ 536870912
    omega
  · have hc : cA = ty.1 := ty_int hK (hK1.2 2 (cA, .int) rfl).2
    subst hc
    exact kk q H1 hP1 hD1 hS1
theorem my_newq (hx : p.tables.exec = Jvm.exec) (hb : c0.code = cc) (hown : s.vm.findClass own = some m.cls) {idx : Nat} (hlk : (Cond.classLink own idx "IceHouse$Sheet").before args s = true) (hN : NI s) (hK : va_K D cls_ (tyL ty) s) (hP : va_P D cls_ ws H) (hD : va_D A ws) (hS : va_S A H0 H locs) (hA : ∀ q, H0.size ≤ q → A q) {x : Int32} {n : Nat} (hxn : x = nI n) (hn : n < 2 ^ 20) (hcells : cells + 1 ≤ R.cells) (hslots : slots + n ≤ R.slots) (hdg : decode cc pc = .ok (.anewarray idx, 3))
    (kk : ∀ (q : Nat) (H1 : Heap), va_P D cls_ (ws ++ [(q, .inl (ty.2, n, .inr (.inr (.inr (.inr (fun _ => none))))))]) H1 → va_D A (ws ++ [(q, .inl (ty.2, n, .inr (.inr (.inr (.inr (fun _ => none))))))]) → va_S A H0 H1 locs → W p l e R s m args below meth c0 H1 locs (cells + 1) (slots + n) Q (F0 m (pc + 3) ls (.ref q :: rest))) : W p l e R s m args below meth c0 H locs cells slots Q (F0 m pc ls (.int x :: rest)) := by
  subst hxn
  refine va_newq hx hb hown hlk hN.2 hK hP hD hS hA ?_ (nI_clamp (by omega)) (by omega) hcells hslots hdg (fun q cA H1 hK1 hP1 hD1 hS1 => ?_)
  · rw [← nI_0, q_lt (by omega) (by omega)]; omega
  · have hc : cA = ty.2 := ty_obj hK (hK1.2 2 (cA, .object "IceHouse$Sheet") rfl).2
    subst hc
    exact kk q H1 hP1 hD1 hS1
theorem good_c {w : Jvm.Cond} (h : w ∈ TG) : GoodIn TG (w :: TG) := by
  intro v hv
  rcases List.mem_cons.mp hv with rfl | hv
  · exact tg_good h
  · exact tg_good hv
/-- a constructor of a nest mate, private; its object lies last in the world -/
theorem my_initN {y : MethodName} {bytes : ByteArray} {maxL fr lo mc ms n idx q : Nat} {wr : va_W} {e0 : va_E} {S : Type} {F : S → va_W} {As : List Value} (hx : p.tables.exec = Jvm.exec) (hb : c0.code = cc) (hml : c0.maxLocals = nL) (hown : s.vm.findClass own = some m.cls) (hts : ∀ w ∈ TG, w.before args s = true) (hK : va_K D cls_ (tyL ty) s) (hN : NI s) (hP : va_P D cls_ (wr ++ [(q, e0)]) H) (hD : va_D A (wr ++ [(q, e0)])) (hS : va_S A H0 H locs) (hA : ∀ q, H0.size ≤ q → A q)
    (hM : Met l y (Cond.code y bytes maxL none :: TG) { frames := fr, cells := mc, slots := ms, locals := lo } (PcI D ty (.ref q :: As) H.size [(q, e0)]) (QcI D F [(q, e0)] H.size) mc ms (va_A [(q, e0)] H.size))
    (hc : Cond.code y bytes maxL none ∈ TG) (hl : (own, idx, y) ∈ niL) (hini : Cond.initialized y.cls ∈ TG) (hins : Cond.instanceMethod y ∈ TG) (hy : y.name = "<init>") (hyd : y.cls ≠ "java/lang/invoke/MethodHandle" ∧ y.cls ≠ "java/lang/invoke/VarHandle" ∧ (parseMethodDescriptor y.desc).map (fun d => d.parameters.length) = some n) (hR : fr + 1 ≤ R.frames ∧ 8 + (maxL + 11) + lo ≤ R.locals) (hcs : cells + mc ≤ R.cells ∧ slots + ms ≤ R.slots) (hnA : As.length = n) (hls : ls.size = nL) (hrm : (rest.map fun v => v.category).sum ≤ 8) (hdg : decode cc pc = .ok (.invokespecial idx, 3))
    (kk : ∀ (f : S) (H1 : Heap) (locs1 : List Loc), va_P D cls_ (wr ++ F f) H1 → va_D A (wr ++ F f) → va_S A H0 H1 locs1 → W p l e R s m args below meth c0 H1 locs1 (cells + mc) (slots + ms) Q (F0 m (pc + 3) ls rest)) : W p l e R s m args below meth c0 H locs cells slots Q (F0 m pc ls (As.reverse ++ .ref q :: rest)) := by
  have hC : [wr.length].map (fun i => (wr ++ [(q, e0)])[i]?) = [(q, e0)].map some := by simp
  have hRr : (List.range wr.length).map (fun i => (wr ++ [(q, e0)])[i]?) = wr.map some := by
    apply List.ext_getElem?
    intro i
    rw [List.getElem?_map, List.getElem?_map]
    by_cases hi : i < wr.length
    · rw [List.getElem?_range hi, Option.map_some, List.getElem?_append_left hi, List.getElem?_eq_getElem hi]; rfl
    · rw [List.getElem?_eq_none (by simpa using hi), List.getElem?_eq_none (by omega)]; rfl
  have hnd : va_nd (List.range wr.length) = true := nd_of List.nodup_range
  have hPc : va_P D cls_ [(q, e0)] H := hP.sub [wr.length] (by simp)
  have hFc := va_free (wc := [(q, e0)]) hD hS hA [wr.length] hC
  refine va_callv (va_runIN (As := As) (rest := rest) ⟨hx, hb, hml, hown, hts⟩ hM ⟨va_cnB n hts (good_c hc) rfl rfl rfl (hN.1 _ hl) (hts _ hini) hyd hR, hy, hts _ hins⟩ ⟨PcI_blind, fun U hU hW => PcI_at hK hN hPc U hU hW⟩ rfl hnA hls rfl (lv_room hrm) hdg hcs) hS (fun q _ h => hFc q h) hFc (fun u t H1 locs ht hvm hw hB hz1 hk1 hS => ?_)
  obtain ⟨hP1, hD1⟩ := hB
  rw [ht] at hP1
  obtain ⟨hP, hD⟩ := va_join (wr := wr) (w1 := F u) hP hD [wr.length] (List.range wr.length) hC hRr hnd (fun i hi => by rw [List.mem_range] at hi; simp; omega) hk1 hFc hP1 hD1
  exact kk u H1 locs hP hD hS
/-- a constructor that anyone in the package may call -/
theorem my_init {y : MethodName} {bytes : ByteArray} {maxL fr lo mc ms n idx q : Nat} {wr : va_W} {e0 : va_E} {S : Type} {F : S → va_W} {As : List Value} (hx : p.tables.exec = Jvm.exec) (hb : c0.code = cc) (hml : c0.maxLocals = nL) (hown : s.vm.findClass own = some m.cls) (hts : ∀ w ∈ TG, w.before args s = true) (hK : va_K D cls_ (tyL ty) s) (hN : NI s) (hP : va_P D cls_ (wr ++ [(q, e0)]) H) (hD : va_D A (wr ++ [(q, e0)])) (hS : va_S A H0 H locs) (hA : ∀ q, H0.size ≤ q → A q)
    (hM : Met l y (Cond.code y bytes maxL none :: TG) { frames := fr, cells := mc, slots := ms, locals := lo } (PcI D ty (.ref q :: As) H.size [(q, e0)]) (QcI D F [(q, e0)] H.size) mc ms (va_A [(q, e0)] H.size))
    (hc : Cond.code y bytes maxL none ∈ TG) (hl : Cond.methodLink own idx y ∈ TG) (hini : Cond.initialized y.cls ∈ TG) (hins : Cond.instanceMethod y ∈ TG) (hy : y.name = "<init>") (hyd : y.cls ≠ "java/lang/invoke/MethodHandle" ∧ y.cls ≠ "java/lang/invoke/VarHandle" ∧ (parseMethodDescriptor y.desc).map (fun d => d.parameters.length) = some n) (hR : fr + 1 ≤ R.frames ∧ 8 + (maxL + 11) + lo ≤ R.locals) (hcs : cells + mc ≤ R.cells ∧ slots + ms ≤ R.slots) (hnA : As.length = n) (hls : ls.size = nL) (hrm : (rest.map fun v => v.category).sum ≤ 8) (hdg : decode cc pc = .ok (.invokespecial idx, 3))
    (kk : ∀ (f : S) (H1 : Heap) (locs1 : List Loc), va_P D cls_ (wr ++ F f) H1 → va_D A (wr ++ F f) → va_S A H0 H1 locs1 → W p l e R s m args below meth c0 H1 locs1 (cells + mc) (slots + ms) Q (F0 m (pc + 3) ls rest)) : W p l e R s m args below meth c0 H locs cells slots Q (F0 m pc ls (As.reverse ++ .ref q :: rest)) := by
  have hC : [wr.length].map (fun i => (wr ++ [(q, e0)])[i]?) = [(q, e0)].map some := by simp
  have hRr : (List.range wr.length).map (fun i => (wr ++ [(q, e0)])[i]?) = wr.map some := by
    apply List.ext_getElem?
    intro i
    rw [List.getElem?_map, List.getElem?_map]
    by_cases hi : i < wr.length
    · rw [List.getElem?_range hi, Option.map_some, List.getElem?_append_left hi, List.getElem?_eq_getElem hi]; rfl
    · rw [List.getElem?_eq_none (by simpa using hi), List.getElem?_eq_none (by omega)]; rfl
  have hnd : va_nd (List.range wr.length) = true := nd_of List.nodup_range
  have hPc : va_P D cls_ [(q, e0)] H := hP.sub [wr.length] (by simp)
  have hFc := va_free (wc := [(q, e0)]) hD hS hA [wr.length] hC
  refine va_callv (va_runI (As := As) (rest := rest) ⟨hx, hb, hml, hown, hts⟩ hM (cwI n hts (good_c hc) rfl rfl rfl (hts _ hini) (hts _ hl) (hts _ hins) hy hyd hR) ⟨PcI_blind, fun U hU hW => PcI_at hK hN hPc U hU hW⟩ rfl hnA hls rfl (lv_room hrm) hdg hcs) hS (fun q _ h => hFc q h) hFc (fun u t H1 locs ht hvm hw hB hz1 hk1 hS => ?_)
  obtain ⟨hP1, hD1⟩ := hB
  rw [ht] at hP1
  obtain ⟨hP, hD⟩ := va_join (wr := wr) (w1 := F u) hP hD [wr.length] (List.range wr.length) hC hRr hnd (fun i hi => by rw [List.mem_range] at hi; simp; omega) hk1 hFc hP1 hD1
  exact kk u H1 locs hP hD hS
end MR
