/-! the constructors, written by wip/whole/congen.py -/
def fw_6 (ty : ClassId × ClassId) (h0 : Nat) (f : List Nat) : va_W := [(h0, .inr (6, [.ref (f.getD 0 0), .ref (f.getD 1 0)])), ((f.getD 0 0), .inl (ty.1, 36, .inl (fun _ => 0))), ((f.getD 1 0), .inl (ty.1, 6, .inl (fun _ => 0)))]
set_option maxHeartbeats 4000000 in
set_option maxRecDepth 100000 in
theorem k_6 (l : Launch) (D : va_G) (ty : ClassId × ClassId) (h0 sz : Nat) : Met l yX6_init (Cond.code yX6_init cX6_init 1 none :: TG) { frames := 1, cells := 2, slots := 42, locals := 16 } (PcI D ty [.ref h0] sz [(h0, .inr (6, [.null, .null]))]) (QcI D (fw_6 ty h0) [(h0, .inr (6, [.null, .null]))] sz) 2 42 (va_A [(h0, .inr (6, [.null, .null]))] sz) := by
  refine Met.ofW (cc := cX6_init) (maxL := 1) (ret := none) (by decide) rfl ?_
  intro p e s m args below meth c s₁ B hml hv
  obtain ⟨rfl, hsz, hP, hK, hN⟩ := hv
  have hx := B.exec
  have hb := B.bytes
  have hr := B.returns
  have hts0 := atoms_spec (ws := Cond.code yX6_init cX6_init 1 none :: TG) B.pre
  have hts : ∀ w ∈ TG, w.before _ s = true := fun w hw => hts0 w (List.mem_cons_of_mem _ hw)
  have hown : s.vm.findClass RX6 = some m.cls := findClass_of_methodNamed B.named
  have hlocks := B.notSynchronized
  have hin : meth.name = "<init>" := (name_of_methodNamed B.named B.method).1
  subst hsz
  have hD := D1 (w := (h0, .inr (6, [.null, .null]))) (sz := s.heap.size)
  unfold QcI
  generalize hAe : va_A [(h0, .inr (6, [.null, .null]))] s.heap.size = A at hD ⊢
  have hA : ∀ q : Nat, s.heap.size ≤ q → A q := fun q h => by rw [← hAe]; exact Or.inr h
  have hS : va_S A s.heap s.heap [] := va_S.rf
  have hP : va_P D cls_ [(h0, .inr (6, [.null, .null]))] s.heap := hP
  have hl := lv_entry ([.ref h0]) (n := 1) (Nat.le_of_ble_eq_true rfl)
  rw [lg_entry_eq]
  generalize (lg_sl ([.ref h0]) ++ List.replicate (1 - (lg_sl ([.ref h0])).length) Slot.unset).toArray = ls at hl ⊢
  have hl : lv_has ls 1 [(0, .ref h0)] := hl
  refine lv_aload_n hx hb dX6_init_0 rfl (lv_at hl 0 rfl) ?_
  refine W.objInit hx hb hown (hts _ gc_125) (hts _ gc_88) (hts _ gc_89) rfl (by rw [hml]; exact hl.1) rfl dX6_init_1 (Nat.le_of_ble_eq_true rfl) (Nat.le_of_ble_eq_true rfl) ?_
  refine W.eq (g2 := F0 m 4 ls []) rfl ?_
  refine lv_aload_n hx hb dX6_init_4 rfl (lv_at hl 0 rfl) ?_
  refine lv_bipush (v := nI 36) hx hb dX6_init_5 (by decide) ?_
  refine my_newa hx hb hts hK hP hD hS hA (n := 36) rfl (by decide) (Nat.le_of_ble_eq_true rfl) (Nat.le_of_ble_eq_true rfl) dX6_init_7 (fun q0 H hP hD hS => ?_)
  have hP : va_P D cls_ [(h0, .inr (6, [.null, .null])), (q0, .inl (ty.1, 36, .inl (fun _ => 0)))] H := hP
  have hD : va_D A [(h0, .inr (6, [.null, .null])), (q0, .inl (ty.1, 36, .inl (fun _ => 0)))] := hD
  refine W.widen (k := 1) (n := 36) (Nat.le_of_ble_eq_true rfl) (Nat.le_of_ble_eq_true rfl) ?_
  refine va_putF (D := D) (ci := 6) (v := .ref q0) (ty := tyT 6 0) (C := rn 6) (T := tT 6) (N := nF 6) (ref := rn 6) hx hb hts (layT 6 (by decide)) (tyT 6) (tyT_ok 6 (by decide)) (nmT_ok 6 (by decide)) hown hK hP hD hS 0 rfl (clsT 6 (by decide)) 0 (by decide) (hts _ gc_126) (fun _ h9 => h9) rfl hin rfl (tyT_ok 6 (by decide) 0 (by decide)) rfl rfl (Nat.le_of_ble_eq_true rfl) dX6_init_9 (fun H locs hP hD hS => ?_)
  have hP : va_P D cls_ [(h0, .inr (6, [.ref q0, .null])), (q0, .inl (ty.1, 36, .inl (fun _ => 0)))] H := hP
  have hD : va_D A [(h0, .inr (6, [.ref q0, .null])), (q0, .inl (ty.1, 36, .inl (fun _ => 0)))] := hD
  refine lv_aload_n hx hb dX6_init_12 rfl (lv_at hl 0 rfl) ?_
  refine lv_bipush (v := nI 6) hx hb dX6_init_13 (by decide) ?_
  refine my_newa hx hb hts hK hP hD hS hA (n := 6) rfl (by decide) (Nat.le_of_ble_eq_true rfl) (Nat.le_of_ble_eq_true rfl) dX6_init_15 (fun q1 H hP hD hS => ?_)
  have hP : va_P D cls_ [(h0, .inr (6, [.ref q0, .null])), (q0, .inl (ty.1, 36, .inl (fun _ => 0))), (q1, .inl (ty.1, 6, .inl (fun _ => 0)))] H := hP
  have hD : va_D A [(h0, .inr (6, [.ref q0, .null])), (q0, .inl (ty.1, 36, .inl (fun _ => 0))), (q1, .inl (ty.1, 6, .inl (fun _ => 0)))] := hD
  refine W.widen (k := 2) (n := 42) (Nat.le_of_ble_eq_true rfl) (Nat.le_of_ble_eq_true rfl) ?_
  refine va_putF (D := D) (ci := 6) (v := .ref q1) (ty := tyT 6 1) (C := rn 6) (T := tT 6) (N := nF 6) (ref := rn 6) hx hb hts (layT 6 (by decide)) (tyT 6) (tyT_ok 6 (by decide)) (nmT_ok 6 (by decide)) hown hK hP hD hS 0 rfl (clsT 6 (by decide)) 1 (by decide) (hts _ gc_130) (fun _ h9 => h9) rfl hin rfl (tyT_ok 6 (by decide) 1 (by decide)) rfl rfl (Nat.le_of_ble_eq_true rfl) dX6_init_17 (fun H locs hP hD hS => ?_)
  have hP : va_P D cls_ [(h0, .inr (6, [.ref q0, .ref q1])), (q0, .inl (ty.1, 36, .inl (fun _ => 0))), (q1, .inl (ty.1, 6, .inl (fun _ => 0)))] H := hP
  have hD : va_D A [(h0, .inr (6, [.ref q0, .ref q1])), (q0, .inl (ty.1, 36, .inl (fun _ => 0))), (q1, .inl (ty.1, 6, .inl (fun _ => 0)))] := hD
  refine W.widen (k := 2) (n := 42) (Nat.le_of_ble_eq_true rfl) (Nat.le_of_ble_eq_true rfl) ?_
  exact W.vret hx hb hr (fun t ht hW => ⟨⟨[q0, q1], rfl, trivial, by rw [ht]; exact hP, hD⟩, hS.F ht⟩) hS.2.2 dX6_init_20
def fw_2 (ty : ClassId × ClassId) (h0 : Nat) (f : List Nat) : va_W := [(h0, .inr (2, [.ref (f.getD 0 0), .ref (f.getD 1 0), .int 0])), ((f.getD 0 0), .inl (ty.1, 12, .inl (fun _ => 0))), ((f.getD 1 0), .inl (ty.1, 12, .inl (fun _ => 0)))]
set_option maxHeartbeats 4000000 in
set_option maxRecDepth 100000 in
theorem k_2 (l : Launch) (D : va_G) (ty : ClassId × ClassId) (h0 sz : Nat) : Met l yX2_init (Cond.code yX2_init cX2_init 1 none :: TG) { frames := 1, cells := 2, slots := 24, locals := 16 } (PcI D ty [.ref h0] sz [(h0, .inr (2, [.null, .null, .int 0]))]) (QcI D (fw_2 ty h0) [(h0, .inr (2, [.null, .null, .int 0]))] sz) 2 24 (va_A [(h0, .inr (2, [.null, .null, .int 0]))] sz) := by
  refine Met.ofW (cc := cX2_init) (maxL := 1) (ret := none) (by decide) rfl ?_
  intro p e s m args below meth c s₁ B hml hv
  obtain ⟨rfl, hsz, hP, hK, hN⟩ := hv
  have hx := B.exec
  have hb := B.bytes
  have hr := B.returns
  have hts0 := atoms_spec (ws := Cond.code yX2_init cX2_init 1 none :: TG) B.pre
  have hts : ∀ w ∈ TG, w.before _ s = true := fun w hw => hts0 w (List.mem_cons_of_mem _ hw)
  have hown : s.vm.findClass RX2 = some m.cls := findClass_of_methodNamed B.named
  have hlocks := B.notSynchronized
  have hin : meth.name = "<init>" := (name_of_methodNamed B.named B.method).1
  subst hsz
  have hD := D1 (w := (h0, .inr (2, [.null, .null, .int 0]))) (sz := s.heap.size)
  unfold QcI
  generalize hAe : va_A [(h0, .inr (2, [.null, .null, .int 0]))] s.heap.size = A at hD ⊢
  have hA : ∀ q : Nat, s.heap.size ≤ q → A q := fun q h => by rw [← hAe]; exact Or.inr h
  have hS : va_S A s.heap s.heap [] := va_S.rf
  have hP : va_P D cls_ [(h0, .inr (2, [.null, .null, .int 0]))] s.heap := hP
  have hl := lv_entry ([.ref h0]) (n := 1) (Nat.le_of_ble_eq_true rfl)
  rw [lg_entry_eq]
  generalize (lg_sl ([.ref h0]) ++ List.replicate (1 - (lg_sl ([.ref h0])).length) Slot.unset).toArray = ls at hl ⊢
  have hl : lv_has ls 1 [(0, .ref h0)] := hl
  refine lv_aload_n hx hb dX2_init_0 rfl (lv_at hl 0 rfl) ?_
  refine W.objInit hx hb hown (hts _ gc_143) (hts _ gc_88) (hts _ gc_89) rfl (by rw [hml]; exact hl.1) rfl dX2_init_1 (Nat.le_of_ble_eq_true rfl) (Nat.le_of_ble_eq_true rfl) ?_
  refine W.eq (g2 := F0 m 4 ls []) rfl ?_
  refine lv_aload_n hx hb dX2_init_4 rfl (lv_at hl 0 rfl) ?_
  refine lv_bipush (v := nI 12) hx hb dX2_init_5 (by decide) ?_
  refine my_newa hx hb hts hK hP hD hS hA (n := 12) rfl (by decide) (Nat.le_of_ble_eq_true rfl) (Nat.le_of_ble_eq_true rfl) dX2_init_7 (fun q0 H hP hD hS => ?_)
  have hP : va_P D cls_ [(h0, .inr (2, [.null, .null, .int 0])), (q0, .inl (ty.1, 12, .inl (fun _ => 0)))] H := hP
  have hD : va_D A [(h0, .inr (2, [.null, .null, .int 0])), (q0, .inl (ty.1, 12, .inl (fun _ => 0)))] := hD
  refine W.widen (k := 1) (n := 12) (Nat.le_of_ble_eq_true rfl) (Nat.le_of_ble_eq_true rfl) ?_
  refine va_putF (D := D) (ci := 2) (v := .ref q0) (ty := tyT 2 0) (C := rn 2) (T := tT 2) (N := nF 2) (ref := rn 2) hx hb hts (layT 2 (by decide)) (tyT 2) (tyT_ok 2 (by decide)) (nmT_ok 2 (by decide)) hown hK hP hD hS 0 rfl (clsT 2 (by decide)) 0 (by decide) (hts _ gc_144) (fun _ h9 => h9) rfl hin rfl (tyT_ok 2 (by decide) 0 (by decide)) rfl rfl (Nat.le_of_ble_eq_true rfl) dX2_init_9 (fun H locs hP hD hS => ?_)
  have hP : va_P D cls_ [(h0, .inr (2, [.ref q0, .null, .int 0])), (q0, .inl (ty.1, 12, .inl (fun _ => 0)))] H := hP
  have hD : va_D A [(h0, .inr (2, [.ref q0, .null, .int 0])), (q0, .inl (ty.1, 12, .inl (fun _ => 0)))] := hD
  refine lv_aload_n hx hb dX2_init_12 rfl (lv_at hl 0 rfl) ?_
  refine lv_bipush (v := nI 12) hx hb dX2_init_13 (by decide) ?_
  refine my_newa hx hb hts hK hP hD hS hA (n := 12) rfl (by decide) (Nat.le_of_ble_eq_true rfl) (Nat.le_of_ble_eq_true rfl) dX2_init_15 (fun q1 H hP hD hS => ?_)
  have hP : va_P D cls_ [(h0, .inr (2, [.ref q0, .null, .int 0])), (q0, .inl (ty.1, 12, .inl (fun _ => 0))), (q1, .inl (ty.1, 12, .inl (fun _ => 0)))] H := hP
  have hD : va_D A [(h0, .inr (2, [.ref q0, .null, .int 0])), (q0, .inl (ty.1, 12, .inl (fun _ => 0))), (q1, .inl (ty.1, 12, .inl (fun _ => 0)))] := hD
  refine W.widen (k := 2) (n := 24) (Nat.le_of_ble_eq_true rfl) (Nat.le_of_ble_eq_true rfl) ?_
  refine va_putF (D := D) (ci := 2) (v := .ref q1) (ty := tyT 2 1) (C := rn 2) (T := tT 2) (N := nF 2) (ref := rn 2) hx hb hts (layT 2 (by decide)) (tyT 2) (tyT_ok 2 (by decide)) (nmT_ok 2 (by decide)) hown hK hP hD hS 0 rfl (clsT 2 (by decide)) 1 (by decide) (hts _ gc_149) (fun _ h9 => h9) rfl hin rfl (tyT_ok 2 (by decide) 1 (by decide)) rfl rfl (Nat.le_of_ble_eq_true rfl) dX2_init_17 (fun H locs hP hD hS => ?_)
  have hP : va_P D cls_ [(h0, .inr (2, [.ref q0, .ref q1, .int 0])), (q0, .inl (ty.1, 12, .inl (fun _ => 0))), (q1, .inl (ty.1, 12, .inl (fun _ => 0)))] H := hP
  have hD : va_D A [(h0, .inr (2, [.ref q0, .ref q1, .int 0])), (q0, .inl (ty.1, 12, .inl (fun _ => 0))), (q1, .inl (ty.1, 12, .inl (fun _ => 0)))] := hD
  refine W.widen (k := 2) (n := 24) (Nat.le_of_ble_eq_true rfl) (Nat.le_of_ble_eq_true rfl) ?_
  exact W.vret hx hb hr (fun t ht hW => ⟨⟨[q0, q1], rfl, trivial, by rw [ht]; exact hP, hD⟩, hS.F ht⟩) hS.2.2 dX2_init_20
def fw_1 (ty : ClassId × ClassId) (h0 : Nat) (f : List Nat) : va_W := [(h0, .inr (1, [.ref (f.getD 0 0), .ref (f.getD 1 0), .ref (f.getD 2 0), .int 0])), ((f.getD 0 0), .inl (ty.1, 8, .inl (fun _ => 0))), ((f.getD 1 0), .inl (ty.1, 8, .inl (fun _ => 0))), ((f.getD 2 0), .inl (ty.1, 8, .inl (fun _ => 0)))]
set_option maxHeartbeats 4000000 in
set_option maxRecDepth 100000 in
theorem k_1 (l : Launch) (D : va_G) (ty : ClassId × ClassId) (h0 sz : Nat) : Met l yX1_init (Cond.code yX1_init cX1_init 1 none :: TG) { frames := 1, cells := 3, slots := 24, locals := 16 } (PcI D ty [.ref h0] sz [(h0, .inr (1, [.null, .null, .null, .int 0]))]) (QcI D (fw_1 ty h0) [(h0, .inr (1, [.null, .null, .null, .int 0]))] sz) 3 24 (va_A [(h0, .inr (1, [.null, .null, .null, .int 0]))] sz) := by
  refine Met.ofW (cc := cX1_init) (maxL := 1) (ret := none) (by decide) rfl ?_
  intro p e s m args below meth c s₁ B hml hv
  obtain ⟨rfl, hsz, hP, hK, hN⟩ := hv
  have hx := B.exec
  have hb := B.bytes
  have hr := B.returns
  have hts0 := atoms_spec (ws := Cond.code yX1_init cX1_init 1 none :: TG) B.pre
  have hts : ∀ w ∈ TG, w.before _ s = true := fun w hw => hts0 w (List.mem_cons_of_mem _ hw)
  have hown : s.vm.findClass RX1 = some m.cls := findClass_of_methodNamed B.named
  have hlocks := B.notSynchronized
  have hin : meth.name = "<init>" := (name_of_methodNamed B.named B.method).1
  subst hsz
  have hD := D1 (w := (h0, .inr (1, [.null, .null, .null, .int 0]))) (sz := s.heap.size)
  unfold QcI
  generalize hAe : va_A [(h0, .inr (1, [.null, .null, .null, .int 0]))] s.heap.size = A at hD ⊢
  have hA : ∀ q : Nat, s.heap.size ≤ q → A q := fun q h => by rw [← hAe]; exact Or.inr h
  have hS : va_S A s.heap s.heap [] := va_S.rf
  have hP : va_P D cls_ [(h0, .inr (1, [.null, .null, .null, .int 0]))] s.heap := hP
  have hl := lv_entry ([.ref h0]) (n := 1) (Nat.le_of_ble_eq_true rfl)
  rw [lg_entry_eq]
  generalize (lg_sl ([.ref h0]) ++ List.replicate (1 - (lg_sl ([.ref h0])).length) Slot.unset).toArray = ls at hl ⊢
  have hl : lv_has ls 1 [(0, .ref h0)] := hl
  refine lv_aload_n hx hb dX1_init_0 rfl (lv_at hl 0 rfl) ?_
  refine W.objInit hx hb hown (hts _ gc_169) (hts _ gc_88) (hts _ gc_89) rfl (by rw [hml]; exact hl.1) rfl dX1_init_1 (Nat.le_of_ble_eq_true rfl) (Nat.le_of_ble_eq_true rfl) ?_
  refine W.eq (g2 := F0 m 4 ls []) rfl ?_
  refine lv_aload_n hx hb dX1_init_4 rfl (lv_at hl 0 rfl) ?_
  refine lv_bipush (v := nI 8) hx hb dX1_init_5 (by decide) ?_
  refine my_newa hx hb hts hK hP hD hS hA (n := 8) rfl (by decide) (Nat.le_of_ble_eq_true rfl) (Nat.le_of_ble_eq_true rfl) dX1_init_7 (fun q0 H hP hD hS => ?_)
  have hP : va_P D cls_ [(h0, .inr (1, [.null, .null, .null, .int 0])), (q0, .inl (ty.1, 8, .inl (fun _ => 0)))] H := hP
  have hD : va_D A [(h0, .inr (1, [.null, .null, .null, .int 0])), (q0, .inl (ty.1, 8, .inl (fun _ => 0)))] := hD
  refine W.widen (k := 1) (n := 8) (Nat.le_of_ble_eq_true rfl) (Nat.le_of_ble_eq_true rfl) ?_
  refine va_putF (D := D) (ci := 1) (v := .ref q0) (ty := tyT 1 0) (C := rn 1) (T := tT 1) (N := nF 1) (ref := rn 1) hx hb hts (layT 1 (by decide)) (tyT 1) (tyT_ok 1 (by decide)) (nmT_ok 1 (by decide)) hown hK hP hD hS 0 rfl (clsT 1 (by decide)) 0 (by decide) (hts _ gc_170) (fun _ h9 => h9) rfl hin rfl (tyT_ok 1 (by decide) 0 (by decide)) rfl rfl (Nat.le_of_ble_eq_true rfl) dX1_init_9 (fun H locs hP hD hS => ?_)
  have hP : va_P D cls_ [(h0, .inr (1, [.ref q0, .null, .null, .int 0])), (q0, .inl (ty.1, 8, .inl (fun _ => 0)))] H := hP
  have hD : va_D A [(h0, .inr (1, [.ref q0, .null, .null, .int 0])), (q0, .inl (ty.1, 8, .inl (fun _ => 0)))] := hD
  refine lv_aload_n hx hb dX1_init_12 rfl (lv_at hl 0 rfl) ?_
  refine lv_bipush (v := nI 8) hx hb dX1_init_13 (by decide) ?_
  refine my_newa hx hb hts hK hP hD hS hA (n := 8) rfl (by decide) (Nat.le_of_ble_eq_true rfl) (Nat.le_of_ble_eq_true rfl) dX1_init_15 (fun q1 H hP hD hS => ?_)
  have hP : va_P D cls_ [(h0, .inr (1, [.ref q0, .null, .null, .int 0])), (q0, .inl (ty.1, 8, .inl (fun _ => 0))), (q1, .inl (ty.1, 8, .inl (fun _ => 0)))] H := hP
  have hD : va_D A [(h0, .inr (1, [.ref q0, .null, .null, .int 0])), (q0, .inl (ty.1, 8, .inl (fun _ => 0))), (q1, .inl (ty.1, 8, .inl (fun _ => 0)))] := hD
  refine W.widen (k := 2) (n := 16) (Nat.le_of_ble_eq_true rfl) (Nat.le_of_ble_eq_true rfl) ?_
  refine va_putF (D := D) (ci := 1) (v := .ref q1) (ty := tyT 1 1) (C := rn 1) (T := tT 1) (N := nF 1) (ref := rn 1) hx hb hts (layT 1 (by decide)) (tyT 1) (tyT_ok 1 (by decide)) (nmT_ok 1 (by decide)) hown hK hP hD hS 0 rfl (clsT 1 (by decide)) 1 (by decide) (hts _ gc_172) (fun _ h9 => h9) rfl hin rfl (tyT_ok 1 (by decide) 1 (by decide)) rfl rfl (Nat.le_of_ble_eq_true rfl) dX1_init_17 (fun H locs hP hD hS => ?_)
  have hP : va_P D cls_ [(h0, .inr (1, [.ref q0, .ref q1, .null, .int 0])), (q0, .inl (ty.1, 8, .inl (fun _ => 0))), (q1, .inl (ty.1, 8, .inl (fun _ => 0)))] H := hP
  have hD : va_D A [(h0, .inr (1, [.ref q0, .ref q1, .null, .int 0])), (q0, .inl (ty.1, 8, .inl (fun _ => 0))), (q1, .inl (ty.1, 8, .inl (fun _ => 0)))] := hD
  refine lv_aload_n hx hb dX1_init_20 rfl (lv_at hl 0 rfl) ?_
  refine lv_bipush (v := nI 8) hx hb dX1_init_21 (by decide) ?_
  refine my_newa hx hb hts hK hP hD hS hA (n := 8) rfl (by decide) (Nat.le_of_ble_eq_true rfl) (Nat.le_of_ble_eq_true rfl) dX1_init_23 (fun q2 H hP hD hS => ?_)
  have hP : va_P D cls_ [(h0, .inr (1, [.ref q0, .ref q1, .null, .int 0])), (q0, .inl (ty.1, 8, .inl (fun _ => 0))), (q1, .inl (ty.1, 8, .inl (fun _ => 0))), (q2, .inl (ty.1, 8, .inl (fun _ => 0)))] H := hP
  have hD : va_D A [(h0, .inr (1, [.ref q0, .ref q1, .null, .int 0])), (q0, .inl (ty.1, 8, .inl (fun _ => 0))), (q1, .inl (ty.1, 8, .inl (fun _ => 0))), (q2, .inl (ty.1, 8, .inl (fun _ => 0)))] := hD
  refine W.widen (k := 3) (n := 24) (Nat.le_of_ble_eq_true rfl) (Nat.le_of_ble_eq_true rfl) ?_
  refine va_putF (D := D) (ci := 1) (v := .ref q2) (ty := tyT 1 2) (C := rn 1) (T := tT 1) (N := nF 1) (ref := rn 1) hx hb hts (layT 1 (by decide)) (tyT 1) (tyT_ok 1 (by decide)) (nmT_ok 1 (by decide)) hown hK hP hD hS 0 rfl (clsT 1 (by decide)) 2 (by decide) (hts _ gc_174) (fun _ h9 => h9) rfl hin rfl (tyT_ok 1 (by decide) 2 (by decide)) rfl rfl (Nat.le_of_ble_eq_true rfl) dX1_init_25 (fun H locs hP hD hS => ?_)
  have hP : va_P D cls_ [(h0, .inr (1, [.ref q0, .ref q1, .ref q2, .int 0])), (q0, .inl (ty.1, 8, .inl (fun _ => 0))), (q1, .inl (ty.1, 8, .inl (fun _ => 0))), (q2, .inl (ty.1, 8, .inl (fun _ => 0)))] H := hP
  have hD : va_D A [(h0, .inr (1, [.ref q0, .ref q1, .ref q2, .int 0])), (q0, .inl (ty.1, 8, .inl (fun _ => 0))), (q1, .inl (ty.1, 8, .inl (fun _ => 0))), (q2, .inl (ty.1, 8, .inl (fun _ => 0)))] := hD
  refine W.widen (k := 3) (n := 24) (Nat.le_of_ble_eq_true rfl) (Nat.le_of_ble_eq_true rfl) ?_
  exact W.vret hx hb hr (fun t ht hW => ⟨⟨[q0, q1, q2], rfl, trivial, by rw [ht]; exact hP, hD⟩, hS.F ht⟩) hS.2.2 dX1_init_28
def fw_4 (ty : ClassId × ClassId) (h0 : Nat) (f : List Nat) : va_W := [(h0, .inr (4, [.ref (f.getD 0 0), .ref (f.getD 1 0), .ref (f.getD 2 0), .int 0])), ((f.getD 0 0), .inl (ty.1, 8, .inl (fun _ => 0))), ((f.getD 1 0), .inl (ty.1, 8, .inl (fun _ => 0))), ((f.getD 2 0), .inl (ty.1, 8, .inl (fun _ => 0)))]
set_option maxHeartbeats 4000000 in
set_option maxRecDepth 100000 in
theorem k_4 (l : Launch) (D : va_G) (ty : ClassId × ClassId) (h0 sz : Nat) : Met l yX4_init (Cond.code yX4_init cX4_init 1 none :: TG) { frames := 1, cells := 3, slots := 24, locals := 16 } (PcI D ty [.ref h0] sz [(h0, .inr (4, [.null, .null, .null, .int 0]))]) (QcI D (fw_4 ty h0) [(h0, .inr (4, [.null, .null, .null, .int 0]))] sz) 3 24 (va_A [(h0, .inr (4, [.null, .null, .null, .int 0]))] sz) := by
  refine Met.ofW (cc := cX4_init) (maxL := 1) (ret := none) (by decide) rfl ?_
  intro p e s m args below meth c s₁ B hml hv
  obtain ⟨rfl, hsz, hP, hK, hN⟩ := hv
  have hx := B.exec
  have hb := B.bytes
  have hr := B.returns
  have hts0 := atoms_spec (ws := Cond.code yX4_init cX4_init 1 none :: TG) B.pre
  have hts : ∀ w ∈ TG, w.before _ s = true := fun w hw => hts0 w (List.mem_cons_of_mem _ hw)
  have hown : s.vm.findClass RX4 = some m.cls := findClass_of_methodNamed B.named
  have hlocks := B.notSynchronized
  have hin : meth.name = "<init>" := (name_of_methodNamed B.named B.method).1
  subst hsz
  have hD := D1 (w := (h0, .inr (4, [.null, .null, .null, .int 0]))) (sz := s.heap.size)
  unfold QcI
  generalize hAe : va_A [(h0, .inr (4, [.null, .null, .null, .int 0]))] s.heap.size = A at hD ⊢
  have hA : ∀ q : Nat, s.heap.size ≤ q → A q := fun q h => by rw [← hAe]; exact Or.inr h
  have hS : va_S A s.heap s.heap [] := va_S.rf
  have hP : va_P D cls_ [(h0, .inr (4, [.null, .null, .null, .int 0]))] s.heap := hP
  have hl := lv_entry ([.ref h0]) (n := 1) (Nat.le_of_ble_eq_true rfl)
  rw [lg_entry_eq]
  generalize (lg_sl ([.ref h0]) ++ List.replicate (1 - (lg_sl ([.ref h0])).length) Slot.unset).toArray = ls at hl ⊢
  have hl : lv_has ls 1 [(0, .ref h0)] := hl
  refine lv_aload_n hx hb dX4_init_0 rfl (lv_at hl 0 rfl) ?_
  refine W.objInit hx hb hown (hts _ gc_194) (hts _ gc_88) (hts _ gc_89) rfl (by rw [hml]; exact hl.1) rfl dX4_init_1 (Nat.le_of_ble_eq_true rfl) (Nat.le_of_ble_eq_true rfl) ?_
  refine W.eq (g2 := F0 m 4 ls []) rfl ?_
  refine lv_aload_n hx hb dX4_init_4 rfl (lv_at hl 0 rfl) ?_
  refine lv_bipush (v := nI 8) hx hb dX4_init_5 (by decide) ?_
  refine my_newa hx hb hts hK hP hD hS hA (n := 8) rfl (by decide) (Nat.le_of_ble_eq_true rfl) (Nat.le_of_ble_eq_true rfl) dX4_init_7 (fun q0 H hP hD hS => ?_)
  have hP : va_P D cls_ [(h0, .inr (4, [.null, .null, .null, .int 0])), (q0, .inl (ty.1, 8, .inl (fun _ => 0)))] H := hP
  have hD : va_D A [(h0, .inr (4, [.null, .null, .null, .int 0])), (q0, .inl (ty.1, 8, .inl (fun _ => 0)))] := hD
  refine W.widen (k := 1) (n := 8) (Nat.le_of_ble_eq_true rfl) (Nat.le_of_ble_eq_true rfl) ?_
  refine va_putF (D := D) (ci := 4) (v := .ref q0) (ty := tyT 4 0) (C := rn 4) (T := tT 4) (N := nF 4) (ref := rn 4) hx hb hts (layT 4 (by decide)) (tyT 4) (tyT_ok 4 (by decide)) (nmT_ok 4 (by decide)) hown hK hP hD hS 0 rfl (clsT 4 (by decide)) 0 (by decide) (hts _ gc_195) (fun _ h9 => h9) rfl hin rfl (tyT_ok 4 (by decide) 0 (by decide)) rfl rfl (Nat.le_of_ble_eq_true rfl) dX4_init_9 (fun H locs hP hD hS => ?_)
  have hP : va_P D cls_ [(h0, .inr (4, [.ref q0, .null, .null, .int 0])), (q0, .inl (ty.1, 8, .inl (fun _ => 0)))] H := hP
  have hD : va_D A [(h0, .inr (4, [.ref q0, .null, .null, .int 0])), (q0, .inl (ty.1, 8, .inl (fun _ => 0)))] := hD
  refine lv_aload_n hx hb dX4_init_12 rfl (lv_at hl 0 rfl) ?_
  refine lv_bipush (v := nI 8) hx hb dX4_init_13 (by decide) ?_
  refine my_newa hx hb hts hK hP hD hS hA (n := 8) rfl (by decide) (Nat.le_of_ble_eq_true rfl) (Nat.le_of_ble_eq_true rfl) dX4_init_15 (fun q1 H hP hD hS => ?_)
  have hP : va_P D cls_ [(h0, .inr (4, [.ref q0, .null, .null, .int 0])), (q0, .inl (ty.1, 8, .inl (fun _ => 0))), (q1, .inl (ty.1, 8, .inl (fun _ => 0)))] H := hP
  have hD : va_D A [(h0, .inr (4, [.ref q0, .null, .null, .int 0])), (q0, .inl (ty.1, 8, .inl (fun _ => 0))), (q1, .inl (ty.1, 8, .inl (fun _ => 0)))] := hD
  refine W.widen (k := 2) (n := 16) (Nat.le_of_ble_eq_true rfl) (Nat.le_of_ble_eq_true rfl) ?_
  refine va_putF (D := D) (ci := 4) (v := .ref q1) (ty := tyT 4 1) (C := rn 4) (T := tT 4) (N := nF 4) (ref := rn 4) hx hb hts (layT 4 (by decide)) (tyT 4) (tyT_ok 4 (by decide)) (nmT_ok 4 (by decide)) hown hK hP hD hS 0 rfl (clsT 4 (by decide)) 1 (by decide) (hts _ gc_196) (fun _ h9 => h9) rfl hin rfl (tyT_ok 4 (by decide) 1 (by decide)) rfl rfl (Nat.le_of_ble_eq_true rfl) dX4_init_17 (fun H locs hP hD hS => ?_)
  have hP : va_P D cls_ [(h0, .inr (4, [.ref q0, .ref q1, .null, .int 0])), (q0, .inl (ty.1, 8, .inl (fun _ => 0))), (q1, .inl (ty.1, 8, .inl (fun _ => 0)))] H := hP
  have hD : va_D A [(h0, .inr (4, [.ref q0, .ref q1, .null, .int 0])), (q0, .inl (ty.1, 8, .inl (fun _ => 0))), (q1, .inl (ty.1, 8, .inl (fun _ => 0)))] := hD
  refine lv_aload_n hx hb dX4_init_20 rfl (lv_at hl 0 rfl) ?_
  refine lv_bipush (v := nI 8) hx hb dX4_init_21 (by decide) ?_
  refine my_newa hx hb hts hK hP hD hS hA (n := 8) rfl (by decide) (Nat.le_of_ble_eq_true rfl) (Nat.le_of_ble_eq_true rfl) dX4_init_23 (fun q2 H hP hD hS => ?_)
  have hP : va_P D cls_ [(h0, .inr (4, [.ref q0, .ref q1, .null, .int 0])), (q0, .inl (ty.1, 8, .inl (fun _ => 0))), (q1, .inl (ty.1, 8, .inl (fun _ => 0))), (q2, .inl (ty.1, 8, .inl (fun _ => 0)))] H := hP
  have hD : va_D A [(h0, .inr (4, [.ref q0, .ref q1, .null, .int 0])), (q0, .inl (ty.1, 8, .inl (fun _ => 0))), (q1, .inl (ty.1, 8, .inl (fun _ => 0))), (q2, .inl (ty.1, 8, .inl (fun _ => 0)))] := hD
  refine W.widen (k := 3) (n := 24) (Nat.le_of_ble_eq_true rfl) (Nat.le_of_ble_eq_true rfl) ?_
  refine va_putF (D := D) (ci := 4) (v := .ref q2) (ty := tyT 4 2) (C := rn 4) (T := tT 4) (N := nF 4) (ref := rn 4) hx hb hts (layT 4 (by decide)) (tyT 4) (tyT_ok 4 (by decide)) (nmT_ok 4 (by decide)) hown hK hP hD hS 0 rfl (clsT 4 (by decide)) 2 (by decide) (hts _ gc_197) (fun _ h9 => h9) rfl hin rfl (tyT_ok 4 (by decide) 2 (by decide)) rfl rfl (Nat.le_of_ble_eq_true rfl) dX4_init_25 (fun H locs hP hD hS => ?_)
  have hP : va_P D cls_ [(h0, .inr (4, [.ref q0, .ref q1, .ref q2, .int 0])), (q0, .inl (ty.1, 8, .inl (fun _ => 0))), (q1, .inl (ty.1, 8, .inl (fun _ => 0))), (q2, .inl (ty.1, 8, .inl (fun _ => 0)))] H := hP
  have hD : va_D A [(h0, .inr (4, [.ref q0, .ref q1, .ref q2, .int 0])), (q0, .inl (ty.1, 8, .inl (fun _ => 0))), (q1, .inl (ty.1, 8, .inl (fun _ => 0))), (q2, .inl (ty.1, 8, .inl (fun _ => 0)))] := hD
  refine W.widen (k := 3) (n := 24) (Nat.le_of_ble_eq_true rfl) (Nat.le_of_ble_eq_true rfl) ?_
  exact W.vret hx hb hr (fun t ht hW => ⟨⟨[q0, q1, q2], rfl, trivial, by rw [ht]; exact hP, hD⟩, hS.F ht⟩) hS.2.2 dX4_init_28
def fw_5 (ty : ClassId × ClassId) (h0 : Nat) (f : List Nat) : va_W := [(h0, .inr (5, [.ref (f.getD 0 0), .int (mI 1), .int 0])), ((f.getD 0 0), .inl (ty.1, 60, .inl (fun _ => 0)))]
set_option maxHeartbeats 4000000 in
set_option maxRecDepth 100000 in
theorem k_5 (l : Launch) (D : va_G) (ty : ClassId × ClassId) (h0 sz : Nat) : Met l yX5_init (Cond.code yX5_init cX5_init 1 none :: TG) { frames := 1, cells := 1, slots := 60, locals := 16 } (PcI D ty [.ref h0] sz [(h0, .inr (5, [.null, .int 0, .int 0]))]) (QcI D (fw_5 ty h0) [(h0, .inr (5, [.null, .int 0, .int 0]))] sz) 1 60 (va_A [(h0, .inr (5, [.null, .int 0, .int 0]))] sz) := by
  refine Met.ofW (cc := cX5_init) (maxL := 1) (ret := none) (by decide) rfl ?_
  intro p e s m args below meth c s₁ B hml hv
  obtain ⟨rfl, hsz, hP, hK, hN⟩ := hv
  have hx := B.exec
  have hb := B.bytes
  have hr := B.returns
  have hts0 := atoms_spec (ws := Cond.code yX5_init cX5_init 1 none :: TG) B.pre
  have hts : ∀ w ∈ TG, w.before _ s = true := fun w hw => hts0 w (List.mem_cons_of_mem _ hw)
  have hown : s.vm.findClass RX5 = some m.cls := findClass_of_methodNamed B.named
  have hlocks := B.notSynchronized
  have hin : meth.name = "<init>" := (name_of_methodNamed B.named B.method).1
  subst hsz
  have hD := D1 (w := (h0, .inr (5, [.null, .int 0, .int 0]))) (sz := s.heap.size)
  unfold QcI
  generalize hAe : va_A [(h0, .inr (5, [.null, .int 0, .int 0]))] s.heap.size = A at hD ⊢
  have hA : ∀ q : Nat, s.heap.size ≤ q → A q := fun q h => by rw [← hAe]; exact Or.inr h
  have hS : va_S A s.heap s.heap [] := va_S.rf
  have hP : va_P D cls_ [(h0, .inr (5, [.null, .int 0, .int 0]))] s.heap := hP
  have hl := lv_entry ([.ref h0]) (n := 1) (Nat.le_of_ble_eq_true rfl)
  rw [lg_entry_eq]
  generalize (lg_sl ([.ref h0]) ++ List.replicate (1 - (lg_sl ([.ref h0])).length) Slot.unset).toArray = ls at hl ⊢
  have hl : lv_has ls 1 [(0, .ref h0)] := hl
  refine lv_aload_n hx hb dX5_init_0 rfl (lv_at hl 0 rfl) ?_
  refine W.objInit hx hb hown (hts _ gc_373) (hts _ gc_88) (hts _ gc_89) rfl (by rw [hml]; exact hl.1) rfl dX5_init_1 (Nat.le_of_ble_eq_true rfl) (Nat.le_of_ble_eq_true rfl) ?_
  refine W.eq (g2 := F0 m 4 ls []) rfl ?_
  refine lv_aload_n hx hb dX5_init_4 rfl (lv_at hl 0 rfl) ?_
  refine lv_bipush (v := nI 60) hx hb dX5_init_5 (by decide) ?_
  refine my_newa hx hb hts hK hP hD hS hA (n := 60) rfl (by decide) (Nat.le_of_ble_eq_true rfl) (Nat.le_of_ble_eq_true rfl) dX5_init_7 (fun q0 H hP hD hS => ?_)
  have hP : va_P D cls_ [(h0, .inr (5, [.null, .int 0, .int 0])), (q0, .inl (ty.1, 60, .inl (fun _ => 0)))] H := hP
  have hD : va_D A [(h0, .inr (5, [.null, .int 0, .int 0])), (q0, .inl (ty.1, 60, .inl (fun _ => 0)))] := hD
  refine W.widen (k := 1) (n := 60) (Nat.le_of_ble_eq_true rfl) (Nat.le_of_ble_eq_true rfl) ?_
  refine va_putF (D := D) (ci := 5) (v := .ref q0) (ty := tyT 5 0) (C := rn 5) (T := tT 5) (N := nF 5) (ref := rn 5) hx hb hts (layT 5 (by decide)) (tyT 5) (tyT_ok 5 (by decide)) (nmT_ok 5 (by decide)) hown hK hP hD hS 0 rfl (clsT 5 (by decide)) 0 (by decide) (hts _ gc_374) (fun _ h9 => h9) rfl hin rfl (tyT_ok 5 (by decide) 0 (by decide)) rfl rfl (Nat.le_of_ble_eq_true rfl) dX5_init_9 (fun H locs hP hD hS => ?_)
  have hP : va_P D cls_ [(h0, .inr (5, [.ref q0, .int 0, .int 0])), (q0, .inl (ty.1, 60, .inl (fun _ => 0)))] H := hP
  have hD : va_D A [(h0, .inr (5, [.ref q0, .int 0, .int 0])), (q0, .inl (ty.1, 60, .inl (fun _ => 0)))] := hD
  refine lv_aload_n hx hb dX5_init_12 rfl (lv_at hl 0 rfl) ?_
  refine lv_iconst (v := mI 1) hx hb dX5_init_13 (by decide) ?_
  refine va_put (D := D) (ci := 5) (v := .int (mI 1)) (ty := tyT 5 1) (C := rn 5) (T := tT 5) (N := nF 5) (ref := rn 5) hx hb hts (layT 5 (by decide)) (tyT 5) (tyT_ok 5 (by decide)) (nmT_ok 5 (by decide)) hown hK hP hD hS 0 rfl (clsT 5 (by decide)) 1 (by decide) (hts _ gc_376) (fun _ h9 => h9) rfl (tyT_ok 5 (by decide) 1 (by decide)) rfl rfl (Nat.le_of_ble_eq_true rfl) dX5_init_14 (fun H locs hP hD hS => ?_)
  have hP : va_P D cls_ [(h0, .inr (5, [.ref q0, .int (mI 1), .int 0])), (q0, .inl (ty.1, 60, .inl (fun _ => 0)))] H := hP
  have hD : va_D A [(h0, .inr (5, [.ref q0, .int (mI 1), .int 0])), (q0, .inl (ty.1, 60, .inl (fun _ => 0)))] := hD
  refine W.widen (k := 1) (n := 60) (Nat.le_of_ble_eq_true rfl) (Nat.le_of_ble_eq_true rfl) ?_
  exact W.vret hx hb hr (fun t ht hW => ⟨⟨[q0], rfl, trivial, by rw [ht]; exact hP, hD⟩, hS.F ht⟩) hS.2.2 dX5_init_17
def fw_9 (ty : ClassId × ClassId) (h0 : Nat) (f : List Nat) : va_W := [(h0, .inr (9, [.ref (f.getD 0 0), .int 0, .int 0])), ((f.getD 0 0), .inl (ty.1, 6, .inl (fun _ => 0)))]
set_option maxHeartbeats 4000000 in
set_option maxRecDepth 100000 in
theorem k_9 (l : Launch) (D : va_G) (ty : ClassId × ClassId) (h0 sz : Nat) : Met l yX9_init (Cond.code yX9_init cX9_init 1 none :: TG) { frames := 1, cells := 1, slots := 6, locals := 16 } (PcI D ty [.ref h0] sz [(h0, .inr (9, [.null, .int 0, .int 0]))]) (QcI D (fw_9 ty h0) [(h0, .inr (9, [.null, .int 0, .int 0]))] sz) 1 6 (va_A [(h0, .inr (9, [.null, .int 0, .int 0]))] sz) := by
  refine Met.ofW (cc := cX9_init) (maxL := 1) (ret := none) (by decide) rfl ?_
  intro p e s m args below meth c s₁ B hml hv
  obtain ⟨rfl, hsz, hP, hK, hN⟩ := hv
  have hx := B.exec
  have hb := B.bytes
  have hr := B.returns
  have hts0 := atoms_spec (ws := Cond.code yX9_init cX9_init 1 none :: TG) B.pre
  have hts : ∀ w ∈ TG, w.before _ s = true := fun w hw => hts0 w (List.mem_cons_of_mem _ hw)
  have hown : s.vm.findClass RX9 = some m.cls := findClass_of_methodNamed B.named
  have hlocks := B.notSynchronized
  have hin : meth.name = "<init>" := (name_of_methodNamed B.named B.method).1
  subst hsz
  have hD := D1 (w := (h0, .inr (9, [.null, .int 0, .int 0]))) (sz := s.heap.size)
  unfold QcI
  generalize hAe : va_A [(h0, .inr (9, [.null, .int 0, .int 0]))] s.heap.size = A at hD ⊢
  have hA : ∀ q : Nat, s.heap.size ≤ q → A q := fun q h => by rw [← hAe]; exact Or.inr h
  have hS : va_S A s.heap s.heap [] := va_S.rf
  have hP : va_P D cls_ [(h0, .inr (9, [.null, .int 0, .int 0]))] s.heap := hP
  have hl := lv_entry ([.ref h0]) (n := 1) (Nat.le_of_ble_eq_true rfl)
  rw [lg_entry_eq]
  generalize (lg_sl ([.ref h0]) ++ List.replicate (1 - (lg_sl ([.ref h0])).length) Slot.unset).toArray = ls at hl ⊢
  have hl : lv_has ls 1 [(0, .ref h0)] := hl
  refine lv_aload_n hx hb dX9_init_0 rfl (lv_at hl 0 rfl) ?_
  refine W.objInit hx hb hown (hts _ gc_268) (hts _ gc_88) (hts _ gc_89) rfl (by rw [hml]; exact hl.1) rfl dX9_init_1 (Nat.le_of_ble_eq_true rfl) (Nat.le_of_ble_eq_true rfl) ?_
  refine W.eq (g2 := F0 m 4 ls []) rfl ?_
  refine lv_aload_n hx hb dX9_init_4 rfl (lv_at hl 0 rfl) ?_
  refine lv_bipush (v := nI 6) hx hb dX9_init_5 (by decide) ?_
  refine my_newa hx hb hts hK hP hD hS hA (n := 6) rfl (by decide) (Nat.le_of_ble_eq_true rfl) (Nat.le_of_ble_eq_true rfl) dX9_init_7 (fun q0 H hP hD hS => ?_)
  have hP : va_P D cls_ [(h0, .inr (9, [.null, .int 0, .int 0])), (q0, .inl (ty.1, 6, .inl (fun _ => 0)))] H := hP
  have hD : va_D A [(h0, .inr (9, [.null, .int 0, .int 0])), (q0, .inl (ty.1, 6, .inl (fun _ => 0)))] := hD
  refine W.widen (k := 1) (n := 6) (Nat.le_of_ble_eq_true rfl) (Nat.le_of_ble_eq_true rfl) ?_
  refine va_putF (D := D) (ci := 9) (v := .ref q0) (ty := tyT 9 0) (C := rn 9) (T := tT 9) (N := nF 9) (ref := rn 9) hx hb hts (layT 9 (by decide)) (tyT 9) (tyT_ok 9 (by decide)) (nmT_ok 9 (by decide)) hown hK hP hD hS 0 rfl (clsT 9 (by decide)) 0 (by decide) (hts _ gc_269) (fun _ h9 => h9) rfl hin rfl (tyT_ok 9 (by decide) 0 (by decide)) rfl rfl (Nat.le_of_ble_eq_true rfl) dX9_init_9 (fun H locs hP hD hS => ?_)
  have hP : va_P D cls_ [(h0, .inr (9, [.ref q0, .int 0, .int 0])), (q0, .inl (ty.1, 6, .inl (fun _ => 0)))] H := hP
  have hD : va_D A [(h0, .inr (9, [.ref q0, .int 0, .int 0])), (q0, .inl (ty.1, 6, .inl (fun _ => 0)))] := hD
  refine W.widen (k := 1) (n := 6) (Nat.le_of_ble_eq_true rfl) (Nat.le_of_ble_eq_true rfl) ?_
  exact W.vret hx hb hr (fun t ht hW => ⟨⟨[q0], rfl, trivial, by rw [ht]; exact hP, hD⟩, hS.F ht⟩) hS.2.2 dX9_init_12
def fw_8 (ty : ClassId × ClassId) (n0 : Nat) (h0 : Nat) (f : List Nat) : va_W := [(h0, .inr (8, [.int (nI n0), .ref (f.getD 0 0), .int 0])), ((f.getD 0 0), .inl (ty.1, 41, .inl (fun _ => 0)))]
set_option maxHeartbeats 4000000 in
set_option maxRecDepth 100000 in
theorem k_8 (l : Launch) (D : va_G) (ty : ClassId × ClassId) (h0 sz : Nat) (n0 : Nat) (hn : n0 ≤ 41) : Met l yX8_init (Cond.code yX8_init cX8_init 2 none :: TG) { frames := 1, cells := 1, slots := 41, locals := 16 } (PcI D ty [.ref h0, .int (nI n0)] sz [(h0, .inr (8, [.int 0, .null, .int 0]))]) (QcI D (fw_8 ty n0 h0) [(h0, .inr (8, [.int 0, .null, .int 0]))] sz) 1 41 (va_A [(h0, .inr (8, [.int 0, .null, .int 0]))] sz) := by
  refine Met.ofW (cc := cX8_init) (maxL := 2) (ret := none) (by decide) rfl ?_
  intro p e s m args below meth c s₁ B hml hv
  obtain ⟨rfl, hsz, hP, hK, hN⟩ := hv
  have hx := B.exec
  have hb := B.bytes
  have hr := B.returns
  have hts0 := atoms_spec (ws := Cond.code yX8_init cX8_init 2 none :: TG) B.pre
  have hts : ∀ w ∈ TG, w.before _ s = true := fun w hw => hts0 w (List.mem_cons_of_mem _ hw)
  have hown : s.vm.findClass RX8 = some m.cls := findClass_of_methodNamed B.named
  have hlocks := B.notSynchronized
  have hin : meth.name = "<init>" := (name_of_methodNamed B.named B.method).1
  subst hsz
  have hD := D1 (w := (h0, .inr (8, [.int 0, .null, .int 0]))) (sz := s.heap.size)
  unfold QcI
  generalize hAe : va_A [(h0, .inr (8, [.int 0, .null, .int 0]))] s.heap.size = A at hD ⊢
  have hA : ∀ q : Nat, s.heap.size ≤ q → A q := fun q h => by rw [← hAe]; exact Or.inr h
  have hS : va_S A s.heap s.heap [] := va_S.rf
  have hP : va_P D cls_ [(h0, .inr (8, [.int 0, .null, .int 0]))] s.heap := hP
  have hl := lv_entry ([.ref h0, .int (nI n0)]) (n := 2) (Nat.le_of_ble_eq_true rfl)
  rw [lg_entry_eq]
  generalize (lg_sl ([.ref h0, .int (nI n0)]) ++ List.replicate (2 - (lg_sl ([.ref h0, .int (nI n0)])).length) Slot.unset).toArray = ls at hl ⊢
  have hl : lv_has ls 2 [(0, .ref h0), (1, .int (nI n0))] := hl
  refine lv_aload_n hx hb dX8_init_0 rfl (lv_at hl 0 rfl) ?_
  refine W.objInit hx hb hown (hts _ gc_101) (hts _ gc_88) (hts _ gc_89) rfl (by rw [hml]; exact hl.1) rfl dX8_init_1 (Nat.le_of_ble_eq_true rfl) (Nat.le_of_ble_eq_true rfl) ?_
  refine W.eq (g2 := F0 m 4 ls []) rfl ?_
  refine lv_aload_n hx hb dX8_init_4 rfl (lv_at hl 0 rfl) ?_
  refine lv_bipush (v := nI 41) hx hb dX8_init_5 (by decide) ?_
  refine my_newa hx hb hts hK hP hD hS hA (n := 41) rfl (by decide) (Nat.le_of_ble_eq_true rfl) (Nat.le_of_ble_eq_true rfl) dX8_init_7 (fun q0 H hP hD hS => ?_)
  have hP : va_P D cls_ [(h0, .inr (8, [.int 0, .null, .int 0])), (q0, .inl (ty.1, 41, .inl (fun _ => 0)))] H := hP
  have hD : va_D A [(h0, .inr (8, [.int 0, .null, .int 0])), (q0, .inl (ty.1, 41, .inl (fun _ => 0)))] := hD
  refine W.widen (k := 1) (n := 41) (Nat.le_of_ble_eq_true rfl) (Nat.le_of_ble_eq_true rfl) ?_
  refine va_putF (D := D) (ci := 8) (v := .ref q0) (ty := tyT 8 1) (C := rn 8) (T := tT 8) (N := nF 8) (ref := rn 8) hx hb hts (layT 8 (by decide)) (tyT 8) (tyT_ok 8 (by decide)) (nmT_ok 8 (by decide)) hown hK hP hD hS 0 rfl (clsT 8 (by decide)) 1 (by decide) (hts _ gc_107) (fun _ h9 => h9) rfl hin rfl (tyT_ok 8 (by decide) 1 (by decide)) rfl rfl (Nat.le_of_ble_eq_true rfl) dX8_init_9 (fun H locs hP hD hS => ?_)
  have hP : va_P D cls_ [(h0, .inr (8, [.int 0, .ref q0, .int 0])), (q0, .inl (ty.1, 41, .inl (fun _ => 0)))] H := hP
  have hD : va_D A [(h0, .inr (8, [.int 0, .ref q0, .int 0])), (q0, .inl (ty.1, 41, .inl (fun _ => 0)))] := hD
  refine lv_aload_n hx hb dX8_init_12 rfl (lv_at hl 0 rfl) ?_
  refine lv_iload_n hx hb dX8_init_13 rfl (lv_at hl 1 rfl) ?_
  refine lv_bipush (v := nI 41) hx hb dX8_init_14 (by decide) ?_
  refine va_mmin hx hb (hml.trans hl.1.symm) hown (hts _ gc_102) (hts _ min_sta) (hts _ mat_ini) (hts _ min_cod) (Nat.le_of_ble_eq_true rfl) (Nat.le_of_ble_eq_true rfl) (Nat.le_of_ble_eq_true rfl) (Nat.le_of_ble_eq_true rfl) dX8_init_16 ?_
  have emin : (if nI 41 < nI n0 then nI 41 else nI n0) = nI n0 := if_neg (by rw [q_lt (by omega) (by omega)]; omega)
  rw [emin]
  refine va_putF (D := D) (ci := 8) (v := .int (nI n0)) (ty := tyT 8 0) (C := rn 8) (T := tT 8) (N := nF 8) (ref := rn 8) hx hb hts (layT 8 (by decide)) (tyT 8) (tyT_ok 8 (by decide)) (nmT_ok 8 (by decide)) hown hK hP hD hS 0 rfl (clsT 8 (by decide)) 0 (by decide) (hts _ gc_105) (fun _ h9 => h9) rfl hin rfl (tyT_ok 8 (by decide) 0 (by decide)) rfl rfl (Nat.le_of_ble_eq_true rfl) dX8_init_19 (fun H locs hP hD hS => ?_)
  have hP : va_P D cls_ [(h0, .inr (8, [.int (nI n0), .ref q0, .int 0])), (q0, .inl (ty.1, 41, .inl (fun _ => 0)))] H := hP
  have hD : va_D A [(h0, .inr (8, [.int (nI n0), .ref q0, .int 0])), (q0, .inl (ty.1, 41, .inl (fun _ => 0)))] := hD
  refine W.widen (k := 1) (n := 41) (Nat.le_of_ble_eq_true rfl) (Nat.le_of_ble_eq_true rfl) ?_
  exact W.vret hx hb hr (fun t ht hW => ⟨⟨[q0], rfl, trivial, by rw [ht]; exact hP, hD⟩, hS.F ht⟩) hS.2.2 dX8_init_22
