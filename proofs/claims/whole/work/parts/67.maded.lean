/-! the constructors, written by wip/whole/congen.py -/
def fw_10 (ty : ClassId × ClassId) (h0 : Nat) (u : List (List Nat)) : va_W := ([(h0, .inr (10, [.ref ((u.getD 7 []).getD 0 0), .ref ((u.getD 7 []).getD 1 0), .ref ((u.getD 7 []).getD 2 0), .ref ((u.getD 7 []).getD 3 0), .int (nI 0), .int (nI 0)]))] ++ fw_0 ty ((u.getD 7 []).getD 0 0) (u.getD 0 []) ++ fw_3 ty (((u.getD 7 []).getD 0 0)) ((u.getD 7 []).getD 1 0) (u.getD 1 []) ++ fw_7_1 ty ((u.getD 7 []).getD 2 0) (u.getD 2 []) ++ [(((u.getD 7 []).getD 3 0), .inl (ty.2, 4, .inr (.inr (.inr (.inr (va_up (va_up (va_up (va_up (fun _ => none) (nI 0).toNatClampNeg (some ((u.getD 7 []).getD 4 0))) (nI 1).toNatClampNeg (some ((u.getD 7 []).getD 5 0))) (nI 2).toNatClampNeg (some ((u.getD 7 []).getD 6 0))) (nI 3).toNatClampNeg (some ((u.getD 7 []).getD 7 0))))))))] ++ fw_5 ty ((u.getD 7 []).getD 4 0) (u.getD 3 []) ++ fw_5 ty ((u.getD 7 []).getD 5 0) (u.getD 4 []) ++ fw_5 ty ((u.getD 7 []).getD 6 0) (u.getD 5 []) ++ fw_5 ty ((u.getD 7 []).getD 7 0) (u.getD 6 []))
set_option maxHeartbeats 4000000 in
set_option maxRecDepth 100000 in
theorem k_10 (l : Launch) (D : va_G) (ty : ClassId × ClassId) (h0 sz : Nat) : Met l yX10_init (Cond.code yX10_init cX10_init 2 none :: TG) { frames := 4, cells := 61, slots := 2187, locals := 78 } (PcI D ty [.ref h0] sz [(h0, .inr (10, [.null, .null, .null, .null, .int 0, .int 0]))]) (QcI D (fw_10 ty h0) [(h0, .inr (10, [.null, .null, .null, .null, .int 0, .int 0]))] sz) 61 2187 (va_A [(h0, .inr (10, [.null, .null, .null, .null, .int 0, .int 0]))] sz) := by
  refine Met.ofW (cc := cX10_init) (maxL := 2) (ret := none) (by decide) rfl ?_
  intro p e s m args below meth c s₁ B hml hv
  obtain ⟨rfl, hsz, hP, hK, hN⟩ := hv
  have hx := B.exec
  have hb := B.bytes
  have hr := B.returns
  have hts0 := atoms_spec (ws := Cond.code yX10_init cX10_init 2 none :: TG) B.pre
  have hts : ∀ w ∈ TG, w.before _ s = true := fun w hw => hts0 w (List.mem_cons_of_mem _ hw)
  have hown : s.vm.findClass RX10 = some m.cls := findClass_of_methodNamed B.named
  have hlocks := B.notSynchronized
  have hin : meth.name = "<init>" := (name_of_methodNamed B.named B.method).1
  subst hsz
  have hD := D1 (w := (h0, .inr (10, [.null, .null, .null, .null, .int 0, .int 0]))) (sz := s.heap.size)
  unfold QcI
  generalize hAe : va_A [(h0, .inr (10, [.null, .null, .null, .null, .int 0, .int 0]))] s.heap.size = A at hD ⊢
  have hA : ∀ q : Nat, s.heap.size ≤ q → A q := fun q h => by rw [← hAe]; exact Or.inr h
  have hS : va_S A s.heap s.heap [] := va_S.rf
  have hP : va_P D cls_ [(h0, .inr (10, [.null, .null, .null, .null, .int 0, .int 0]))] s.heap := hP
  have hl := lv_entry ([.ref h0]) (n := 2) (Nat.le_of_ble_eq_true rfl)
  rw [lg_entry_eq]
  generalize (lg_sl ([.ref h0]) ++ List.replicate (2 - (lg_sl ([.ref h0])).length) Slot.unset).toArray = ls at hl ⊢
  have hl : lv_has ls 2 [(0, .ref h0)] := hl
  refine lv_aload_n hx hb dX10_init_0 rfl (lv_at hl 0 rfl) ?_
  refine W.objInit hx hb hown (hts _ gc_87) (hts _ gc_88) (hts _ gc_89) rfl (by rw [hml]; exact hl.1) rfl dX10_init_1 (Nat.le_of_ble_eq_true rfl) (Nat.le_of_ble_eq_true rfl) ?_
  refine W.eq (g2 := F0 m 4 ls []) rfl ?_
  refine lv_aload_n hx hb dX10_init_4 rfl (lv_at hl 0 rfl) ?_
  refine va_new (ci := 0) (fs := [.null, .null, .null, .null, .null, .null, .int 0, .int 0]) (C := rn 0) (T := tT 0) (N := nF 0) hx hb hts (layT 0 (by decide)) (tyT 0) (tyT_ok 0 (by decide)) hown (hts _ gc_90) (hts _ gc_91) (hts _ gc_67) hK hP hD hS hA (clsT 0 (by decide)) (fun j hj => by match j, hj with | 0, _ => rfl | 1, _ => rfl | 2, _ => rfl | 3, _ => rfl | 4, _ => rfl | 5, _ => rfl | 6, _ => rfl | 7, _ => rfl) (Nat.le_of_ble_eq_true rfl) (Nat.le_of_ble_eq_true rfl) dX10_init_5 (fun q0 H hP hD hS => ?_)
  have hP : va_P D cls_ ([(h0, .inr (10, [.null, .null, .null, .null, .int 0, .int 0]))] ++ [(q0, .inr (0, [.null, .null, .null, .null, .null, .null, .int 0, .int 0]))]) H := hP
  have hD : va_D A ([(h0, .inr (10, [.null, .null, .null, .null, .int 0, .int 0]))] ++ [(q0, .inr (0, [.null, .null, .null, .null, .null, .null, .int 0, .int 0]))]) := hD
  refine W.widen (k := 1) (n := 8) (Nat.le_of_ble_eq_true rfl) (Nat.le_of_ble_eq_true rfl) ?_
  refine lv_dup hx hb dX10_init_8 rfl ?_
  refine my_initN (n := 0) (F := fw_0 ty q0) (wr := ([(h0, .inr (10, [.null, .null, .null, .null, .int 0, .int 0]))])) (q := q0) (As := []) (rest := [.ref q0, .ref h0]) hx hb hml hown hts hK hN hP hD hS hA (k_0 l D ty q0 H.size) gc_94 (List.mem_of_getElem? (i := 0) rfl) gc_67 gc_93 rfl ⟨by decide, by decide, by decide +kernel⟩ ⟨(Nat.le_of_ble_eq_true rfl), (Nat.le_of_ble_eq_true rfl)⟩ ⟨(Nat.le_of_ble_eq_true rfl), (Nat.le_of_ble_eq_true rfl)⟩ rfl hl.1 (Nat.le_of_ble_eq_true rfl) dX10_init_9 (fun f1 H locs hP hD hS => ?_)
  have hP : va_P D cls_ ([(h0, .inr (10, [.null, .null, .null, .null, .int 0, .int 0]))] ++ fw_0 ty q0 f1) H := hP
  have hD : va_D A ([(h0, .inr (10, [.null, .null, .null, .null, .int 0, .int 0]))] ++ fw_0 ty q0 f1) := hD
  refine W.widen (k := 19) (n := 223) (Nat.le_of_ble_eq_true rfl) (Nat.le_of_ble_eq_true rfl) ?_
  refine va_putF (D := D) (ci := 10) (v := .ref q0) (ty := tyT 10 0) (C := rn 10) (T := tT 10) (N := nF 10) (ref := rn 10) hx hb hts (layT 10 (by decide)) (tyT 10) (tyT_ok 10 (by decide)) (nmT_ok 10 (by decide)) hown hK hP hD hS 0 rfl (clsT 10 (by decide)) 0 (by decide) (hts _ gc_387) (fun _ h9 => h9) rfl hin rfl (tyT_ok 10 (by decide) 0 (by decide)) rfl rfl (Nat.le_of_ble_eq_true rfl) dX10_init_12 (fun H locs hP hD hS => ?_)
  have hP : va_P D cls_ ([(h0, .inr (10, [.ref q0, .null, .null, .null, .int 0, .int 0]))] ++ fw_0 ty q0 f1) H := hP
  have hD : va_D A ([(h0, .inr (10, [.ref q0, .null, .null, .null, .int 0, .int 0]))] ++ fw_0 ty q0 f1) := hD
  refine lv_aload_n hx hb dX10_init_15 rfl (lv_at hl 0 rfl) ?_
  refine va_new (ci := 3) (fs := [.null, .null, .null, .null, .int 0, .int 0, .int 0, .int 0, .long 0, .long 0]) (C := rn 3) (T := tT 3) (N := nF 3) hx hb hts (layT 3 (by decide)) (tyT 3) (tyT_ok 3 (by decide)) hown (hts _ gc_247) (hts _ gc_248) (hts _ gc_74) hK hP hD hS hA (clsT 3 (by decide)) (fun j hj => by match j, hj with | 0, _ => rfl | 1, _ => rfl | 2, _ => rfl | 3, _ => rfl | 4, _ => rfl | 5, _ => rfl | 6, _ => rfl | 7, _ => rfl | 8, _ => rfl | 9, _ => rfl) (Nat.le_of_ble_eq_true rfl) (Nat.le_of_ble_eq_true rfl) dX10_init_16 (fun q2 H hP hD hS => ?_)
  have hP : va_P D cls_ ([(h0, .inr (10, [.ref q0, .null, .null, .null, .int 0, .int 0]))] ++ fw_0 ty q0 f1 ++ [(q2, .inr (3, [.null, .null, .null, .null, .int 0, .int 0, .int 0, .int 0, .long 0, .long 0]))]) H := hP
  have hD : va_D A ([(h0, .inr (10, [.ref q0, .null, .null, .null, .int 0, .int 0]))] ++ fw_0 ty q0 f1 ++ [(q2, .inr (3, [.null, .null, .null, .null, .int 0, .int 0, .int 0, .int 0, .long 0, .long 0]))]) := hD
  refine W.widen (k := 20) (n := 233) (Nat.le_of_ble_eq_true rfl) (Nat.le_of_ble_eq_true rfl) ?_
  refine lv_dup hx hb dX10_init_19 rfl ?_
  refine lv_aload_n hx hb dX10_init_20 rfl (lv_at hl 0 rfl) ?_
  refine va_get (D := D) (ci := 10) (v := .ref q0) (C := rn 10) (T := tT 10) (N := nF 10) (ref := rn 10) hx hb hts (layT 10 (by decide)) hown hK hP 0 rfl (clsT 10 (by decide)) 0 (by decide) (hts _ gc_387) (fun _ h9 => h9) rfl dX10_init_21 ?_
  refine my_init (n := 1) (F := fw_3 ty (q0) q2) (wr := ([(h0, .inr (10, [.ref q0, .null, .null, .null, .int 0, .int 0]))] ++ fw_0 ty q0 f1)) (q := q2) (As := [.ref q0]) (rest := [.ref q2, .ref h0]) hx hb hml hown hts hK hN hP hD hS hA (k_3 l D ty q2 H.size (q0)) gc_251 gc_249 gc_74 gc_250 rfl ⟨by decide, by decide, by decide +kernel⟩ ⟨(Nat.le_of_ble_eq_true rfl), (Nat.le_of_ble_eq_true rfl)⟩ ⟨(Nat.le_of_ble_eq_true rfl), (Nat.le_of_ble_eq_true rfl)⟩ rfl hl.1 (Nat.le_of_ble_eq_true rfl) dX10_init_24 (fun f3 H locs hP hD hS => ?_)
  have hP : va_P D cls_ ([(h0, .inr (10, [.ref q0, .null, .null, .null, .int 0, .int 0]))] ++ fw_0 ty q0 f1 ++ fw_3 ty (q0) q2 f3) H := hP
  have hD : va_D A ([(h0, .inr (10, [.ref q0, .null, .null, .null, .int 0, .int 0]))] ++ fw_0 ty q0 f1 ++ fw_3 ty (q0) q2 f3) := hD
  refine W.widen (k := 37) (n := 886) (Nat.le_of_ble_eq_true rfl) (Nat.le_of_ble_eq_true rfl) ?_
  refine va_putF (D := D) (ci := 10) (v := .ref q2) (ty := tyT 10 1) (C := rn 10) (T := tT 10) (N := nF 10) (ref := rn 10) hx hb hts (layT 10 (by decide)) (tyT 10) (tyT_ok 10 (by decide)) (nmT_ok 10 (by decide)) hown hK hP hD hS 0 rfl (clsT 10 (by decide)) 1 (by decide) (hts _ gc_388) (fun _ h9 => h9) rfl hin rfl (tyT_ok 10 (by decide) 1 (by decide)) rfl rfl (Nat.le_of_ble_eq_true rfl) dX10_init_27 (fun H locs hP hD hS => ?_)
  have hP : va_P D cls_ ([(h0, .inr (10, [.ref q0, .ref q2, .null, .null, .int 0, .int 0]))] ++ fw_0 ty q0 f1 ++ fw_3 ty (q0) q2 f3) H := hP
  have hD : va_D A ([(h0, .inr (10, [.ref q0, .ref q2, .null, .null, .int 0, .int 0]))] ++ fw_0 ty q0 f1 ++ fw_3 ty (q0) q2 f3) := hD
  refine lv_aload_n hx hb dX10_init_30 rfl (lv_at hl 0 rfl) ?_
  refine va_new (ci := 7) (fs := [.null, .null, .null, .null, .null, .null, .null, .null, .int 0, .null, .int 0]) (C := rn 7) (T := tT 7) (N := nF 7) hx hb hts (layT 7 (by decide)) (tyT 7) (tyT_ok 7 (by decide)) hown (hts _ gc_365) (hts _ gc_254) (hts _ gc_75) hK hP hD hS hA (clsT 7 (by decide)) (fun j hj => by match j, hj with | 0, _ => rfl | 1, _ => rfl | 2, _ => rfl | 3, _ => rfl | 4, _ => rfl | 5, _ => rfl | 6, _ => rfl | 7, _ => rfl | 8, _ => rfl | 9, _ => rfl | 10, _ => rfl) (Nat.le_of_ble_eq_true rfl) (Nat.le_of_ble_eq_true rfl) dX10_init_31 (fun q4 H hP hD hS => ?_)
  have hP : va_P D cls_ ([(h0, .inr (10, [.ref q0, .ref q2, .null, .null, .int 0, .int 0]))] ++ fw_0 ty q0 f1 ++ fw_3 ty (q0) q2 f3 ++ [(q4, .inr (7, [.null, .null, .null, .null, .null, .null, .null, .null, .int 0, .null, .int 0]))]) H := hP
  have hD : va_D A ([(h0, .inr (10, [.ref q0, .ref q2, .null, .null, .int 0, .int 0]))] ++ fw_0 ty q0 f1 ++ fw_3 ty (q0) q2 f3 ++ [(q4, .inr (7, [.null, .null, .null, .null, .null, .null, .null, .null, .int 0, .null, .int 0]))]) := hD
  refine W.widen (k := 38) (n := 897) (Nat.le_of_ble_eq_true rfl) (Nat.le_of_ble_eq_true rfl) ?_
  refine lv_dup hx hb dX10_init_34 rfl ?_
  refine lv_iconst (v := nI 1) hx hb dX10_init_35 (by decide) ?_
  refine my_init (n := 1) (F := fw_7_1 ty q4) (wr := ([(h0, .inr (10, [.ref q0, .ref q2, .null, .null, .int 0, .int 0]))] ++ fw_0 ty q0 f1 ++ fw_3 ty (q0) q2 f3)) (q := q4) (As := [.int (nI 1)]) (rest := [.ref q4, .ref h0]) hx hb hml hown hts hK hN hP hD hS hA (k_7_1 l D ty q4 H.size) gc_257 gc_366 gc_75 gc_256 rfl ⟨by decide, by decide, by decide +kernel⟩ ⟨(Nat.le_of_ble_eq_true rfl), (Nat.le_of_ble_eq_true rfl)⟩ ⟨(Nat.le_of_ble_eq_true rfl), (Nat.le_of_ble_eq_true rfl)⟩ rfl hl.1 (Nat.le_of_ble_eq_true rfl) dX10_init_36 (fun f5 H locs hP hD hS => ?_)
  have hP : va_P D cls_ ([(h0, .inr (10, [.ref q0, .ref q2, .null, .null, .int 0, .int 0]))] ++ fw_0 ty q0 f1 ++ fw_3 ty (q0) q2 f3 ++ fw_7_1 ty q4 f5) H := hP
  have hD : va_D A ([(h0, .inr (10, [.ref q0, .ref q2, .null, .null, .int 0, .int 0]))] ++ fw_0 ty q0 f1 ++ fw_3 ty (q0) q2 f3 ++ fw_7_1 ty q4 f5) := hD
  refine W.widen (k := 52) (n := 1931) (Nat.le_of_ble_eq_true rfl) (Nat.le_of_ble_eq_true rfl) ?_
  refine va_putF (D := D) (ci := 10) (v := .ref q4) (ty := tyT 10 2) (C := rn 10) (T := tT 10) (N := nF 10) (ref := rn 10) hx hb hts (layT 10 (by decide)) (tyT 10) (tyT_ok 10 (by decide)) (nmT_ok 10 (by decide)) hown hK hP hD hS 0 rfl (clsT 10 (by decide)) 2 (by decide) (hts _ gc_389) (fun _ h9 => h9) rfl hin rfl (tyT_ok 10 (by decide) 2 (by decide)) rfl rfl (Nat.le_of_ble_eq_true rfl) dX10_init_39 (fun H locs hP hD hS => ?_)
  have hP : va_P D cls_ ([(h0, .inr (10, [.ref q0, .ref q2, .ref q4, .null, .int 0, .int 0]))] ++ fw_0 ty q0 f1 ++ fw_3 ty (q0) q2 f3 ++ fw_7_1 ty q4 f5) H := hP
  have hD : va_D A ([(h0, .inr (10, [.ref q0, .ref q2, .ref q4, .null, .int 0, .int 0]))] ++ fw_0 ty q0 f1 ++ fw_3 ty (q0) q2 f3 ++ fw_7_1 ty q4 f5) := hD
  refine lv_aload_n hx hb dX10_init_42 rfl (lv_at hl 0 rfl) ?_
  refine lv_iconst (v := nI 4) hx hb dX10_init_43 (by decide) ?_
  refine my_newq hx hb hown (hts _ gc_367) hN hK hP hD hS hA (n := 4) rfl (by decide) (Nat.le_of_ble_eq_true rfl) (Nat.le_of_ble_eq_true rfl) dX10_init_44 (fun q6 H hP hD hS => ?_)
  have hP : va_P D cls_ ([(h0, .inr (10, [.ref q0, .ref q2, .ref q4, .null, .int 0, .int 0]))] ++ fw_0 ty q0 f1 ++ fw_3 ty (q0) q2 f3 ++ fw_7_1 ty q4 f5 ++ [(q6, .inl (ty.2, 4, .inr (.inr (.inr (.inr (fun _ => none))))))]) H := hP
  have hD : va_D A ([(h0, .inr (10, [.ref q0, .ref q2, .ref q4, .null, .int 0, .int 0]))] ++ fw_0 ty q0 f1 ++ fw_3 ty (q0) q2 f3 ++ fw_7_1 ty q4 f5 ++ [(q6, .inl (ty.2, 4, .inr (.inr (.inr (.inr (fun _ => none))))))]) := hD
  refine W.widen (k := 53) (n := 1935) (Nat.le_of_ble_eq_true rfl) (Nat.le_of_ble_eq_true rfl) ?_
  refine va_putF (D := D) (ci := 10) (v := .ref q6) (ty := tyT 10 3) (C := rn 10) (T := tT 10) (N := nF 10) (ref := rn 10) hx hb hts (layT 10 (by decide)) (tyT 10) (tyT_ok 10 (by decide)) (nmT_ok 10 (by decide)) hown hK hP hD hS 0 rfl (clsT 10 (by decide)) 3 (by decide) (hts _ gc_390) (fun _ h9 => h9) rfl hin rfl (tyT_ok 10 (by decide) 3 (by decide)) rfl rfl (Nat.le_of_ble_eq_true rfl) dX10_init_47 (fun H locs hP hD hS => ?_)
  have hP : va_P D cls_ ([(h0, .inr (10, [.ref q0, .ref q2, .ref q4, .ref q6, .int 0, .int 0]))] ++ fw_0 ty q0 f1 ++ fw_3 ty (q0) q2 f3 ++ fw_7_1 ty q4 f5 ++ [(q6, .inl (ty.2, 4, .inr (.inr (.inr (.inr (fun _ => none))))))]) H := hP
  have hD : va_D A ([(h0, .inr (10, [.ref q0, .ref q2, .ref q4, .ref q6, .int 0, .int 0]))] ++ fw_0 ty q0 f1 ++ fw_3 ty (q0) q2 f3 ++ fw_7_1 ty q4 f5 ++ [(q6, .inl (ty.2, 4, .inr (.inr (.inr (.inr (fun _ => none))))))]) := hD
  refine lv_iconst (v := nI 0) hx hb dX10_init_50 (by decide) ?_
  refine lv_istore_n (lv' := [(1, .int (nI 0)), (0, .ref h0)]) hx hb dX10_init_51 rfl hl (by decide) rfl (fun ls hl => ?_)
  refine lv_iload_n hx hb dX10_init_52 rfl (lv_at hl 0 rfl) ?_
  refine lv_iconst (v := nI 4) hx hb dX10_init_53 (by decide) ?_
  refine lv_icmp_ge (tgt := 76) hx hb dX10_init_54 (by decide) (fun q => absurd q (by decide)) (fun _ => ?_)
  refine lv_aload_n hx hb dX10_init_57 rfl (lv_at hl 1 rfl) ?_
  refine va_get (D := D) (ci := 10) (v := .ref q6) (C := rn 10) (T := tT 10) (N := nF 10) (ref := rn 10) hx hb hts (layT 10 (by decide)) hown hK hP 0 rfl (clsT 10 (by decide)) 3 (by decide) (hts _ gc_390) (fun _ h9 => h9) rfl dX10_init_58 ?_
  refine lv_iload_n hx hb dX10_init_61 rfl (lv_at hl 0 rfl) ?_
  refine va_new (ci := 5) (fs := [.null, .int 0, .int 0]) (C := rn 5) (T := tT 5) (N := nF 5) hx hb hts (layT 5 (by decide)) (tyT 5) (tyT_ok 5 (by decide)) hown (hts _ gc_367) (hts _ gc_369) (hts _ gc_77) hK hP hD hS hA (clsT 5 (by decide)) (fun j hj => by match j, hj with | 0, _ => rfl | 1, _ => rfl | 2, _ => rfl) (Nat.le_of_ble_eq_true rfl) (Nat.le_of_ble_eq_true rfl) dX10_init_62 (fun q7 H hP hD hS => ?_)
  have hP : va_P D cls_ ([(h0, .inr (10, [.ref q0, .ref q2, .ref q4, .ref q6, .int 0, .int 0]))] ++ fw_0 ty q0 f1 ++ fw_3 ty (q0) q2 f3 ++ fw_7_1 ty q4 f5 ++ [(q6, .inl (ty.2, 4, .inr (.inr (.inr (.inr (fun _ => none))))))] ++ [(q7, .inr (5, [.null, .int 0, .int 0]))]) H := hP
  have hD : va_D A ([(h0, .inr (10, [.ref q0, .ref q2, .ref q4, .ref q6, .int 0, .int 0]))] ++ fw_0 ty q0 f1 ++ fw_3 ty (q0) q2 f3 ++ fw_7_1 ty q4 f5 ++ [(q6, .inl (ty.2, 4, .inr (.inr (.inr (.inr (fun _ => none))))))] ++ [(q7, .inr (5, [.null, .int 0, .int 0]))]) := hD
  refine W.widen (k := 54) (n := 1938) (Nat.le_of_ble_eq_true rfl) (Nat.le_of_ble_eq_true rfl) ?_
  refine lv_dup hx hb dX10_init_65 rfl ?_
  refine my_initN (n := 0) (F := fw_5 ty q7) (wr := ([(h0, .inr (10, [.ref q0, .ref q2, .ref q4, .ref q6, .int 0, .int 0]))] ++ fw_0 ty q0 f1 ++ fw_3 ty (q0) q2 f3 ++ fw_7_1 ty q4 f5 ++ [(q6, .inl (ty.2, 4, .inr (.inr (.inr (.inr (fun _ => none))))))])) (q := q7) (As := []) (rest := [.ref q7, .int (nI 0), .ref q6]) hx hb hml hown hts hK hN hP hD hS hA (k_5 l D ty q7 H.size) gc_372 (List.mem_of_getElem? (i := 1) rfl) gc_77 gc_371 rfl ⟨by decide, by decide, by decide +kernel⟩ ⟨(Nat.le_of_ble_eq_true rfl), (Nat.le_of_ble_eq_true rfl)⟩ ⟨(Nat.le_of_ble_eq_true rfl), (Nat.le_of_ble_eq_true rfl)⟩ rfl hl.1 (Nat.le_of_ble_eq_true rfl) dX10_init_66 (fun f8 H locs hP hD hS => ?_)
  have hP : va_P D cls_ ([(h0, .inr (10, [.ref q0, .ref q2, .ref q4, .ref q6, .int 0, .int 0]))] ++ fw_0 ty q0 f1 ++ fw_3 ty (q0) q2 f3 ++ fw_7_1 ty q4 f5 ++ [(q6, .inl (ty.2, 4, .inr (.inr (.inr (.inr (fun _ => none))))))] ++ fw_5 ty q7 f8) H := hP
  have hD : va_D A ([(h0, .inr (10, [.ref q0, .ref q2, .ref q4, .ref q6, .int 0, .int 0]))] ++ fw_0 ty q0 f1 ++ fw_3 ty (q0) q2 f3 ++ fw_7_1 ty q4 f5 ++ [(q6, .inl (ty.2, 4, .inr (.inr (.inr (.inr (fun _ => none))))))] ++ fw_5 ty q7 f8) := hD
  refine W.widen (k := 55) (n := 1998) (Nat.le_of_ble_eq_true rfl) (Nat.le_of_ble_eq_true rfl) ?_
  refine va_astq hx hb hK hP hD hS 53 1 54 5 (r := (rn 5, tT 5, nF 5)) rfl rfl rfl (clsT 5 (by decide)) (i := nI 0) (by rw [q_in (by omega) (by omega)]; omega) dX10_init_69 (fun H locs hP hD hS => ?_)
  have hP : va_P D cls_ ([(h0, .inr (10, [.ref q0, .ref q2, .ref q4, .ref q6, .int 0, .int 0]))] ++ fw_0 ty q0 f1 ++ fw_3 ty (q0) q2 f3 ++ fw_7_1 ty q4 f5 ++ [(q6, .inl (ty.2, 4, .inr (.inr (.inr (.inr (va_up (fun _ => none) (nI 0).toNatClampNeg (some q7)))))))] ++ fw_5 ty q7 f8) H := hP
  have hD : va_D A ([(h0, .inr (10, [.ref q0, .ref q2, .ref q4, .ref q6, .int 0, .int 0]))] ++ fw_0 ty q0 f1 ++ fw_3 ty (q0) q2 f3 ++ fw_7_1 ty q4 f5 ++ [(q6, .inl (ty.2, 4, .inr (.inr (.inr (.inr (va_up (fun _ => none) (nI 0).toNatClampNeg (some q7)))))))] ++ fw_5 ty q7 f8) := hD
  refine lv_iinc (v := nI 1) (lv' := [(1, .int (nI 1)), (0, .ref h0)]) hx hb dX10_init_70 hl (k := 0) rfl (by decide) (by decide) rfl (fun ls hl => ?_)
  refine lv_goto (tgt := 52) hx hb dX10_init_73 (by decide) ?_
  refine lv_iload_n hx hb dX10_init_52 rfl (lv_at hl 0 rfl) ?_
  refine lv_iconst (v := nI 4) hx hb dX10_init_53 (by decide) ?_
  refine lv_icmp_ge (tgt := 76) hx hb dX10_init_54 (by decide) (fun q => absurd q (by decide)) (fun _ => ?_)
  refine lv_aload_n hx hb dX10_init_57 rfl (lv_at hl 1 rfl) ?_
  refine va_get (D := D) (ci := 10) (v := .ref q6) (C := rn 10) (T := tT 10) (N := nF 10) (ref := rn 10) hx hb hts (layT 10 (by decide)) hown hK hP 0 rfl (clsT 10 (by decide)) 3 (by decide) (hts _ gc_390) (fun _ h9 => h9) rfl dX10_init_58 ?_
  refine lv_iload_n hx hb dX10_init_61 rfl (lv_at hl 0 rfl) ?_
  refine va_new (ci := 5) (fs := [.null, .int 0, .int 0]) (C := rn 5) (T := tT 5) (N := nF 5) hx hb hts (layT 5 (by decide)) (tyT 5) (tyT_ok 5 (by decide)) hown (hts _ gc_367) (hts _ gc_369) (hts _ gc_77) hK hP hD hS hA (clsT 5 (by decide)) (fun j hj => by match j, hj with | 0, _ => rfl | 1, _ => rfl | 2, _ => rfl) (Nat.le_of_ble_eq_true rfl) (Nat.le_of_ble_eq_true rfl) dX10_init_62 (fun q9 H hP hD hS => ?_)
  have hP : va_P D cls_ ([(h0, .inr (10, [.ref q0, .ref q2, .ref q4, .ref q6, .int 0, .int 0]))] ++ fw_0 ty q0 f1 ++ fw_3 ty (q0) q2 f3 ++ fw_7_1 ty q4 f5 ++ [(q6, .inl (ty.2, 4, .inr (.inr (.inr (.inr (va_up (fun _ => none) (nI 0).toNatClampNeg (some q7)))))))] ++ fw_5 ty q7 f8 ++ [(q9, .inr (5, [.null, .int 0, .int 0]))]) H := hP
  have hD : va_D A ([(h0, .inr (10, [.ref q0, .ref q2, .ref q4, .ref q6, .int 0, .int 0]))] ++ fw_0 ty q0 f1 ++ fw_3 ty (q0) q2 f3 ++ fw_7_1 ty q4 f5 ++ [(q6, .inl (ty.2, 4, .inr (.inr (.inr (.inr (va_up (fun _ => none) (nI 0).toNatClampNeg (some q7)))))))] ++ fw_5 ty q7 f8 ++ [(q9, .inr (5, [.null, .int 0, .int 0]))]) := hD
  refine W.widen (k := 56) (n := 2001) (Nat.le_of_ble_eq_true rfl) (Nat.le_of_ble_eq_true rfl) ?_
  refine lv_dup hx hb dX10_init_65 rfl ?_
  refine my_initN (n := 0) (F := fw_5 ty q9) (wr := ([(h0, .inr (10, [.ref q0, .ref q2, .ref q4, .ref q6, .int 0, .int 0]))] ++ fw_0 ty q0 f1 ++ fw_3 ty (q0) q2 f3 ++ fw_7_1 ty q4 f5 ++ [(q6, .inl (ty.2, 4, .inr (.inr (.inr (.inr (va_up (fun _ => none) (nI 0).toNatClampNeg (some q7)))))))] ++ fw_5 ty q7 f8)) (q := q9) (As := []) (rest := [.ref q9, .int (nI 1), .ref q6]) hx hb hml hown hts hK hN hP hD hS hA (k_5 l D ty q9 H.size) gc_372 (List.mem_of_getElem? (i := 1) rfl) gc_77 gc_371 rfl ⟨by decide, by decide, by decide +kernel⟩ ⟨(Nat.le_of_ble_eq_true rfl), (Nat.le_of_ble_eq_true rfl)⟩ ⟨(Nat.le_of_ble_eq_true rfl), (Nat.le_of_ble_eq_true rfl)⟩ rfl hl.1 (Nat.le_of_ble_eq_true rfl) dX10_init_66 (fun f10 H locs hP hD hS => ?_)
  have hP : va_P D cls_ ([(h0, .inr (10, [.ref q0, .ref q2, .ref q4, .ref q6, .int 0, .int 0]))] ++ fw_0 ty q0 f1 ++ fw_3 ty (q0) q2 f3 ++ fw_7_1 ty q4 f5 ++ [(q6, .inl (ty.2, 4, .inr (.inr (.inr (.inr (va_up (fun _ => none) (nI 0).toNatClampNeg (some q7)))))))] ++ fw_5 ty q7 f8 ++ fw_5 ty q9 f10) H := hP
  have hD : va_D A ([(h0, .inr (10, [.ref q0, .ref q2, .ref q4, .ref q6, .int 0, .int 0]))] ++ fw_0 ty q0 f1 ++ fw_3 ty (q0) q2 f3 ++ fw_7_1 ty q4 f5 ++ [(q6, .inl (ty.2, 4, .inr (.inr (.inr (.inr (va_up (fun _ => none) (nI 0).toNatClampNeg (some q7)))))))] ++ fw_5 ty q7 f8 ++ fw_5 ty q9 f10) := hD
  refine W.widen (k := 57) (n := 2061) (Nat.le_of_ble_eq_true rfl) (Nat.le_of_ble_eq_true rfl) ?_
  refine va_astq hx hb hK hP hD hS 53 1 56 5 (r := (rn 5, tT 5, nF 5)) rfl rfl rfl (clsT 5 (by decide)) (i := nI 1) (by rw [q_in (by omega) (by omega)]; omega) dX10_init_69 (fun H locs hP hD hS => ?_)
  have hP : va_P D cls_ ([(h0, .inr (10, [.ref q0, .ref q2, .ref q4, .ref q6, .int 0, .int 0]))] ++ fw_0 ty q0 f1 ++ fw_3 ty (q0) q2 f3 ++ fw_7_1 ty q4 f5 ++ [(q6, .inl (ty.2, 4, .inr (.inr (.inr (.inr (va_up (va_up (fun _ => none) (nI 0).toNatClampNeg (some q7)) (nI 1).toNatClampNeg (some q9)))))))] ++ fw_5 ty q7 f8 ++ fw_5 ty q9 f10) H := hP
  have hD : va_D A ([(h0, .inr (10, [.ref q0, .ref q2, .ref q4, .ref q6, .int 0, .int 0]))] ++ fw_0 ty q0 f1 ++ fw_3 ty (q0) q2 f3 ++ fw_7_1 ty q4 f5 ++ [(q6, .inl (ty.2, 4, .inr (.inr (.inr (.inr (va_up (va_up (fun _ => none) (nI 0).toNatClampNeg (some q7)) (nI 1).toNatClampNeg (some q9)))))))] ++ fw_5 ty q7 f8 ++ fw_5 ty q9 f10) := hD
  refine lv_iinc (v := nI 2) (lv' := [(1, .int (nI 2)), (0, .ref h0)]) hx hb dX10_init_70 hl (k := 0) rfl (by decide) (by decide) rfl (fun ls hl => ?_)
  refine lv_goto (tgt := 52) hx hb dX10_init_73 (by decide) ?_
  refine lv_iload_n hx hb dX10_init_52 rfl (lv_at hl 0 rfl) ?_
  refine lv_iconst (v := nI 4) hx hb dX10_init_53 (by decide) ?_
  refine lv_icmp_ge (tgt := 76) hx hb dX10_init_54 (by decide) (fun q => absurd q (by decide)) (fun _ => ?_)
  refine lv_aload_n hx hb dX10_init_57 rfl (lv_at hl 1 rfl) ?_
  refine va_get (D := D) (ci := 10) (v := .ref q6) (C := rn 10) (T := tT 10) (N := nF 10) (ref := rn 10) hx hb hts (layT 10 (by decide)) hown hK hP 0 rfl (clsT 10 (by decide)) 3 (by decide) (hts _ gc_390) (fun _ h9 => h9) rfl dX10_init_58 ?_
  refine lv_iload_n hx hb dX10_init_61 rfl (lv_at hl 0 rfl) ?_
  refine va_new (ci := 5) (fs := [.null, .int 0, .int 0]) (C := rn 5) (T := tT 5) (N := nF 5) hx hb hts (layT 5 (by decide)) (tyT 5) (tyT_ok 5 (by decide)) hown (hts _ gc_367) (hts _ gc_369) (hts _ gc_77) hK hP hD hS hA (clsT 5 (by decide)) (fun j hj => by match j, hj with | 0, _ => rfl | 1, _ => rfl | 2, _ => rfl) (Nat.le_of_ble_eq_true rfl) (Nat.le_of_ble_eq_true rfl) dX10_init_62 (fun q11 H hP hD hS => ?_)
  have hP : va_P D cls_ ([(h0, .inr (10, [.ref q0, .ref q2, .ref q4, .ref q6, .int 0, .int 0]))] ++ fw_0 ty q0 f1 ++ fw_3 ty (q0) q2 f3 ++ fw_7_1 ty q4 f5 ++ [(q6, .inl (ty.2, 4, .inr (.inr (.inr (.inr (va_up (va_up (fun _ => none) (nI 0).toNatClampNeg (some q7)) (nI 1).toNatClampNeg (some q9)))))))] ++ fw_5 ty q7 f8 ++ fw_5 ty q9 f10 ++ [(q11, .inr (5, [.null, .int 0, .int 0]))]) H := hP
  have hD : va_D A ([(h0, .inr (10, [.ref q0, .ref q2, .ref q4, .ref q6, .int 0, .int 0]))] ++ fw_0 ty q0 f1 ++ fw_3 ty (q0) q2 f3 ++ fw_7_1 ty q4 f5 ++ [(q6, .inl (ty.2, 4, .inr (.inr (.inr (.inr (va_up (va_up (fun _ => none) (nI 0).toNatClampNeg (some q7)) (nI 1).toNatClampNeg (some q9)))))))] ++ fw_5 ty q7 f8 ++ fw_5 ty q9 f10 ++ [(q11, .inr (5, [.null, .int 0, .int 0]))]) := hD
  refine W.widen (k := 58) (n := 2064) (Nat.le_of_ble_eq_true rfl) (Nat.le_of_ble_eq_true rfl) ?_
  refine lv_dup hx hb dX10_init_65 rfl ?_
  refine my_initN (n := 0) (F := fw_5 ty q11) (wr := ([(h0, .inr (10, [.ref q0, .ref q2, .ref q4, .ref q6, .int 0, .int 0]))] ++ fw_0 ty q0 f1 ++ fw_3 ty (q0) q2 f3 ++ fw_7_1 ty q4 f5 ++ [(q6, .inl (ty.2, 4, .inr (.inr (.inr (.inr (va_up (va_up (fun _ => none) (nI 0).toNatClampNeg (some q7)) (nI 1).toNatClampNeg (some q9)))))))] ++ fw_5 ty q7 f8 ++ fw_5 ty q9 f10)) (q := q11) (As := []) (rest := [.ref q11, .int (nI 2), .ref q6]) hx hb hml hown hts hK hN hP hD hS hA (k_5 l D ty q11 H.size) gc_372 (List.mem_of_getElem? (i := 1) rfl) gc_77 gc_371 rfl ⟨by decide, by decide, by decide +kernel⟩ ⟨(Nat.le_of_ble_eq_true rfl), (Nat.le_of_ble_eq_true rfl)⟩ ⟨(Nat.le_of_ble_eq_true rfl), (Nat.le_of_ble_eq_true rfl)⟩ rfl hl.1 (Nat.le_of_ble_eq_true rfl) dX10_init_66 (fun f12 H locs hP hD hS => ?_)
  have hP : va_P D cls_ ([(h0, .inr (10, [.ref q0, .ref q2, .ref q4, .ref q6, .int 0, .int 0]))] ++ fw_0 ty q0 f1 ++ fw_3 ty (q0) q2 f3 ++ fw_7_1 ty q4 f5 ++ [(q6, .inl (ty.2, 4, .inr (.inr (.inr (.inr (va_up (va_up (fun _ => none) (nI 0).toNatClampNeg (some q7)) (nI 1).toNatClampNeg (some q9)))))))] ++ fw_5 ty q7 f8 ++ fw_5 ty q9 f10 ++ fw_5 ty q11 f12) H := hP
  have hD : va_D A ([(h0, .inr (10, [.ref q0, .ref q2, .ref q4, .ref q6, .int 0, .int 0]))] ++ fw_0 ty q0 f1 ++ fw_3 ty (q0) q2 f3 ++ fw_7_1 ty q4 f5 ++ [(q6, .inl (ty.2, 4, .inr (.inr (.inr (.inr (va_up (va_up (fun _ => none) (nI 0).toNatClampNeg (some q7)) (nI 1).toNatClampNeg (some q9)))))))] ++ fw_5 ty q7 f8 ++ fw_5 ty q9 f10 ++ fw_5 ty q11 f12) := hD
  refine W.widen (k := 59) (n := 2124) (Nat.le_of_ble_eq_true rfl) (Nat.le_of_ble_eq_true rfl) ?_
  refine va_astq hx hb hK hP hD hS 53 1 58 5 (r := (rn 5, tT 5, nF 5)) rfl rfl rfl (clsT 5 (by decide)) (i := nI 2) (by rw [q_in (by omega) (by omega)]; omega) dX10_init_69 (fun H locs hP hD hS => ?_)
  have hP : va_P D cls_ ([(h0, .inr (10, [.ref q0, .ref q2, .ref q4, .ref q6, .int 0, .int 0]))] ++ fw_0 ty q0 f1 ++ fw_3 ty (q0) q2 f3 ++ fw_7_1 ty q4 f5 ++ [(q6, .inl (ty.2, 4, .inr (.inr (.inr (.inr (va_up (va_up (va_up (fun _ => none) (nI 0).toNatClampNeg (some q7)) (nI 1).toNatClampNeg (some q9)) (nI 2).toNatClampNeg (some q11)))))))] ++ fw_5 ty q7 f8 ++ fw_5 ty q9 f10 ++ fw_5 ty q11 f12) H := hP
  have hD : va_D A ([(h0, .inr (10, [.ref q0, .ref q2, .ref q4, .ref q6, .int 0, .int 0]))] ++ fw_0 ty q0 f1 ++ fw_3 ty (q0) q2 f3 ++ fw_7_1 ty q4 f5 ++ [(q6, .inl (ty.2, 4, .inr (.inr (.inr (.inr (va_up (va_up (va_up (fun _ => none) (nI 0).toNatClampNeg (some q7)) (nI 1).toNatClampNeg (some q9)) (nI 2).toNatClampNeg (some q11)))))))] ++ fw_5 ty q7 f8 ++ fw_5 ty q9 f10 ++ fw_5 ty q11 f12) := hD
  refine lv_iinc (v := nI 3) (lv' := [(1, .int (nI 3)), (0, .ref h0)]) hx hb dX10_init_70 hl (k := 0) rfl (by decide) (by decide) rfl (fun ls hl => ?_)
  refine lv_goto (tgt := 52) hx hb dX10_init_73 (by decide) ?_
  refine lv_iload_n hx hb dX10_init_52 rfl (lv_at hl 0 rfl) ?_
  refine lv_iconst (v := nI 4) hx hb dX10_init_53 (by decide) ?_
  refine lv_icmp_ge (tgt := 76) hx hb dX10_init_54 (by decide) (fun q => absurd q (by decide)) (fun _ => ?_)
  refine lv_aload_n hx hb dX10_init_57 rfl (lv_at hl 1 rfl) ?_
  refine va_get (D := D) (ci := 10) (v := .ref q6) (C := rn 10) (T := tT 10) (N := nF 10) (ref := rn 10) hx hb hts (layT 10 (by decide)) hown hK hP 0 rfl (clsT 10 (by decide)) 3 (by decide) (hts _ gc_390) (fun _ h9 => h9) rfl dX10_init_58 ?_
  refine lv_iload_n hx hb dX10_init_61 rfl (lv_at hl 0 rfl) ?_
  refine va_new (ci := 5) (fs := [.null, .int 0, .int 0]) (C := rn 5) (T := tT 5) (N := nF 5) hx hb hts (layT 5 (by decide)) (tyT 5) (tyT_ok 5 (by decide)) hown (hts _ gc_367) (hts _ gc_369) (hts _ gc_77) hK hP hD hS hA (clsT 5 (by decide)) (fun j hj => by match j, hj with | 0, _ => rfl | 1, _ => rfl | 2, _ => rfl) (Nat.le_of_ble_eq_true rfl) (Nat.le_of_ble_eq_true rfl) dX10_init_62 (fun q13 H hP hD hS => ?_)
  have hP : va_P D cls_ ([(h0, .inr (10, [.ref q0, .ref q2, .ref q4, .ref q6, .int 0, .int 0]))] ++ fw_0 ty q0 f1 ++ fw_3 ty (q0) q2 f3 ++ fw_7_1 ty q4 f5 ++ [(q6, .inl (ty.2, 4, .inr (.inr (.inr (.inr (va_up (va_up (va_up (fun _ => none) (nI 0).toNatClampNeg (some q7)) (nI 1).toNatClampNeg (some q9)) (nI 2).toNatClampNeg (some q11)))))))] ++ fw_5 ty q7 f8 ++ fw_5 ty q9 f10 ++ fw_5 ty q11 f12 ++ [(q13, .inr (5, [.null, .int 0, .int 0]))]) H := hP
  have hD : va_D A ([(h0, .inr (10, [.ref q0, .ref q2, .ref q4, .ref q6, .int 0, .int 0]))] ++ fw_0 ty q0 f1 ++ fw_3 ty (q0) q2 f3 ++ fw_7_1 ty q4 f5 ++ [(q6, .inl (ty.2, 4, .inr (.inr (.inr (.inr (va_up (va_up (va_up (fun _ => none) (nI 0).toNatClampNeg (some q7)) (nI 1).toNatClampNeg (some q9)) (nI 2).toNatClampNeg (some q11)))))))] ++ fw_5 ty q7 f8 ++ fw_5 ty q9 f10 ++ fw_5 ty q11 f12 ++ [(q13, .inr (5, [.null, .int 0, .int 0]))]) := hD
  refine W.widen (k := 60) (n := 2127) (Nat.le_of_ble_eq_true rfl) (Nat.le_of_ble_eq_true rfl) ?_
  refine lv_dup hx hb dX10_init_65 rfl ?_
  refine my_initN (n := 0) (F := fw_5 ty q13) (wr := ([(h0, .inr (10, [.ref q0, .ref q2, .ref q4, .ref q6, .int 0, .int 0]))] ++ fw_0 ty q0 f1 ++ fw_3 ty (q0) q2 f3 ++ fw_7_1 ty q4 f5 ++ [(q6, .inl (ty.2, 4, .inr (.inr (.inr (.inr (va_up (va_up (va_up (fun _ => none) (nI 0).toNatClampNeg (some q7)) (nI 1).toNatClampNeg (some q9)) (nI 2).toNatClampNeg (some q11)))))))] ++ fw_5 ty q7 f8 ++ fw_5 ty q9 f10 ++ fw_5 ty q11 f12)) (q := q13) (As := []) (rest := [.ref q13, .int (nI 3), .ref q6]) hx hb hml hown hts hK hN hP hD hS hA (k_5 l D ty q13 H.size) gc_372 (List.mem_of_getElem? (i := 1) rfl) gc_77 gc_371 rfl ⟨by decide, by decide, by decide +kernel⟩ ⟨(Nat.le_of_ble_eq_true rfl), (Nat.le_of_ble_eq_true rfl)⟩ ⟨(Nat.le_of_ble_eq_true rfl), (Nat.le_of_ble_eq_true rfl)⟩ rfl hl.1 (Nat.le_of_ble_eq_true rfl) dX10_init_66 (fun f14 H locs hP hD hS => ?_)
  have hP : va_P D cls_ ([(h0, .inr (10, [.ref q0, .ref q2, .ref q4, .ref q6, .int 0, .int 0]))] ++ fw_0 ty q0 f1 ++ fw_3 ty (q0) q2 f3 ++ fw_7_1 ty q4 f5 ++ [(q6, .inl (ty.2, 4, .inr (.inr (.inr (.inr (va_up (va_up (va_up (fun _ => none) (nI 0).toNatClampNeg (some q7)) (nI 1).toNatClampNeg (some q9)) (nI 2).toNatClampNeg (some q11)))))))] ++ fw_5 ty q7 f8 ++ fw_5 ty q9 f10 ++ fw_5 ty q11 f12 ++ fw_5 ty q13 f14) H := hP
  have hD : va_D A ([(h0, .inr (10, [.ref q0, .ref q2, .ref q4, .ref q6, .int 0, .int 0]))] ++ fw_0 ty q0 f1 ++ fw_3 ty (q0) q2 f3 ++ fw_7_1 ty q4 f5 ++ [(q6, .inl (ty.2, 4, .inr (.inr (.inr (.inr (va_up (va_up (va_up (fun _ => none) (nI 0).toNatClampNeg (some q7)) (nI 1).toNatClampNeg (some q9)) (nI 2).toNatClampNeg (some q11)))))))] ++ fw_5 ty q7 f8 ++ fw_5 ty q9 f10 ++ fw_5 ty q11 f12 ++ fw_5 ty q13 f14) := hD
  refine W.widen (k := 61) (n := 2187) (Nat.le_of_ble_eq_true rfl) (Nat.le_of_ble_eq_true rfl) ?_
  refine va_astq hx hb hK hP hD hS 53 1 60 5 (r := (rn 5, tT 5, nF 5)) rfl rfl rfl (clsT 5 (by decide)) (i := nI 3) (by rw [q_in (by omega) (by omega)]; omega) dX10_init_69 (fun H locs hP hD hS => ?_)
  have hP : va_P D cls_ ([(h0, .inr (10, [.ref q0, .ref q2, .ref q4, .ref q6, .int 0, .int 0]))] ++ fw_0 ty q0 f1 ++ fw_3 ty (q0) q2 f3 ++ fw_7_1 ty q4 f5 ++ [(q6, .inl (ty.2, 4, .inr (.inr (.inr (.inr (va_up (va_up (va_up (va_up (fun _ => none) (nI 0).toNatClampNeg (some q7)) (nI 1).toNatClampNeg (some q9)) (nI 2).toNatClampNeg (some q11)) (nI 3).toNatClampNeg (some q13)))))))] ++ fw_5 ty q7 f8 ++ fw_5 ty q9 f10 ++ fw_5 ty q11 f12 ++ fw_5 ty q13 f14) H := hP
  have hD : va_D A ([(h0, .inr (10, [.ref q0, .ref q2, .ref q4, .ref q6, .int 0, .int 0]))] ++ fw_0 ty q0 f1 ++ fw_3 ty (q0) q2 f3 ++ fw_7_1 ty q4 f5 ++ [(q6, .inl (ty.2, 4, .inr (.inr (.inr (.inr (va_up (va_up (va_up (va_up (fun _ => none) (nI 0).toNatClampNeg (some q7)) (nI 1).toNatClampNeg (some q9)) (nI 2).toNatClampNeg (some q11)) (nI 3).toNatClampNeg (some q13)))))))] ++ fw_5 ty q7 f8 ++ fw_5 ty q9 f10 ++ fw_5 ty q11 f12 ++ fw_5 ty q13 f14) := hD
  refine lv_iinc (v := nI 4) (lv' := [(1, .int (nI 4)), (0, .ref h0)]) hx hb dX10_init_70 hl (k := 0) rfl (by decide) (by decide) rfl (fun ls hl => ?_)
  refine lv_goto (tgt := 52) hx hb dX10_init_73 (by decide) ?_
  refine lv_iload_n hx hb dX10_init_52 rfl (lv_at hl 0 rfl) ?_
  refine lv_iconst (v := nI 4) hx hb dX10_init_53 (by decide) ?_
  refine lv_icmp_ge (tgt := 76) hx hb dX10_init_54 (by decide) (fun _ => ?_) (fun q => absurd (by decide) q)
  refine lv_aload_n hx hb dX10_init_76 rfl (lv_at hl 1 rfl) ?_
  refine lv_iconst (v := nI 0) hx hb dX10_init_77 (by decide) ?_
  refine va_put (D := D) (ci := 10) (v := .int (nI 0)) (ty := tyT 10 4) (C := rn 10) (T := tT 10) (N := nF 10) (ref := rn 10) hx hb hts (layT 10 (by decide)) (tyT 10) (tyT_ok 10 (by decide)) (nmT_ok 10 (by decide)) hown hK hP hD hS 0 rfl (clsT 10 (by decide)) 4 (by decide) (hts _ gc_391) (fun _ h9 => h9) rfl (tyT_ok 10 (by decide) 4 (by decide)) rfl rfl (Nat.le_of_ble_eq_true rfl) dX10_init_78 (fun H locs hP hD hS => ?_)
  have hP : va_P D cls_ ([(h0, .inr (10, [.ref q0, .ref q2, .ref q4, .ref q6, .int (nI 0), .int 0]))] ++ fw_0 ty q0 f1 ++ fw_3 ty (q0) q2 f3 ++ fw_7_1 ty q4 f5 ++ [(q6, .inl (ty.2, 4, .inr (.inr (.inr (.inr (va_up (va_up (va_up (va_up (fun _ => none) (nI 0).toNatClampNeg (some q7)) (nI 1).toNatClampNeg (some q9)) (nI 2).toNatClampNeg (some q11)) (nI 3).toNatClampNeg (some q13)))))))] ++ fw_5 ty q7 f8 ++ fw_5 ty q9 f10 ++ fw_5 ty q11 f12 ++ fw_5 ty q13 f14) H := hP
  have hD : va_D A ([(h0, .inr (10, [.ref q0, .ref q2, .ref q4, .ref q6, .int (nI 0), .int 0]))] ++ fw_0 ty q0 f1 ++ fw_3 ty (q0) q2 f3 ++ fw_7_1 ty q4 f5 ++ [(q6, .inl (ty.2, 4, .inr (.inr (.inr (.inr (va_up (va_up (va_up (va_up (fun _ => none) (nI 0).toNatClampNeg (some q7)) (nI 1).toNatClampNeg (some q9)) (nI 2).toNatClampNeg (some q11)) (nI 3).toNatClampNeg (some q13)))))))] ++ fw_5 ty q7 f8 ++ fw_5 ty q9 f10 ++ fw_5 ty q11 f12 ++ fw_5 ty q13 f14) := hD
  refine lv_aload_n hx hb dX10_init_81 rfl (lv_at hl 1 rfl) ?_
  refine lv_iconst (v := nI 0) hx hb dX10_init_82 (by decide) ?_
  refine va_put (D := D) (ci := 10) (v := .int (nI 0)) (ty := tyT 10 5) (C := rn 10) (T := tT 10) (N := nF 10) (ref := rn 10) hx hb hts (layT 10 (by decide)) (tyT 10) (tyT_ok 10 (by decide)) (nmT_ok 10 (by decide)) hown hK hP hD hS 0 rfl (clsT 10 (by decide)) 5 (by decide) (hts _ gc_392) (fun _ h9 => h9) rfl (tyT_ok 10 (by decide) 5 (by decide)) rfl rfl (Nat.le_of_ble_eq_true rfl) dX10_init_83 (fun H locs hP hD hS => ?_)
  have hP : va_P D cls_ ([(h0, .inr (10, [.ref q0, .ref q2, .ref q4, .ref q6, .int (nI 0), .int (nI 0)]))] ++ fw_0 ty q0 f1 ++ fw_3 ty (q0) q2 f3 ++ fw_7_1 ty q4 f5 ++ [(q6, .inl (ty.2, 4, .inr (.inr (.inr (.inr (va_up (va_up (va_up (va_up (fun _ => none) (nI 0).toNatClampNeg (some q7)) (nI 1).toNatClampNeg (some q9)) (nI 2).toNatClampNeg (some q11)) (nI 3).toNatClampNeg (some q13)))))))] ++ fw_5 ty q7 f8 ++ fw_5 ty q9 f10 ++ fw_5 ty q11 f12 ++ fw_5 ty q13 f14) H := hP
  have hD : va_D A ([(h0, .inr (10, [.ref q0, .ref q2, .ref q4, .ref q6, .int (nI 0), .int (nI 0)]))] ++ fw_0 ty q0 f1 ++ fw_3 ty (q0) q2 f3 ++ fw_7_1 ty q4 f5 ++ [(q6, .inl (ty.2, 4, .inr (.inr (.inr (.inr (va_up (va_up (va_up (va_up (fun _ => none) (nI 0).toNatClampNeg (some q7)) (nI 1).toNatClampNeg (some q9)) (nI 2).toNatClampNeg (some q11)) (nI 3).toNatClampNeg (some q13)))))))] ++ fw_5 ty q7 f8 ++ fw_5 ty q9 f10 ++ fw_5 ty q11 f12 ++ fw_5 ty q13 f14) := hD
  refine W.widen (k := 61) (n := 2187) (Nat.le_of_ble_eq_true rfl) (Nat.le_of_ble_eq_true rfl) ?_
  exact W.vret hx hb hr (fun t ht hW => ⟨⟨[f1, f3, f5, f8, f10, f12, f14, [q0, q2, q4, q6, q7, q9, q11, q13]], rfl, trivial, by rw [ht]; exact hP, hD⟩, hS.F ht⟩) hS.2.2 dX10_init_86
