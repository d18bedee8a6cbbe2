/-! RULES: what WP is at each instruction, as equations -/
theorem wp_step {y y' : Nat} {is is' : List Op} {ft ft' : Nat} {L L' : Lo} {S S' : List Value} {M M' : Mem} {Q : Option Value → Mem → Prop} (h : ∀ n, arun (n + 1) y is ft L S M = arun n y' is' ft' L' S' M') : WP y is ft L S M Q = WP y' is' ft' L' S' M' Q := by
  apply propext
  constructor
  · rintro ⟨n, r, h1, h2⟩
    cases n with
    | zero => cases h1
    | succ n => exact ⟨n, r, (h n) ▸ h1, h2⟩
  · rintro ⟨n, r, h1, h2⟩
    exact ⟨n + 1, r, (h n).trans h1, h2⟩
theorem wp_false {y : Nat} {is : List Op} {ft : Nat} {L : Lo} {S : List Value} {M : Mem} {Q : Option Value → Mem → Prop} (h : ∀ n, arun (n + 1) y is ft L S M = none) : WP y is ft L S M Q = False := by
  apply propext
  refine ⟨?_, False.elim⟩
  rintro ⟨n, r, h1, h2⟩
  cases n with
  | zero => cases h1
  | succ n => rw [h n] at h1; cases h1
theorem wp_done {y : Nat} {is : List Op} {ft : Nat} {L : Lo} {S : List Value} {M M' : Mem} {v : Option Value} {Q : Option Value → Mem → Prop} (h : ∀ n, arun (n + 1) y is ft L S M = some (v, M')) : WP y is ft L S M Q = Q v M' := by
  apply propext
  constructor
  · rintro ⟨n, r, h1, h2⟩
    cases n with
    | zero => cases h1
    | succ n => rw [h n] at h1; cases h1; exact h2
  · intro h2
    exact ⟨1, (v, M'), h 0, h2⟩
theorem wp_call {y z : Nat} {is is' : List Op} {ft : Nat} {L : Lo} {S S' as : List Value} {M : Mem} {Q : Option Value → Mem → Prop} (h : ∀ n, arun (n + 1) y is ft L S M = onC (cal (arun n) z as M) fun r M' => arun n y is' ft L (r.toList ++ S') M') : WP y is ft L S M Q = Ct z as M (fun r M' => WP y is' ft L (r.toList ++ S') M' Q) := by
  apply propext
  constructor
  · rintro ⟨n, r, h1, h2⟩
    cases n with
    | zero => cases h1
    | succ n =>
      rw [h n] at h1
      cases hx : cal (arun n) z as M with
      | none => rw [hx] at h1; cases h1
      | some q => rw [hx] at h1; exact ⟨n, q, hx, n, r, h1, h2⟩
  · rintro ⟨n, q, hx, k, r, h1, h2⟩
    refine ⟨n + k + 1, r, ?_, h2⟩
    rw [h, cal_le hx (Nat.le_add_right n k)]
    exact arun_le h1 (Nat.le_add_left k n)
theorem Ev.ct {z : Nat} {as : List Value} {M M' : Mem} {r : Option Value} (h : Ev z as M r M') (Q : Option Value → Mem → Prop) : Ct z as M Q = Q r M' := by
  apply propext
  obtain ⟨n, h⟩ := h
  constructor
  · rintro ⟨k, q, h1, h2⟩
    have e1 := cal_le h (Nat.le_add_right n k)
    have e2 := cal_le h1 (Nat.le_add_left k n)
    rw [e1] at e2
    cases e2
    exact h2
  · intro h2
    exact ⟨n, _, h, h2⟩
theorem Ev.of {z : Nat} {as : List Value} {M M' : Mem} {r : Option Value} (h : Ct z as M (fun v N => v = r ∧ N = M')) : Ev z as M r M' := by
  obtain ⟨n, q, h1, h2, h3⟩ := h
  obtain ⟨v, N⟩ := q
  exact ⟨n, by rw [h1]; cases h2; cases h3; rfl⟩
theorem Ct.ev {z : Nat} {as : List Value} {M : Mem} {Q : Option Value → Mem → Prop} (h : Ct z as M Q) : ∃ r M', Ev z as M r M' ∧ Q r M' := by
  obtain ⟨n, q, h1, h2⟩ := h
  exact ⟨q.1, q.2, ⟨n, h1⟩, h2⟩
theorem WP.mono {y : Nat} {is : List Op} {ft : Nat} {L : Lo} {S : List Value} {M : Mem} {Q Q' : Option Value → Mem → Prop} (h : WP y is ft L S M Q) (hq : ∀ r M', Q r M' → Q' r M') : WP y is ft L S M Q' := by
  obtain ⟨n, r, h1, h2⟩ := h
  exact ⟨n, r, h1, hq _ _ h2⟩
theorem Ct.mono {z : Nat} {as : List Value} {M : Mem} {Q Q' : Option Value → Mem → Prop} (h : Ct z as M Q) (hq : ∀ r M', Q r M' → Q' r M') : Ct z as M Q' := by
  obtain ⟨n, r, h1, h2⟩ := h
  exact ⟨n, r, h1, hq _ _ h2⟩
theorem ct_wp {z : Nat} {as : List Value} (h : (ent z as).length = mL z) (M : Mem) (Q : Option Value → Mem → Prop) : Ct z as M Q = WP z [] 0 (ent z as) [] M Q := by
  unfold Ct WP cal
  simp only [if_pos h]
theorem wp_blk {y k : Nat} {is : List Op} {ft : Nat} (h : blk y k = (is, ft)) (L : Lo) (S : List Value) (M : Mem) (Q : Option Value → Mem → Prop) : WP y [] k L S M Q = WP y is ft L S M Q := wp_step (fun n => by show arun n y (blk y k).1 (blk y k).2 L S M = _; rw [h])
def brc (c A B : Prop) : Prop := (c → A) ∧ (¬ c → B)
theorem brc_pos {c A B : Prop} (h : c) : brc c A B = A := propext ⟨fun q => q.1 h, fun a => ⟨fun _ => a, fun n => absurd h n⟩⟩
theorem brc_neg {c A B : Prop} (h : ¬ c) : brc c A B = B := propext ⟨fun q => q.2 h, fun b => ⟨fun c => absurd c h, fun _ => b⟩⟩
theorem brc_i {c A B : Prop} (a : c → A) (b : ¬ c → B) : brc c A B := ⟨a, b⟩
theorem brc_T {A B : Prop} : brc True A B = A := brc_pos trivial
theorem brc_F {A B : Prop} : brc False A B = B := brc_neg not_false
theorem brc_nT {A B : Prop} : brc (¬ True) A B = B := brc_neg (fun h => h trivial)
theorem brc_nF {A B : Prop} : brc (¬ False) A B = A := brc_pos not_false
def onI (v : Option Value) (K : Int32 → Prop) : Prop := match v with
  | some (.int x) => K x
  | _ => False
def onL (v : Option Value) (K : Int64 → Prop) : Prop := match v with
  | some (.long x) => K x
  | _ => False
def onR (v : Option Value) (K : Nat → Prop) : Prop := match v with
  | some (.ref x) => K x
  | _ => False
def onO {α : Type} (v : Option α) (K : α → Prop) : Prop := match v with
  | some x => K x
  | none => False
theorem onI_s (x : Int32) (K : Int32 → Prop) : onI (some (.int x)) K = K x := rfl
theorem onL_s (x : Int64) (K : Int64 → Prop) : onL (some (.long x)) K = K x := rfl
theorem onR_s (x : Nat) (K : Nat → Prop) : onR (some (.ref x)) K = K x := rfl
theorem onO_s {α : Type} (x : α) (K : α → Prop) : onO (some x) K = K x := rfl
def inb (c : Nat) (i : Int32) : Prop := onO (alen c) (vp_in i)
theorem inb_s {c n : Nat} {i : Int32} (h : alen c = some n) : inb c i = vp_in i n := by unfold inb; rw [h]; rfl
theorem r_iconst_p {y : Nat} {is : List Op} {ft : Nat} {L : Lo} {S : List Value} {M : Mem} {Q : Option Value → Mem → Prop} {a c : Nat} {k : Int} : WP y ((.iconst k, a, 0, c) :: is) ft L S M Q = WP y is ft L (.int (nI a) :: S) M Q := wp_step (fun n => rfl)
theorem r_iconst_m {y : Nat} {is : List Op} {ft : Nat} {L : Lo} {S : List Value} {M : Mem} {Q : Option Value → Mem → Prop} {a c : Nat} {k : Int} : WP y ((.iconst k, a, 1, c) :: is) ft L S M Q = WP y is ft L (.int (mI a) :: S) M Q := wp_step (fun n => rfl)
theorem r_bipush_p {y : Nat} {is : List Op} {ft : Nat} {L : Lo} {S : List Value} {M : Mem} {Q : Option Value → Mem → Prop} {a c : Nat} {k : Int} : WP y ((.bipush k, a, 0, c) :: is) ft L S M Q = WP y is ft L (.int (nI a) :: S) M Q := wp_step (fun n => rfl)
theorem r_bipush_m {y : Nat} {is : List Op} {ft : Nat} {L : Lo} {S : List Value} {M : Mem} {Q : Option Value → Mem → Prop} {a c : Nat} {k : Int} : WP y ((.bipush k, a, 1, c) :: is) ft L S M Q = WP y is ft L (.int (mI a) :: S) M Q := wp_step (fun n => rfl)
theorem r_sipush_p {y : Nat} {is : List Op} {ft : Nat} {L : Lo} {S : List Value} {M : Mem} {Q : Option Value → Mem → Prop} {a c : Nat} {k : Int} : WP y ((.sipush k, a, 0, c) :: is) ft L S M Q = WP y is ft L (.int (nI a) :: S) M Q := wp_step (fun n => rfl)
theorem r_sipush_m {y : Nat} {is : List Op} {ft : Nat} {L : Lo} {S : List Value} {M : Mem} {Q : Option Value → Mem → Prop} {a c : Nat} {k : Int} : WP y ((.sipush k, a, 1, c) :: is) ft L S M Q = WP y is ft L (.int (mI a) :: S) M Q := wp_step (fun n => rfl)
theorem r_ldc_p {y : Nat} {is : List Op} {ft : Nat} {L : Lo} {S : List Value} {M : Mem} {Q : Option Value → Mem → Prop} {a c : Nat} {k : Nat} : WP y ((.ldc k, a, 0, c) :: is) ft L S M Q = WP y is ft L (.int (nI a) :: S) M Q := wp_step (fun n => rfl)
theorem r_ldc_m {y : Nat} {is : List Op} {ft : Nat} {L : Lo} {S : List Value} {M : Mem} {Q : Option Value → Mem → Prop} {a c : Nat} {k : Nat} : WP y ((.ldc k, a, 1, c) :: is) ft L S M Q = WP y is ft L (.int (mI a) :: S) M Q := wp_step (fun n => rfl)
theorem r_ldc_w_p {y : Nat} {is : List Op} {ft : Nat} {L : Lo} {S : List Value} {M : Mem} {Q : Option Value → Mem → Prop} {a c : Nat} {k : Nat} : WP y ((.ldc_w k, a, 0, c) :: is) ft L S M Q = WP y is ft L (.int (nI a) :: S) M Q := wp_step (fun n => rfl)
theorem r_ldc_w_m {y : Nat} {is : List Op} {ft : Nat} {L : Lo} {S : List Value} {M : Mem} {Q : Option Value → Mem → Prop} {a c : Nat} {k : Nat} : WP y ((.ldc_w k, a, 1, c) :: is) ft L S M Q = WP y is ft L (.int (mI a) :: S) M Q := wp_step (fun n => rfl)
theorem r_lconst_p {y : Nat} {is : List Op} {ft : Nat} {L : Lo} {S : List Value} {M : Mem} {Q : Option Value → Mem → Prop} {a c : Nat} {k : Fin 2} : WP y ((.lconst k, a, 0, c) :: is) ft L S M Q = WP y is ft L (.long (lN a) :: S) M Q := wp_step (fun n => rfl)
theorem r_lconst_m {y : Nat} {is : List Op} {ft : Nat} {L : Lo} {S : List Value} {M : Mem} {Q : Option Value → Mem → Prop} {a c : Nat} {k : Fin 2} : WP y ((.lconst k, a, 1, c) :: is) ft L S M Q = WP y is ft L (.long (mN a) :: S) M Q := wp_step (fun n => rfl)
theorem r_ldc2_w_p {y : Nat} {is : List Op} {ft : Nat} {L : Lo} {S : List Value} {M : Mem} {Q : Option Value → Mem → Prop} {a c : Nat} {k : Nat} : WP y ((.ldc2_w k, a, 0, c) :: is) ft L S M Q = WP y is ft L (.long (lN a) :: S) M Q := wp_step (fun n => rfl)
theorem r_ldc2_w_m {y : Nat} {is : List Op} {ft : Nat} {L : Lo} {S : List Value} {M : Mem} {Q : Option Value → Mem → Prop} {a c : Nat} {k : Nat} : WP y ((.ldc2_w k, a, 1, c) :: is) ft L S M Q = WP y is ft L (.long (mN a) :: S) M Q := wp_step (fun n => rfl)
theorem r_iload {y : Nat} {is : List Op} {ft : Nat} {L : Lo} {S : List Value} {M : Mem} {Q : Option Value → Mem → Prop} {a b c : Nat} {k : Nat} : WP y ((.iload k, a, b, c) :: is) ft L S M Q = onI (lget L a) (fun x => WP y is ft L (.int x :: S) M Q) := by
  cases h : lget L a with
  | none => exact wp_false (fun n => by show onE (gI (lget L a) _) _ = _; rw [h]; rfl)
  | some v => cases v <;> first | exact wp_step (fun n => by show onE (gI (lget L a) _) _ = _; rw [h]; rfl) | exact wp_false (fun n => by show onE (gI (lget L a) _) _ = _; rw [h]; rfl)
theorem r_iload_n {y : Nat} {is : List Op} {ft : Nat} {L : Lo} {S : List Value} {M : Mem} {Q : Option Value → Mem → Prop} {a b c : Nat} {k : Fin 4} : WP y ((.iload_n k, a, b, c) :: is) ft L S M Q = onI (lget L a) (fun x => WP y is ft L (.int x :: S) M Q) := by
  cases h : lget L a with
  | none => exact wp_false (fun n => by show onE (gI (lget L a) _) _ = _; rw [h]; rfl)
  | some v => cases v <;> first | exact wp_step (fun n => by show onE (gI (lget L a) _) _ = _; rw [h]; rfl) | exact wp_false (fun n => by show onE (gI (lget L a) _) _ = _; rw [h]; rfl)
theorem r_lload {y : Nat} {is : List Op} {ft : Nat} {L : Lo} {S : List Value} {M : Mem} {Q : Option Value → Mem → Prop} {a b c : Nat} {k : Nat} : WP y ((.lload k, a, b, c) :: is) ft L S M Q = onL (lget L a) (fun x => WP y is ft L (.long x :: S) M Q) := by
  cases h : lget L a with
  | none => exact wp_false (fun n => by show onE (gL (lget L a) _) _ = _; rw [h]; rfl)
  | some v => cases v <;> first | exact wp_step (fun n => by show onE (gL (lget L a) _) _ = _; rw [h]; rfl) | exact wp_false (fun n => by show onE (gL (lget L a) _) _ = _; rw [h]; rfl)
theorem r_lload_n {y : Nat} {is : List Op} {ft : Nat} {L : Lo} {S : List Value} {M : Mem} {Q : Option Value → Mem → Prop} {a b c : Nat} {k : Fin 4} : WP y ((.lload_n k, a, b, c) :: is) ft L S M Q = onL (lget L a) (fun x => WP y is ft L (.long x :: S) M Q) := by
  cases h : lget L a with
  | none => exact wp_false (fun n => by show onE (gL (lget L a) _) _ = _; rw [h]; rfl)
  | some v => cases v <;> first | exact wp_step (fun n => by show onE (gL (lget L a) _) _ = _; rw [h]; rfl) | exact wp_false (fun n => by show onE (gL (lget L a) _) _ = _; rw [h]; rfl)
theorem r_aload {y : Nat} {is : List Op} {ft : Nat} {L : Lo} {S : List Value} {M : Mem} {Q : Option Value → Mem → Prop} {a b c : Nat} {k : Nat} : WP y ((.aload k, a, b, c) :: is) ft L S M Q = onR (lget L a) (fun x => WP y is ft L (.ref x :: S) M Q) := by
  cases h : lget L a with
  | none => exact wp_false (fun n => by show onE (gR (lget L a) _) _ = _; rw [h]; rfl)
  | some v => cases v <;> first | exact wp_step (fun n => by show onE (gR (lget L a) _) _ = _; rw [h]; rfl) | exact wp_false (fun n => by show onE (gR (lget L a) _) _ = _; rw [h]; rfl)
theorem r_aload_n {y : Nat} {is : List Op} {ft : Nat} {L : Lo} {S : List Value} {M : Mem} {Q : Option Value → Mem → Prop} {a b c : Nat} {k : Fin 4} : WP y ((.aload_n k, a, b, c) :: is) ft L S M Q = onR (lget L a) (fun x => WP y is ft L (.ref x :: S) M Q) := by
  cases h : lget L a with
  | none => exact wp_false (fun n => by show onE (gR (lget L a) _) _ = _; rw [h]; rfl)
  | some v => cases v <;> first | exact wp_step (fun n => by show onE (gR (lget L a) _) _ = _; rw [h]; rfl) | exact wp_false (fun n => by show onE (gR (lget L a) _) _ = _; rw [h]; rfl)
theorem r_istore {y : Nat} {is : List Op} {ft : Nat} {L : Lo} {S : List Value} {M : Mem} {Q : Option Value → Mem → Prop} {a b c : Nat} {k : Nat} {x : Int32} : WP y ((.istore k, a, b, c) :: is) ft L (.int x :: S) M Q = WP y is ft (lput (lkill L a) a (some (.int x))) S M Q := wp_step (fun n => rfl)
theorem r_istore_n {y : Nat} {is : List Op} {ft : Nat} {L : Lo} {S : List Value} {M : Mem} {Q : Option Value → Mem → Prop} {a b c : Nat} {k : Fin 4} {x : Int32} : WP y ((.istore_n k, a, b, c) :: is) ft L (.int x :: S) M Q = WP y is ft (lput (lkill L a) a (some (.int x))) S M Q := wp_step (fun n => rfl)
theorem r_astore {y : Nat} {is : List Op} {ft : Nat} {L : Lo} {S : List Value} {M : Mem} {Q : Option Value → Mem → Prop} {a b c : Nat} {k : Nat} {x : Nat} : WP y ((.astore k, a, b, c) :: is) ft L (.ref x :: S) M Q = WP y is ft (lput (lkill L a) a (some (.ref x))) S M Q := wp_step (fun n => rfl)
theorem r_astore_n {y : Nat} {is : List Op} {ft : Nat} {L : Lo} {S : List Value} {M : Mem} {Q : Option Value → Mem → Prop} {a b c : Nat} {k : Fin 4} {x : Nat} : WP y ((.astore_n k, a, b, c) :: is) ft L (.ref x :: S) M Q = WP y is ft (lput (lkill L a) a (some (.ref x))) S M Q := wp_step (fun n => rfl)
theorem r_lstore {y : Nat} {is : List Op} {ft : Nat} {L : Lo} {S : List Value} {M : Mem} {Q : Option Value → Mem → Prop} {a b c : Nat} {k : Nat} {x : Int64} : WP y ((.lstore k, a, b, c) :: is) ft L (.long x :: S) M Q = WP y is ft (lput (lput (lkill L a) a (some (.long x))) (a + 1) none) S M Q := wp_step (fun n => rfl)
theorem r_lstore_n {y : Nat} {is : List Op} {ft : Nat} {L : Lo} {S : List Value} {M : Mem} {Q : Option Value → Mem → Prop} {a b c : Nat} {k : Fin 4} {x : Int64} : WP y ((.lstore_n k, a, b, c) :: is) ft L (.long x :: S) M Q = WP y is ft (lput (lput (lkill L a) a (some (.long x))) (a + 1) none) S M Q := wp_step (fun n => rfl)
theorem r_iinc_p {y : Nat} {is : List Op} {ft : Nat} {L : Lo} {S : List Value} {M : Mem} {Q : Option Value → Mem → Prop} {a b : Nat} {k : Nat} {kk : Int} : WP y ((.iinc k kk, a, b, 0) :: is) ft L S M Q = onI (lget L a) (fun x => WP y is ft (lput (lkill L a) a (some (.int (x + nI b)))) S M Q) := by
  cases h : lget L a with
  | none => exact wp_false (fun n => by show onE (gI (lget L a) _) _ = _; rw [h]; rfl)
  | some v => cases v <;> first | exact wp_step (fun n => by show onE (gI (lget L a) _) _ = _; rw [h]; rfl) | exact wp_false (fun n => by show onE (gI (lget L a) _) _ = _; rw [h]; rfl)
theorem r_iinc_m {y : Nat} {is : List Op} {ft : Nat} {L : Lo} {S : List Value} {M : Mem} {Q : Option Value → Mem → Prop} {a b : Nat} {k : Nat} {kk : Int} : WP y ((.iinc k kk, a, b, 1) :: is) ft L S M Q = onI (lget L a) (fun x => WP y is ft (lput (lkill L a) a (some (.int (x + mI b)))) S M Q) := by
  cases h : lget L a with
  | none => exact wp_false (fun n => by show onE (gI (lget L a) _) _ = _; rw [h]; rfl)
  | some v => cases v <;> first | exact wp_step (fun n => by show onE (gI (lget L a) _) _ = _; rw [h]; rfl) | exact wp_false (fun n => by show onE (gI (lget L a) _) _ = _; rw [h]; rfl)
theorem r_iadd {y : Nat} {is : List Op} {ft : Nat} {L : Lo} {S : List Value} {M : Mem} {Q : Option Value → Mem → Prop} {a b c : Nat} {u v : Int32} : WP y ((.iadd, a, b, c) :: is) ft L (.int v :: .int u :: S) M Q = WP y is ft L (.int (u + v) :: S) M Q := wp_step (fun n => rfl)
theorem r_isub {y : Nat} {is : List Op} {ft : Nat} {L : Lo} {S : List Value} {M : Mem} {Q : Option Value → Mem → Prop} {a b c : Nat} {u v : Int32} : WP y ((.isub, a, b, c) :: is) ft L (.int v :: .int u :: S) M Q = WP y is ft L (.int (u - v) :: S) M Q := wp_step (fun n => rfl)
theorem r_imul {y : Nat} {is : List Op} {ft : Nat} {L : Lo} {S : List Value} {M : Mem} {Q : Option Value → Mem → Prop} {a b c : Nat} {u v : Int32} : WP y ((.imul, a, b, c) :: is) ft L (.int v :: .int u :: S) M Q = WP y is ft L (.int (u * v) :: S) M Q := wp_step (fun n => rfl)
theorem r_iand {y : Nat} {is : List Op} {ft : Nat} {L : Lo} {S : List Value} {M : Mem} {Q : Option Value → Mem → Prop} {a b c : Nat} {u v : Int32} : WP y ((.iand, a, b, c) :: is) ft L (.int v :: .int u :: S) M Q = WP y is ft L (.int (u &&& v) :: S) M Q := wp_step (fun n => rfl)
theorem r_ior {y : Nat} {is : List Op} {ft : Nat} {L : Lo} {S : List Value} {M : Mem} {Q : Option Value → Mem → Prop} {a b c : Nat} {u v : Int32} : WP y ((.ior, a, b, c) :: is) ft L (.int v :: .int u :: S) M Q = WP y is ft L (.int (u ||| v) :: S) M Q := wp_step (fun n => rfl)
theorem r_ixor {y : Nat} {is : List Op} {ft : Nat} {L : Lo} {S : List Value} {M : Mem} {Q : Option Value → Mem → Prop} {a b c : Nat} {u v : Int32} : WP y ((.ixor, a, b, c) :: is) ft L (.int v :: .int u :: S) M Q = WP y is ft L (.int (u ^^^ v) :: S) M Q := wp_step (fun n => rfl)
theorem r_ishl {y : Nat} {is : List Op} {ft : Nat} {L : Lo} {S : List Value} {M : Mem} {Q : Option Value → Mem → Prop} {a b c : Nat} {u v : Int32} : WP y ((.ishl, a, b, c) :: is) ft L (.int v :: .int u :: S) M Q = WP y is ft L (.int (u <<< (v &&& 31)) :: S) M Q := wp_step (fun n => rfl)
theorem r_ishr {y : Nat} {is : List Op} {ft : Nat} {L : Lo} {S : List Value} {M : Mem} {Q : Option Value → Mem → Prop} {a b c : Nat} {u v : Int32} : WP y ((.ishr, a, b, c) :: is) ft L (.int v :: .int u :: S) M Q = WP y is ft L (.int (u >>> (v &&& 31)) :: S) M Q := wp_step (fun n => rfl)
theorem r_iushr {y : Nat} {is : List Op} {ft : Nat} {L : Lo} {S : List Value} {M : Mem} {Q : Option Value → Mem → Prop} {a b c : Nat} {u v : Int32} : WP y ((.iushr, a, b, c) :: is) ft L (.int v :: .int u :: S) M Q = WP y is ft L (.int ((u.toUInt32 >>> (v.toUInt32 &&& Int32.toUInt32 31)).toInt32) :: S) M Q := wp_step (fun n => rfl)
theorem r_idiv {y : Nat} {is : List Op} {ft : Nat} {L : Lo} {S : List Value} {M : Mem} {Q : Option Value → Mem → Prop} {a b c : Nat} {u v : Int32} : WP y ((.idiv, a, b, c) :: is) ft L (.int v :: .int u :: S) M Q = (¬ v = nI 0 ∧ WP y is ft L (.int (u / v) :: S) M Q) := by
  rw [nI_0]
  by_cases h : v = 0
  · rw [wp_false (fun n => by simp [arun, stp, brI, onB, eff, s2, onE, h])]; simp [h]
  · rw [wp_step (y' := y) (is' := is) (ft' := ft) (L' := L) (S' := .int (u / v) :: S) (M' := M) (fun n => by simp [arun, stp, brI, onB, eff, s2, onE, h])]; simp [h]
theorem r_irem {y : Nat} {is : List Op} {ft : Nat} {L : Lo} {S : List Value} {M : Mem} {Q : Option Value → Mem → Prop} {a b c : Nat} {u v : Int32} : WP y ((.irem, a, b, c) :: is) ft L (.int v :: .int u :: S) M Q = (¬ v = nI 0 ∧ WP y is ft L (.int (u - u / v * v) :: S) M Q) := by
  rw [nI_0]
  by_cases h : v = 0
  · rw [wp_false (fun n => by simp [arun, stp, brI, onB, eff, s2, onE, h])]; simp [h]
  · rw [wp_step (y' := y) (is' := is) (ft' := ft) (L' := L) (S' := .int (u - u / v * v) :: S) (M' := M) (fun n => by simp [arun, stp, brI, onB, eff, s2, onE, h])]; simp [h]
theorem r_ladd {y : Nat} {is : List Op} {ft : Nat} {L : Lo} {S : List Value} {M : Mem} {Q : Option Value → Mem → Prop} {a b c : Nat} {u v : Int64} : WP y ((.ladd, a, b, c) :: is) ft L (.long v :: .long u :: S) M Q = WP y is ft L (.long (u + v) :: S) M Q := wp_step (fun n => rfl)
theorem r_lsub {y : Nat} {is : List Op} {ft : Nat} {L : Lo} {S : List Value} {M : Mem} {Q : Option Value → Mem → Prop} {a b c : Nat} {u v : Int64} : WP y ((.lsub, a, b, c) :: is) ft L (.long v :: .long u :: S) M Q = WP y is ft L (.long (u - v) :: S) M Q := wp_step (fun n => rfl)
theorem r_lmul {y : Nat} {is : List Op} {ft : Nat} {L : Lo} {S : List Value} {M : Mem} {Q : Option Value → Mem → Prop} {a b c : Nat} {u v : Int64} : WP y ((.lmul, a, b, c) :: is) ft L (.long v :: .long u :: S) M Q = WP y is ft L (.long (u * v) :: S) M Q := wp_step (fun n => rfl)
theorem r_ldiv {y : Nat} {is : List Op} {ft : Nat} {L : Lo} {S : List Value} {M : Mem} {Q : Option Value → Mem → Prop} {a b c : Nat} {u v : Int64} : WP y ((.ldiv, a, b, c) :: is) ft L (.long v :: .long u :: S) M Q = (¬ v = lN 0 ∧ WP y is ft L (.long (u / v) :: S) M Q) := by
  rw [show lN 0 = 0 from rfl]
  by_cases h : v = 0
  · rw [wp_false (fun n => by simp [arun, stp, brI, onB, eff, s2L, onE, h])]; simp [h]
  · rw [wp_step (y' := y) (is' := is) (ft' := ft) (L' := L) (S' := .long (u / v) :: S) (M' := M) (fun n => by simp [arun, stp, brI, onB, eff, s2L, onE, h])]; simp [h]
theorem r_lrem {y : Nat} {is : List Op} {ft : Nat} {L : Lo} {S : List Value} {M : Mem} {Q : Option Value → Mem → Prop} {a b c : Nat} {u v : Int64} : WP y ((.lrem, a, b, c) :: is) ft L (.long v :: .long u :: S) M Q = (¬ v = lN 0 ∧ WP y is ft L (.long (u - u / v * v) :: S) M Q) := by
  rw [show lN 0 = 0 from rfl]
  by_cases h : v = 0
  · rw [wp_false (fun n => by simp [arun, stp, brI, onB, eff, s2L, onE, h])]; simp [h]
  · rw [wp_step (y' := y) (is' := is) (ft' := ft) (L' := L) (S' := .long (u - u / v * v) :: S) (M' := M) (fun n => by simp [arun, stp, brI, onB, eff, s2L, onE, h])]; simp [h]
theorem r_lshl {y : Nat} {is : List Op} {ft : Nat} {L : Lo} {S : List Value} {M : Mem} {Q : Option Value → Mem → Prop} {a b c : Nat} {u : Int64} {v : Int32} : WP y ((.lshl, a, b, c) :: is) ft L (.int v :: .long u :: S) M Q = WP y is ft L (.long (u <<< (v.toInt64 &&& 63)) :: S) M Q := wp_step (fun n => rfl)
theorem r_lcmp {y : Nat} {is : List Op} {ft : Nat} {L : Lo} {S : List Value} {M : Mem} {Q : Option Value → Mem → Prop} {a b c : Nat} {u v : Int64} : WP y ((.lcmp, a, b, c) :: is) ft L (.long v :: .long u :: S) M Q = WP y is ft L (.int (lg_cmp u v) :: S) M Q := wp_step (fun n => rfl)
theorem r_i2l {y : Nat} {is : List Op} {ft : Nat} {L : Lo} {S : List Value} {M : Mem} {Q : Option Value → Mem → Prop} {a b c : Nat} {u : Int32} : WP y ((.i2l, a, b, c) :: is) ft L (.int u :: S) M Q = WP y is ft L (.long u.toInt64 :: S) M Q := wp_step (fun n => rfl)
theorem r_i2b {y : Nat} {is : List Op} {ft : Nat} {L : Lo} {S : List Value} {M : Mem} {Q : Option Value → Mem → Prop} {a b c : Nat} {u : Int32} : WP y ((.i2b, a, b, c) :: is) ft L (.int u :: S) M Q = WP y is ft L (.int u.toInt8.toInt32 :: S) M Q := wp_step (fun n => rfl)
theorem r_i2s {y : Nat} {is : List Op} {ft : Nat} {L : Lo} {S : List Value} {M : Mem} {Q : Option Value → Mem → Prop} {a b c : Nat} {u : Int32} : WP y ((.i2s, a, b, c) :: is) ft L (.int u :: S) M Q = WP y is ft L (.int u.toInt16.toInt32 :: S) M Q := wp_step (fun n => rfl)
theorem r_dup_i {y : Nat} {is : List Op} {ft : Nat} {L : Lo} {S : List Value} {M : Mem} {Q : Option Value → Mem → Prop} {a b c : Nat} {u : Int32} : WP y ((.dup, a, b, c) :: is) ft L (.int u :: S) M Q = WP y is ft L (.int u :: .int u :: S) M Q := wp_step (fun n => rfl)
theorem r_dup_r {y : Nat} {is : List Op} {ft : Nat} {L : Lo} {S : List Value} {M : Mem} {Q : Option Value → Mem → Prop} {a b c : Nat} {u : Nat} : WP y ((.dup, a, b, c) :: is) ft L (.ref u :: S) M Q = WP y is ft L (.ref u :: .ref u :: S) M Q := wp_step (fun n => rfl)
theorem r_dup2_ii {y : Nat} {is : List Op} {ft : Nat} {L : Lo} {S : List Value} {M : Mem} {Q : Option Value → Mem → Prop} {a b c : Nat} {u v : Int32} : WP y ((.dup2, a, b, c) :: is) ft L (.int u :: .int v :: S) M Q = WP y is ft L (.int u :: .int v :: .int u :: .int v :: S) M Q := wp_step (fun n => rfl)
theorem r_dup2_ir {y : Nat} {is : List Op} {ft : Nat} {L : Lo} {S : List Value} {M : Mem} {Q : Option Value → Mem → Prop} {a b c : Nat} {u : Int32} {v : Nat} : WP y ((.dup2, a, b, c) :: is) ft L (.int u :: .ref v :: S) M Q = WP y is ft L (.int u :: .ref v :: .int u :: .ref v :: S) M Q := wp_step (fun n => rfl)
theorem r_dup2_l {y : Nat} {is : List Op} {ft : Nat} {L : Lo} {S : List Value} {M : Mem} {Q : Option Value → Mem → Prop} {a b c : Nat} {u : Int64} : WP y ((.dup2, a, b, c) :: is) ft L (.long u :: S) M Q = WP y is ft L (.long u :: .long u :: S) M Q := wp_step (fun n => rfl)
theorem r_pop {y : Nat} {is : List Op} {ft : Nat} {L : Lo} {S : List Value} {M : Mem} {Q : Option Value → Mem → Prop} {a b c : Nat} {u : Int32} : WP y ((.pop, a, b, c) :: is) ft L (.int u :: S) M Q = WP y is ft L S M Q := wp_step (fun n => rfl)
theorem r_getfield {y : Nat} {is : List Op} {ft : Nat} {L : Lo} {S : List Value} {M : Mem} {Q : Option Value → Mem → Prop} {a b c : Nat} {k u : Nat} : WP y ((.getfield k, a, b, c) :: is) ft L (.ref u :: S) M Q = onO (fld u a b) (fun f => WP y is ft L (fval M u f :: S) M Q) := by
  cases h : fld u a b with
  | none => exact wp_false (fun n => by show onE (match fld u a b with | some f => _ | none => _) _ = _; rw [h]; rfl)
  | some f => exact wp_step (fun n => by show onE (match fld u a b with | some f => _ | none => _) _ = _; rw [h]; rfl)
theorem r_putfield {y : Nat} {is : List Op} {ft : Nat} {L : Lo} {S : List Value} {M : Mem} {Q : Option Value → Mem → Prop} {a b c : Nat} {k u : Nat} {v : Value} : WP y ((.putfield k, a, b, c) :: is) ft L (v :: .ref u :: S) M Q = onO (fld u a b) (fun f => onO (fput M u f v) (fun M' => WP y is ft L S M' Q)) := by
  cases h : fld u a b with
  | none => exact wp_false (fun n => by show onE (match fld u a b with | some f => _ | none => _) _ = _; rw [h]; rfl)
  | some f =>
    cases h2 : fput M u f v with
    | none => rw [wp_false (fun n => by show onE (match fld u a b with | some f => _ | none => _) _ = _; rw [h]; show onE (match fput M u f v with | some M' => _ | none => _) _ = _; rw [h2]; rfl)]; show False = onO (fput M u f v) _; rw [h2]; rfl
    | some M' => rw [wp_step (fun n => by show onE (match fld u a b with | some f => _ | none => _) _ = _; rw [h]; show onE (match fput M u f v with | some M' => _ | none => _) _ = _; rw [h2]; rfl)]; show _ = onO (fput M u f v) _; rw [h2]; rfl
theorem r_iaload {y : Nat} {is : List Op} {ft : Nat} {L : Lo} {S : List Value} {M : Mem} {Q : Option Value → Mem → Prop} {a b c : Nat} {u : Nat} {i : Int32} : WP y ((.iaload, a, b, c) :: is) ft L (.int i :: .ref u :: S) M Q = (inb u i ∧ WP y is ft L (.int (M u i.toNatClampNeg) :: S) M Q) := by
  unfold inb
  cases h : alen u with
  | none => rw [wp_false (fun n => by show onE (match alen u with | some n => _ | none => _) _ = _; rw [h]; rfl)]; simp [onO]
  | some n =>
    by_cases hc : i < 0 ∨ n ≤ i.toNatClampNeg
    · rw [wp_false (fun n => by show onE (match alen u with | some n => _ | none => _) _ = _; rw [h]; show onE (if _ then _ else _) _ = _; rw [if_pos hc]; rfl)]; simp [onO, vp_in, hc]
    · rw [wp_step (fun n => by show onE (match alen u with | some n => _ | none => _) _ = _; rw [h]; show onE (if _ then _ else _) _ = _; rw [if_neg hc]; rfl)]; simp [onO, vp_in, hc]
theorem r_iastore {y : Nat} {is : List Op} {ft : Nat} {L : Lo} {S : List Value} {M : Mem} {Q : Option Value → Mem → Prop} {a b c : Nat} {u : Nat} {i x : Int32} : WP y ((.iastore, a, b, c) :: is) ft L (.int x :: .int i :: .ref u :: S) M Q = (inb u i ∧ WP y is ft L S (stM M u i.toNatClampNeg x) Q) := by
  unfold inb
  cases h : alen u with
  | none => rw [wp_false (fun n => by show onE (match alen u with | some n => _ | none => _) _ = _; rw [h]; rfl)]; simp [onO]
  | some n =>
    by_cases hc : i < 0 ∨ n ≤ i.toNatClampNeg
    · rw [wp_false (fun n => by show onE (match alen u with | some n => _ | none => _) _ = _; rw [h]; show onE (if _ then _ else _) _ = _; rw [if_pos hc]; rfl)]; simp [onO, vp_in, hc]
    · rw [wp_step (fun n => by show onE (match alen u with | some n => _ | none => _) _ = _; rw [h]; show onE (if _ then _ else _) _ = _; rw [if_neg hc]; rfl)]; simp [onO, vp_in, hc]
theorem r_aaload {y : Nat} {is : List Op} {ft : Nat} {L : Lo} {S : List Value} {M : Mem} {Q : Option Value → Mem → Prop} {a b c : Nat} {u : Nat} {i : Int32} : WP y ((.aaload, a, b, c) :: is) ft L (.int i :: .ref u :: S) M Q = (vp_in i (rarr u).length ∧ WP y is ft L (.ref ((rarr u).getD i.toNatClampNeg 0) :: S) M Q) := by
  by_cases hc : i < 0 ∨ (rarr u).length ≤ i.toNatClampNeg
  · rw [wp_false (fun n => by show onE (if _ then _ else _) _ = _; rw [if_pos hc]; rfl)]; simp [vp_in, hc]
  · rw [wp_step (fun n => by show onE (if _ then _ else _) _ = _; rw [if_neg hc]; rfl)]; simp [vp_in, hc]
theorem r_arraylength {y : Nat} {is : List Op} {ft : Nat} {L : Lo} {S : List Value} {M : Mem} {Q : Option Value → Mem → Prop} {a b c : Nat} {u : Nat} : WP y ((.arraylength, a, b, c) :: is) ft L (.ref u :: S) M Q = onO (alen u) (fun n => WP y is ft L (.int (nI n) :: S) M Q) := by
  cases h : alen u with
  | none => exact wp_false (fun n => by show onE (match alen u with | some f => _ | none => _) _ = _; rw [h]; rfl)
  | some f => exact wp_step (fun n => by show onE (match alen u with | some f => _ | none => _) _ = _; rw [h]; rfl)
theorem r_if_eq {y : Nat} {is : List Op} {ft : Nat} {L : Lo} {S : List Value} {M : Mem} {Q : Option Value → Mem → Prop} {a b c : Nat} {k : Int} {u : Int32} : WP y ((.ifCond .eq k, a, b, c) :: is) ft L (.int u :: S) M Q = brc (u = nI 0) (WP y [] a L S M Q) (WP y is ft L S M Q) := by
  by_cases h : u = nI 0
  · rw [brc_pos h]; exact wp_step (fun n => by show (if decide (u = nI 0) then _ else _) = _; rw [decide_eq_true h]; rfl)
  · rw [brc_neg h]; exact wp_step (fun n => by show (if decide (u = nI 0) then _ else _) = _; rw [decide_eq_false h]; rfl)
theorem r_icmp_eq {y : Nat} {is : List Op} {ft : Nat} {L : Lo} {S : List Value} {M : Mem} {Q : Option Value → Mem → Prop} {a b c : Nat} {k : Int} {u v : Int32} : WP y ((.if_icmp .eq k, a, b, c) :: is) ft L (.int v :: .int u :: S) M Q = brc (u = v) (WP y [] a L S M Q) (WP y is ft L S M Q) := by
  by_cases h : u = v
  · rw [brc_pos h]; exact wp_step (fun n => by show (if decide (u = v) then _ else _) = _; rw [decide_eq_true h]; rfl)
  · rw [brc_neg h]; exact wp_step (fun n => by show (if decide (u = v) then _ else _) = _; rw [decide_eq_false h]; rfl)
theorem r_if_ne {y : Nat} {is : List Op} {ft : Nat} {L : Lo} {S : List Value} {M : Mem} {Q : Option Value → Mem → Prop} {a b c : Nat} {k : Int} {u : Int32} : WP y ((.ifCond .ne k, a, b, c) :: is) ft L (.int u :: S) M Q = brc (¬ u = nI 0) (WP y [] a L S M Q) (WP y is ft L S M Q) := by
  by_cases h : ¬ u = nI 0
  · rw [brc_pos h]; exact wp_step (fun n => by show (if decide (¬ u = nI 0) then _ else _) = _; rw [decide_eq_true h]; rfl)
  · rw [brc_neg h]; exact wp_step (fun n => by show (if decide (¬ u = nI 0) then _ else _) = _; rw [decide_eq_false h]; rfl)
theorem r_icmp_ne {y : Nat} {is : List Op} {ft : Nat} {L : Lo} {S : List Value} {M : Mem} {Q : Option Value → Mem → Prop} {a b c : Nat} {k : Int} {u v : Int32} : WP y ((.if_icmp .ne k, a, b, c) :: is) ft L (.int v :: .int u :: S) M Q = brc (¬ u = v) (WP y [] a L S M Q) (WP y is ft L S M Q) := by
  by_cases h : ¬ u = v
  · rw [brc_pos h]; exact wp_step (fun n => by show (if decide (¬ u = v) then _ else _) = _; rw [decide_eq_true h]; rfl)
  · rw [brc_neg h]; exact wp_step (fun n => by show (if decide (¬ u = v) then _ else _) = _; rw [decide_eq_false h]; rfl)
theorem r_if_lt {y : Nat} {is : List Op} {ft : Nat} {L : Lo} {S : List Value} {M : Mem} {Q : Option Value → Mem → Prop} {a b c : Nat} {k : Int} {u : Int32} : WP y ((.ifCond .lt k, a, b, c) :: is) ft L (.int u :: S) M Q = brc (u < nI 0) (WP y [] a L S M Q) (WP y is ft L S M Q) := by
  by_cases h : u < nI 0
  · rw [brc_pos h]; exact wp_step (fun n => by show (if decide (u < nI 0) then _ else _) = _; rw [decide_eq_true h]; rfl)
  · rw [brc_neg h]; exact wp_step (fun n => by show (if decide (u < nI 0) then _ else _) = _; rw [decide_eq_false h]; rfl)
theorem r_icmp_lt {y : Nat} {is : List Op} {ft : Nat} {L : Lo} {S : List Value} {M : Mem} {Q : Option Value → Mem → Prop} {a b c : Nat} {k : Int} {u v : Int32} : WP y ((.if_icmp .lt k, a, b, c) :: is) ft L (.int v :: .int u :: S) M Q = brc (u < v) (WP y [] a L S M Q) (WP y is ft L S M Q) := by
  by_cases h : u < v
  · rw [brc_pos h]; exact wp_step (fun n => by show (if decide (u < v) then _ else _) = _; rw [decide_eq_true h]; rfl)
  · rw [brc_neg h]; exact wp_step (fun n => by show (if decide (u < v) then _ else _) = _; rw [decide_eq_false h]; rfl)
theorem r_if_ge {y : Nat} {is : List Op} {ft : Nat} {L : Lo} {S : List Value} {M : Mem} {Q : Option Value → Mem → Prop} {a b c : Nat} {k : Int} {u : Int32} : WP y ((.ifCond .ge k, a, b, c) :: is) ft L (.int u :: S) M Q = brc (nI 0 ≤ u) (WP y [] a L S M Q) (WP y is ft L S M Q) := by
  by_cases h : nI 0 ≤ u
  · rw [brc_pos h]; exact wp_step (fun n => by show (if decide (nI 0 ≤ u) then _ else _) = _; rw [decide_eq_true h]; rfl)
  · rw [brc_neg h]; exact wp_step (fun n => by show (if decide (nI 0 ≤ u) then _ else _) = _; rw [decide_eq_false h]; rfl)
theorem r_icmp_ge {y : Nat} {is : List Op} {ft : Nat} {L : Lo} {S : List Value} {M : Mem} {Q : Option Value → Mem → Prop} {a b c : Nat} {k : Int} {u v : Int32} : WP y ((.if_icmp .ge k, a, b, c) :: is) ft L (.int v :: .int u :: S) M Q = brc (v ≤ u) (WP y [] a L S M Q) (WP y is ft L S M Q) := by
  by_cases h : v ≤ u
  · rw [brc_pos h]; exact wp_step (fun n => by show (if decide (v ≤ u) then _ else _) = _; rw [decide_eq_true h]; rfl)
  · rw [brc_neg h]; exact wp_step (fun n => by show (if decide (v ≤ u) then _ else _) = _; rw [decide_eq_false h]; rfl)
theorem r_if_gt {y : Nat} {is : List Op} {ft : Nat} {L : Lo} {S : List Value} {M : Mem} {Q : Option Value → Mem → Prop} {a b c : Nat} {k : Int} {u : Int32} : WP y ((.ifCond .gt k, a, b, c) :: is) ft L (.int u :: S) M Q = brc (nI 0 < u) (WP y [] a L S M Q) (WP y is ft L S M Q) := by
  by_cases h : nI 0 < u
  · rw [brc_pos h]; exact wp_step (fun n => by show (if decide (nI 0 < u) then _ else _) = _; rw [decide_eq_true h]; rfl)
  · rw [brc_neg h]; exact wp_step (fun n => by show (if decide (nI 0 < u) then _ else _) = _; rw [decide_eq_false h]; rfl)
theorem r_icmp_gt {y : Nat} {is : List Op} {ft : Nat} {L : Lo} {S : List Value} {M : Mem} {Q : Option Value → Mem → Prop} {a b c : Nat} {k : Int} {u v : Int32} : WP y ((.if_icmp .gt k, a, b, c) :: is) ft L (.int v :: .int u :: S) M Q = brc (v < u) (WP y [] a L S M Q) (WP y is ft L S M Q) := by
  by_cases h : v < u
  · rw [brc_pos h]; exact wp_step (fun n => by show (if decide (v < u) then _ else _) = _; rw [decide_eq_true h]; rfl)
  · rw [brc_neg h]; exact wp_step (fun n => by show (if decide (v < u) then _ else _) = _; rw [decide_eq_false h]; rfl)
theorem r_if_le {y : Nat} {is : List Op} {ft : Nat} {L : Lo} {S : List Value} {M : Mem} {Q : Option Value → Mem → Prop} {a b c : Nat} {k : Int} {u : Int32} : WP y ((.ifCond .le k, a, b, c) :: is) ft L (.int u :: S) M Q = brc (u ≤ nI 0) (WP y [] a L S M Q) (WP y is ft L S M Q) := by
  by_cases h : u ≤ nI 0
  · rw [brc_pos h]; exact wp_step (fun n => by show (if decide (u ≤ nI 0) then _ else _) = _; rw [decide_eq_true h]; rfl)
  · rw [brc_neg h]; exact wp_step (fun n => by show (if decide (u ≤ nI 0) then _ else _) = _; rw [decide_eq_false h]; rfl)
theorem r_icmp_le {y : Nat} {is : List Op} {ft : Nat} {L : Lo} {S : List Value} {M : Mem} {Q : Option Value → Mem → Prop} {a b c : Nat} {k : Int} {u v : Int32} : WP y ((.if_icmp .le k, a, b, c) :: is) ft L (.int v :: .int u :: S) M Q = brc (u ≤ v) (WP y [] a L S M Q) (WP y is ft L S M Q) := by
  by_cases h : u ≤ v
  · rw [brc_pos h]; exact wp_step (fun n => by show (if decide (u ≤ v) then _ else _) = _; rw [decide_eq_true h]; rfl)
  · rw [brc_neg h]; exact wp_step (fun n => by show (if decide (u ≤ v) then _ else _) = _; rw [decide_eq_false h]; rfl)
theorem r_goto {y : Nat} {is : List Op} {ft : Nat} {L : Lo} {S : List Value} {M : Mem} {Q : Option Value → Mem → Prop} {a b c : Nat} {k : Int} : WP y ((.goto k, a, b, c) :: is) ft L S M Q = WP y [] a L S M Q := wp_step (fun n => rfl)
theorem r_switch {y : Nat} {is : List Op} {ft : Nat} {L : Lo} {S : List Value} {M : Mem} {Q : Option Value → Mem → Prop} {a b c : Nat} {k1 k2 k3 : Int} {k4 : Array Int} {u : Int32} : WP y ((.tableswitch k1 k2 k3 k4, a, b, c) :: is) ft L (.int u :: S) M Q = WP y [] (swt a u) L S M Q := wp_step (fun n => rfl)
theorem r_ireturn0 {y : Nat} {is : List Op} {ft : Nat} {L : Lo} {M : Mem} {Q : Option Value → Mem → Prop} {b c : Nat} {u : Int32} : WP y ((.ireturn, 0, b, c) :: is) ft L [.int u] M Q = Q (some (.int u)) M := wp_done (fun n => by simp [arun, stp, rtI])
theorem r_ireturn1 {y : Nat} {is : List Op} {ft : Nat} {L : Lo} {M : Mem} {Q : Option Value → Mem → Prop} {b c : Nat} {u : Int32} : WP y ((.ireturn, 1, b, c) :: is) ft L [.int u] M Q = ((u = nI 0 ∨ u = nI 1) ∧ Q (some (.int u)) M) := by
  rw [nI_0, show nI 1 = 1 from rfl]
  by_cases h : (1 : Nat) = 0 ∨ u = 0 ∨ u = 1
  · rw [wp_done (fun n => by show (if _ then _ else _) = _; rw [if_pos h])]; simp at h; simp [h]
  · rw [wp_false (fun n => by show (if _ then _ else _) = _; rw [if_neg h])]; simp at h; simp [h]
theorem r_lreturn {y : Nat} {is : List Op} {ft : Nat} {L : Lo} {M : Mem} {Q : Option Value → Mem → Prop} {a b c : Nat} {u : Int64} : WP y ((.lreturn, a, b, c) :: is) ft L [.long u] M Q = Q (some (.long u)) M := wp_done (fun n => rfl)
theorem r_areturn {y : Nat} {is : List Op} {ft : Nat} {L : Lo} {M : Mem} {Q : Option Value → Mem → Prop} {a b c : Nat} {u : Nat} : WP y ((.areturn, a, b, c) :: is) ft L [.ref u] M Q = Q (some (.ref u)) M := wp_done (fun n => rfl)
theorem r_return {y : Nat} {is : List Op} {ft : Nat} {L : Lo} {M : Mem} {Q : Option Value → Mem → Prop} {a b c : Nat}  : WP y ((.return_, a, b, c) :: is) ft L [] M Q = Q none M := wp_done (fun n => rfl)
theorem r_inv0 {y : Nat} {is : List Op} {ft : Nat} {L : Lo} {S : List Value} {M : Mem} {Q : Option Value → Mem → Prop} {a c : Nat} {k u : Nat}  : WP y ((.invokevirtual k, a, 0, c) :: is) ft L (.ref u :: S) M Q = (cls u = c ∧ S.length ≤ 4 ∧ Ct a [.ref u] M (fun r M' => WP y is ft L (r.toList ++ S) M' Q)) := by
  by_cases h : cls u = c ∧ S.length ≤ 4
  · rw [wp_call (z := a) (as := [.ref u]) (S' := S) (is' := is) (fun n => by show (if _ then _ else _) = _; rw [if_pos h]; rfl)]; simp [h]
  · rw [wp_false (fun n => by show (if _ then _ else _) = _; rw [if_neg h])]
    apply propext
    exact ⟨False.elim, fun q => h ⟨q.1, q.2.1⟩⟩
theorem r_inv1 {y : Nat} {is : List Op} {ft : Nat} {L : Lo} {S : List Value} {M : Mem} {Q : Option Value → Mem → Prop} {a c : Nat} {k u : Nat} {x1 : Value} : WP y ((.invokevirtual k, a, 1, c) :: is) ft L (x1 :: .ref u :: S) M Q = (cls u = c ∧ S.length ≤ 4 ∧ Ct a [.ref u, x1] M (fun r M' => WP y is ft L (r.toList ++ S) M' Q)) := by
  by_cases h : cls u = c ∧ S.length ≤ 4
  · rw [wp_call (z := a) (as := [.ref u, x1]) (S' := S) (is' := is) (fun n => by show (if _ then _ else _) = _; rw [if_pos h]; rfl)]; simp [h]
  · rw [wp_false (fun n => by show (if _ then _ else _) = _; rw [if_neg h])]
    apply propext
    exact ⟨False.elim, fun q => h ⟨q.1, q.2.1⟩⟩
theorem r_inv2 {y : Nat} {is : List Op} {ft : Nat} {L : Lo} {S : List Value} {M : Mem} {Q : Option Value → Mem → Prop} {a c : Nat} {k u : Nat} {x1 x2 : Value} : WP y ((.invokevirtual k, a, 2, c) :: is) ft L (x2 :: x1 :: .ref u :: S) M Q = (cls u = c ∧ S.length ≤ 4 ∧ Ct a [.ref u, x1, x2] M (fun r M' => WP y is ft L (r.toList ++ S) M' Q)) := by
  by_cases h : cls u = c ∧ S.length ≤ 4
  · rw [wp_call (z := a) (as := [.ref u, x1, x2]) (S' := S) (is' := is) (fun n => by show (if _ then _ else _) = _; rw [if_pos h]; rfl)]; simp [h]
  · rw [wp_false (fun n => by show (if _ then _ else _) = _; rw [if_neg h])]
    apply propext
    exact ⟨False.elim, fun q => h ⟨q.1, q.2.1⟩⟩
theorem r_inv3 {y : Nat} {is : List Op} {ft : Nat} {L : Lo} {S : List Value} {M : Mem} {Q : Option Value → Mem → Prop} {a c : Nat} {k u : Nat} {x1 x2 x3 : Value} : WP y ((.invokevirtual k, a, 3, c) :: is) ft L (x3 :: x2 :: x1 :: .ref u :: S) M Q = (cls u = c ∧ S.length ≤ 4 ∧ Ct a [.ref u, x1, x2, x3] M (fun r M' => WP y is ft L (r.toList ++ S) M' Q)) := by
  by_cases h : cls u = c ∧ S.length ≤ 4
  · rw [wp_call (z := a) (as := [.ref u, x1, x2, x3]) (S' := S) (is' := is) (fun n => by show (if _ then _ else _) = _; rw [if_pos h]; rfl)]; simp [h]
  · rw [wp_false (fun n => by show (if _ then _ else _) = _; rw [if_neg h])]
    apply propext
    exact ⟨False.elim, fun q => h ⟨q.1, q.2.1⟩⟩
theorem r_inv4 {y : Nat} {is : List Op} {ft : Nat} {L : Lo} {S : List Value} {M : Mem} {Q : Option Value → Mem → Prop} {a c : Nat} {k u : Nat} {x1 x2 x3 x4 : Value} : WP y ((.invokevirtual k, a, 4, c) :: is) ft L (x4 :: x3 :: x2 :: x1 :: .ref u :: S) M Q = (cls u = c ∧ S.length ≤ 4 ∧ Ct a [.ref u, x1, x2, x3, x4] M (fun r M' => WP y is ft L (r.toList ++ S) M' Q)) := by
  by_cases h : cls u = c ∧ S.length ≤ 4
  · rw [wp_call (z := a) (as := [.ref u, x1, x2, x3, x4]) (S' := S) (is' := is) (fun n => by show (if _ then _ else _) = _; rw [if_pos h]; rfl)]; simp [h]
  · rw [wp_false (fun n => by show (if _ then _ else _) = _; rw [if_neg h])]
    apply propext
    exact ⟨False.elim, fun q => h ⟨q.1, q.2.1⟩⟩
theorem r_inv5 {y : Nat} {is : List Op} {ft : Nat} {L : Lo} {S : List Value} {M : Mem} {Q : Option Value → Mem → Prop} {a c : Nat} {k u : Nat} {x1 x2 x3 x4 x5 : Value} : WP y ((.invokevirtual k, a, 5, c) :: is) ft L (x5 :: x4 :: x3 :: x2 :: x1 :: .ref u :: S) M Q = (cls u = c ∧ S.length ≤ 4 ∧ Ct a [.ref u, x1, x2, x3, x4, x5] M (fun r M' => WP y is ft L (r.toList ++ S) M' Q)) := by
  by_cases h : cls u = c ∧ S.length ≤ 4
  · rw [wp_call (z := a) (as := [.ref u, x1, x2, x3, x4, x5]) (S' := S) (is' := is) (fun n => by show (if _ then _ else _) = _; rw [if_pos h]; rfl)]; simp [h]
  · rw [wp_false (fun n => by show (if _ then _ else _) = _; rw [if_neg h])]
    apply propext
    exact ⟨False.elim, fun q => h ⟨q.1, q.2.1⟩⟩
theorem r_ins0 {y : Nat} {is : List Op} {ft : Nat} {L : Lo} {S : List Value} {M : Mem} {Q : Option Value → Mem → Prop} {a c : Nat} {k : Nat}  (hz : ¬ 997 ≤ a) : WP y ((.invokestatic k, a, 0, c) :: is) ft L (S) M Q = (S.length ≤ 4 ∧ Ct a [] M (fun r M' => WP y is ft L (r.toList ++ S) M' Q)) := by
  by_cases h : S.length ≤ 4
  · rw [wp_call (z := a) (as := []) (S' := S) (is' := is) (fun n => by show (if _ then _ else if _ then _ else _) = _; rw [if_neg hz, if_pos (by simp; omega)]; rfl)]; simp [h]
  · rw [wp_false (fun n => by show (if _ then _ else if _ then _ else _) = _; rw [if_neg hz, if_neg (by simp; omega)])]; simp [h]
theorem r_ins1 {y : Nat} {is : List Op} {ft : Nat} {L : Lo} {S : List Value} {M : Mem} {Q : Option Value → Mem → Prop} {a c : Nat} {k : Nat} {x1 : Value} (hz : ¬ 997 ≤ a) : WP y ((.invokestatic k, a, 1, c) :: is) ft L (x1 :: S) M Q = (S.length ≤ 4 ∧ Ct a [x1] M (fun r M' => WP y is ft L (r.toList ++ S) M' Q)) := by
  by_cases h : S.length ≤ 4
  · rw [wp_call (z := a) (as := [x1]) (S' := S) (is' := is) (fun n => by show (if _ then _ else if _ then _ else _) = _; rw [if_neg hz, if_pos (by simp; omega)]; rfl)]; simp [h]
  · rw [wp_false (fun n => by show (if _ then _ else if _ then _ else _) = _; rw [if_neg hz, if_neg (by simp; omega)])]; simp [h]
theorem r_ins2 {y : Nat} {is : List Op} {ft : Nat} {L : Lo} {S : List Value} {M : Mem} {Q : Option Value → Mem → Prop} {a c : Nat} {k : Nat} {x1 x2 : Value} (hz : ¬ 997 ≤ a) : WP y ((.invokestatic k, a, 2, c) :: is) ft L (x2 :: x1 :: S) M Q = (S.length ≤ 4 ∧ Ct a [x1, x2] M (fun r M' => WP y is ft L (r.toList ++ S) M' Q)) := by
  by_cases h : S.length ≤ 4
  · rw [wp_call (z := a) (as := [x1, x2]) (S' := S) (is' := is) (fun n => by show (if _ then _ else if _ then _ else _) = _; rw [if_neg hz, if_pos (by simp; omega)]; rfl)]; simp [h]
  · rw [wp_false (fun n => by show (if _ then _ else if _ then _ else _) = _; rw [if_neg hz, if_neg (by simp; omega)])]; simp [h]
theorem r_ins3 {y : Nat} {is : List Op} {ft : Nat} {L : Lo} {S : List Value} {M : Mem} {Q : Option Value → Mem → Prop} {a c : Nat} {k : Nat} {x1 x2 x3 : Value} (hz : ¬ 997 ≤ a) : WP y ((.invokestatic k, a, 3, c) :: is) ft L (x3 :: x2 :: x1 :: S) M Q = (S.length ≤ 4 ∧ Ct a [x1, x2, x3] M (fun r M' => WP y is ft L (r.toList ++ S) M' Q)) := by
  by_cases h : S.length ≤ 4
  · rw [wp_call (z := a) (as := [x1, x2, x3]) (S' := S) (is' := is) (fun n => by show (if _ then _ else if _ then _ else _) = _; rw [if_neg hz, if_pos (by simp; omega)]; rfl)]; simp [h]
  · rw [wp_false (fun n => by show (if _ then _ else if _ then _ else _) = _; rw [if_neg hz, if_neg (by simp; omega)])]; simp [h]
theorem r_ins4 {y : Nat} {is : List Op} {ft : Nat} {L : Lo} {S : List Value} {M : Mem} {Q : Option Value → Mem → Prop} {a c : Nat} {k : Nat} {x1 x2 x3 x4 : Value} (hz : ¬ 997 ≤ a) : WP y ((.invokestatic k, a, 4, c) :: is) ft L (x4 :: x3 :: x2 :: x1 :: S) M Q = (S.length ≤ 4 ∧ Ct a [x1, x2, x3, x4] M (fun r M' => WP y is ft L (r.toList ++ S) M' Q)) := by
  by_cases h : S.length ≤ 4
  · rw [wp_call (z := a) (as := [x1, x2, x3, x4]) (S' := S) (is' := is) (fun n => by show (if _ then _ else if _ then _ else _) = _; rw [if_neg hz, if_pos (by simp; omega)]; rfl)]; simp [h]
  · rw [wp_false (fun n => by show (if _ then _ else if _ then _ else _) = _; rw [if_neg hz, if_neg (by simp; omega)])]; simp [h]
theorem r_ins5 {y : Nat} {is : List Op} {ft : Nat} {L : Lo} {S : List Value} {M : Mem} {Q : Option Value → Mem → Prop} {a c : Nat} {k : Nat} {x1 x2 x3 x4 x5 : Value} (hz : ¬ 997 ≤ a) : WP y ((.invokestatic k, a, 5, c) :: is) ft L (x5 :: x4 :: x3 :: x2 :: x1 :: S) M Q = (S.length ≤ 4 ∧ Ct a [x1, x2, x3, x4, x5] M (fun r M' => WP y is ft L (r.toList ++ S) M' Q)) := by
  by_cases h : S.length ≤ 4
  · rw [wp_call (z := a) (as := [x1, x2, x3, x4, x5]) (S' := S) (is' := is) (fun n => by show (if _ then _ else if _ then _ else _) = _; rw [if_neg hz, if_pos (by simp; omega)]; rfl)]; simp [h]
  · rw [wp_false (fun n => by show (if _ then _ else if _ then _ else _) = _; rw [if_neg hz, if_neg (by simp; omega)])]; simp [h]
theorem r_min {y : Nat} {is : List Op} {ft : Nat} {L : Lo} {S : List Value} {M : Mem} {Q : Option Value → Mem → Prop} {b c : Nat} {k : Nat} {u v : Int32} : WP y ((.invokestatic k, 998, b, c) :: is) ft L (.int v :: .int u :: S) M Q = (S.length ≤ 4 ∧ WP y is ft L (.int (if v < u then v else u) :: S) M Q) := by
  by_cases h : S.length ≤ 4
  · rw [wp_step (y' := y) (is' := is) (ft' := ft) (L' := L) (S' := .int (if v < u then v else u) :: S) (M' := M) (fun n => by simp [arun, stp, eff, mm2, onE, h])]; simp [h]
  · rw [wp_false (fun n => by simp [arun, stp, eff, mm2, onE, h])]; simp [h]
theorem r_max {y : Nat} {is : List Op} {ft : Nat} {L : Lo} {S : List Value} {M : Mem} {Q : Option Value → Mem → Prop} {b c : Nat} {k : Nat} {u v : Int32} : WP y ((.invokestatic k, 997, b, c) :: is) ft L (.int v :: .int u :: S) M Q = (S.length ≤ 4 ∧ WP y is ft L (.int (if u < v then v else u) :: S) M Q) := by
  by_cases h : S.length ≤ 4
  · rw [wp_step (y' := y) (is' := is) (ft' := ft) (L' := L) (S' := .int (if u < v then v else u) :: S) (M' := M) (fun n => by simp [arun, stp, eff, mm2, onE, h])]; simp [h]
  · rw [wp_false (fun n => by simp [arun, stp, eff, mm2, onE, h])]; simp [h]
theorem r_acopy {y : Nat} {is : List Op} {ft : Nat} {L : Lo} {S : List Value} {M : Mem} {Q : Option Value → Mem → Prop} {b c : Nat} {k u v : Nat} {n sp dp : Int32} : WP y ((.invokestatic k, 999, b, c) :: is) ft L (.int n :: .int dp :: .ref v :: .int sp :: .ref u :: S) M Q = (onO (alen u) (fun n0 => onO (alen v) (fun n1 => ¬ sp < nI 0 ∧ ¬ dp < nI 0 ∧ ¬ n < nI 0 ∧ sp.toNatClampNeg + n.toNatClampNeg ≤ n0 ∧ dp.toNatClampNeg + n.toNatClampNeg ≤ n1 ∧ S.length ≤ 4)) ∧ WP y is ft L S (cpyM M u v sp.toNatClampNeg dp.toNatClampNeg n.toNatClampNeg) Q) := by
  cases h0 : alen u with
  | none => rw [wp_false (fun n => by show onE (match alen u, alen v with | some n0, some n1 => _ | _, _ => _) _ = _; rw [h0]; rfl)]; simp [onO]
  | some n0 =>
    cases h1 : alen v with
    | none => rw [wp_false (fun n => by show onE (match alen u, alen v with | some n0, some n1 => _ | _, _ => _) _ = _; rw [h0, h1]; rfl)]; simp [onO]
    | some n1 =>
      by_cases h : ¬ sp < 0 ∧ ¬ dp < 0 ∧ ¬ n < 0 ∧ sp.toNatClampNeg + n.toNatClampNeg ≤ n0 ∧ dp.toNatClampNeg + n.toNatClampNeg ≤ n1 ∧ S.length ≤ 4
      · rw [wp_step (fun n => by show onE (match alen u, alen v with | some n0, some n1 => _ | _, _ => _) _ = _; rw [h0, h1]; show onE (if _ then _ else _) _ = _; rw [if_pos h]; rfl)]
        exact propext ⟨fun q => ⟨h, q⟩, fun q => q.2⟩
      · rw [wp_false (fun n => by show onE (match alen u, alen v with | some n0, some n1 => _ | _, _ => _) _ = _; rw [h0, h1]; show onE (if _ then _ else _) _ = _; rw [if_neg h]; rfl)]
        exact propext ⟨False.elim, fun q => h q.1⟩
theorem fv0 {M : Mem} {c i j : Nat} : fval M c (0, i, j) = .ref i := rfl
theorem fv1 {M : Mem} {c i j : Nat} : fval M c (1, i, j) = .int (M c i) := rfl
theorem fv2 {M : Mem} {c i j : Nat} : fval M c (2, i, j) = .int (M c i) := rfl
theorem fv3 {M : Mem} {c i j : Nat} : fval M c (3, i, j) = .long (jn (M c i) (M c j)) := rfl
theorem fp1 {M : Mem} {c i j : Nat} {x : Int32} : fput M c (1, i, j) (.int x) = some (stM M c i x) := rfl
theorem fp20 {M : Mem} {c i j : Nat} : fput M c (2, i, j) (.int (nI 0)) = some (stM M c i (nI 0)) := rfl
theorem fp21 {M : Mem} {c i j : Nat} : fput M c (2, i, j) (.int (nI 1)) = some (stM M c i (nI 1)) := rfl
theorem fp3 {M : Mem} {c i j : Nat} {x : Int64} : fput M c (3, i, j) (.long x) = some (stM (stM M c i (jnl x)) c j (jnh x)) := rfl
theorem tl_s {v : Value} {S : List Value} : (some v).toList ++ S = v :: S := rfl
theorem tl_n {S : List Value} : (none : Option Value).toList ++ S = S := rfl
theorem lg0 {v0 : Option Value} {L : Lo} : lget (v0 :: L) 0 = v0 := rfl
theorem ls0 {v0 w : Option Value} {L : Lo} : lput (v0 :: L) 0 w = w :: L := rfl
theorem lg1 {v0 v1 : Option Value} {L : Lo} : lget (v0 :: v1 :: L) 1 = v1 := rfl
theorem ls1 {v0 v1 w : Option Value} {L : Lo} : lput (v0 :: v1 :: L) 1 w = v0 :: w :: L := rfl
theorem lk1 {v0 : Option Value} {L : Lo} : lkill (v0 :: L) 1 = kl v0 :: L := rfl
theorem lg2 {v0 v1 v2 : Option Value} {L : Lo} : lget (v0 :: v1 :: v2 :: L) 2 = v2 := rfl
theorem ls2 {v0 v1 v2 w : Option Value} {L : Lo} : lput (v0 :: v1 :: v2 :: L) 2 w = v0 :: v1 :: w :: L := rfl
theorem lk2 {v0 v1 : Option Value} {L : Lo} : lkill (v0 :: v1 :: L) 2 = v0 :: kl v1 :: L := rfl
theorem lg3 {v0 v1 v2 v3 : Option Value} {L : Lo} : lget (v0 :: v1 :: v2 :: v3 :: L) 3 = v3 := rfl
theorem ls3 {v0 v1 v2 v3 w : Option Value} {L : Lo} : lput (v0 :: v1 :: v2 :: v3 :: L) 3 w = v0 :: v1 :: v2 :: w :: L := rfl
theorem lk3 {v0 v1 v2 : Option Value} {L : Lo} : lkill (v0 :: v1 :: v2 :: L) 3 = v0 :: v1 :: kl v2 :: L := rfl
theorem lg4 {v0 v1 v2 v3 v4 : Option Value} {L : Lo} : lget (v0 :: v1 :: v2 :: v3 :: v4 :: L) 4 = v4 := rfl
theorem ls4 {v0 v1 v2 v3 v4 w : Option Value} {L : Lo} : lput (v0 :: v1 :: v2 :: v3 :: v4 :: L) 4 w = v0 :: v1 :: v2 :: v3 :: w :: L := rfl
theorem lk4 {v0 v1 v2 v3 : Option Value} {L : Lo} : lkill (v0 :: v1 :: v2 :: v3 :: L) 4 = v0 :: v1 :: v2 :: kl v3 :: L := rfl
theorem lg5 {v0 v1 v2 v3 v4 v5 : Option Value} {L : Lo} : lget (v0 :: v1 :: v2 :: v3 :: v4 :: v5 :: L) 5 = v5 := rfl
theorem ls5 {v0 v1 v2 v3 v4 v5 w : Option Value} {L : Lo} : lput (v0 :: v1 :: v2 :: v3 :: v4 :: v5 :: L) 5 w = v0 :: v1 :: v2 :: v3 :: v4 :: w :: L := rfl
theorem lk5 {v0 v1 v2 v3 v4 : Option Value} {L : Lo} : lkill (v0 :: v1 :: v2 :: v3 :: v4 :: L) 5 = v0 :: v1 :: v2 :: v3 :: kl v4 :: L := rfl
theorem lg6 {v0 v1 v2 v3 v4 v5 v6 : Option Value} {L : Lo} : lget (v0 :: v1 :: v2 :: v3 :: v4 :: v5 :: v6 :: L) 6 = v6 := rfl
theorem ls6 {v0 v1 v2 v3 v4 v5 v6 w : Option Value} {L : Lo} : lput (v0 :: v1 :: v2 :: v3 :: v4 :: v5 :: v6 :: L) 6 w = v0 :: v1 :: v2 :: v3 :: v4 :: v5 :: w :: L := rfl
theorem lk6 {v0 v1 v2 v3 v4 v5 : Option Value} {L : Lo} : lkill (v0 :: v1 :: v2 :: v3 :: v4 :: v5 :: L) 6 = v0 :: v1 :: v2 :: v3 :: v4 :: kl v5 :: L := rfl
theorem lg7 {v0 v1 v2 v3 v4 v5 v6 v7 : Option Value} {L : Lo} : lget (v0 :: v1 :: v2 :: v3 :: v4 :: v5 :: v6 :: v7 :: L) 7 = v7 := rfl
theorem ls7 {v0 v1 v2 v3 v4 v5 v6 v7 w : Option Value} {L : Lo} : lput (v0 :: v1 :: v2 :: v3 :: v4 :: v5 :: v6 :: v7 :: L) 7 w = v0 :: v1 :: v2 :: v3 :: v4 :: v5 :: v6 :: w :: L := rfl
theorem lk7 {v0 v1 v2 v3 v4 v5 v6 : Option Value} {L : Lo} : lkill (v0 :: v1 :: v2 :: v3 :: v4 :: v5 :: v6 :: L) 7 = v0 :: v1 :: v2 :: v3 :: v4 :: v5 :: kl v6 :: L := rfl
theorem lg8 {v0 v1 v2 v3 v4 v5 v6 v7 v8 : Option Value} {L : Lo} : lget (v0 :: v1 :: v2 :: v3 :: v4 :: v5 :: v6 :: v7 :: v8 :: L) 8 = v8 := rfl
theorem ls8 {v0 v1 v2 v3 v4 v5 v6 v7 v8 w : Option Value} {L : Lo} : lput (v0 :: v1 :: v2 :: v3 :: v4 :: v5 :: v6 :: v7 :: v8 :: L) 8 w = v0 :: v1 :: v2 :: v3 :: v4 :: v5 :: v6 :: v7 :: w :: L := rfl
theorem lk8 {v0 v1 v2 v3 v4 v5 v6 v7 : Option Value} {L : Lo} : lkill (v0 :: v1 :: v2 :: v3 :: v4 :: v5 :: v6 :: v7 :: L) 8 = v0 :: v1 :: v2 :: v3 :: v4 :: v5 :: v6 :: kl v7 :: L := rfl
theorem lg9 {v0 v1 v2 v3 v4 v5 v6 v7 v8 v9 : Option Value} {L : Lo} : lget (v0 :: v1 :: v2 :: v3 :: v4 :: v5 :: v6 :: v7 :: v8 :: v9 :: L) 9 = v9 := rfl
theorem ls9 {v0 v1 v2 v3 v4 v5 v6 v7 v8 v9 w : Option Value} {L : Lo} : lput (v0 :: v1 :: v2 :: v3 :: v4 :: v5 :: v6 :: v7 :: v8 :: v9 :: L) 9 w = v0 :: v1 :: v2 :: v3 :: v4 :: v5 :: v6 :: v7 :: v8 :: w :: L := rfl
theorem lk9 {v0 v1 v2 v3 v4 v5 v6 v7 v8 : Option Value} {L : Lo} : lkill (v0 :: v1 :: v2 :: v3 :: v4 :: v5 :: v6 :: v7 :: v8 :: L) 9 = v0 :: v1 :: v2 :: v3 :: v4 :: v5 :: v6 :: v7 :: kl v8 :: L := rfl
theorem lg10 {v0 v1 v2 v3 v4 v5 v6 v7 v8 v9 v10 : Option Value} {L : Lo} : lget (v0 :: v1 :: v2 :: v3 :: v4 :: v5 :: v6 :: v7 :: v8 :: v9 :: v10 :: L) 10 = v10 := rfl
theorem ls10 {v0 v1 v2 v3 v4 v5 v6 v7 v8 v9 v10 w : Option Value} {L : Lo} : lput (v0 :: v1 :: v2 :: v3 :: v4 :: v5 :: v6 :: v7 :: v8 :: v9 :: v10 :: L) 10 w = v0 :: v1 :: v2 :: v3 :: v4 :: v5 :: v6 :: v7 :: v8 :: v9 :: w :: L := rfl
theorem lk10 {v0 v1 v2 v3 v4 v5 v6 v7 v8 v9 : Option Value} {L : Lo} : lkill (v0 :: v1 :: v2 :: v3 :: v4 :: v5 :: v6 :: v7 :: v8 :: v9 :: L) 10 = v0 :: v1 :: v2 :: v3 :: v4 :: v5 :: v6 :: v7 :: v8 :: kl v9 :: L := rfl
theorem lg11 {v0 v1 v2 v3 v4 v5 v6 v7 v8 v9 v10 v11 : Option Value} {L : Lo} : lget (v0 :: v1 :: v2 :: v3 :: v4 :: v5 :: v6 :: v7 :: v8 :: v9 :: v10 :: v11 :: L) 11 = v11 := rfl
theorem ls11 {v0 v1 v2 v3 v4 v5 v6 v7 v8 v9 v10 v11 w : Option Value} {L : Lo} : lput (v0 :: v1 :: v2 :: v3 :: v4 :: v5 :: v6 :: v7 :: v8 :: v9 :: v10 :: v11 :: L) 11 w = v0 :: v1 :: v2 :: v3 :: v4 :: v5 :: v6 :: v7 :: v8 :: v9 :: v10 :: w :: L := rfl
theorem lk11 {v0 v1 v2 v3 v4 v5 v6 v7 v8 v9 v10 : Option Value} {L : Lo} : lkill (v0 :: v1 :: v2 :: v3 :: v4 :: v5 :: v6 :: v7 :: v8 :: v9 :: v10 :: L) 11 = v0 :: v1 :: v2 :: v3 :: v4 :: v5 :: v6 :: v7 :: v8 :: v9 :: kl v10 :: L := rfl
theorem lg12 {v0 v1 v2 v3 v4 v5 v6 v7 v8 v9 v10 v11 v12 : Option Value} {L : Lo} : lget (v0 :: v1 :: v2 :: v3 :: v4 :: v5 :: v6 :: v7 :: v8 :: v9 :: v10 :: v11 :: v12 :: L) 12 = v12 := rfl
theorem ls12 {v0 v1 v2 v3 v4 v5 v6 v7 v8 v9 v10 v11 v12 w : Option Value} {L : Lo} : lput (v0 :: v1 :: v2 :: v3 :: v4 :: v5 :: v6 :: v7 :: v8 :: v9 :: v10 :: v11 :: v12 :: L) 12 w = v0 :: v1 :: v2 :: v3 :: v4 :: v5 :: v6 :: v7 :: v8 :: v9 :: v10 :: v11 :: w :: L := rfl
theorem lk12 {v0 v1 v2 v3 v4 v5 v6 v7 v8 v9 v10 v11 : Option Value} {L : Lo} : lkill (v0 :: v1 :: v2 :: v3 :: v4 :: v5 :: v6 :: v7 :: v8 :: v9 :: v10 :: v11 :: L) 12 = v0 :: v1 :: v2 :: v3 :: v4 :: v5 :: v6 :: v7 :: v8 :: v9 :: v10 :: kl v11 :: L := rfl
theorem lg13 {v0 v1 v2 v3 v4 v5 v6 v7 v8 v9 v10 v11 v12 v13 : Option Value} {L : Lo} : lget (v0 :: v1 :: v2 :: v3 :: v4 :: v5 :: v6 :: v7 :: v8 :: v9 :: v10 :: v11 :: v12 :: v13 :: L) 13 = v13 := rfl
theorem ls13 {v0 v1 v2 v3 v4 v5 v6 v7 v8 v9 v10 v11 v12 v13 w : Option Value} {L : Lo} : lput (v0 :: v1 :: v2 :: v3 :: v4 :: v5 :: v6 :: v7 :: v8 :: v9 :: v10 :: v11 :: v12 :: v13 :: L) 13 w = v0 :: v1 :: v2 :: v3 :: v4 :: v5 :: v6 :: v7 :: v8 :: v9 :: v10 :: v11 :: v12 :: w :: L := rfl
theorem lk13 {v0 v1 v2 v3 v4 v5 v6 v7 v8 v9 v10 v11 v12 : Option Value} {L : Lo} : lkill (v0 :: v1 :: v2 :: v3 :: v4 :: v5 :: v6 :: v7 :: v8 :: v9 :: v10 :: v11 :: v12 :: L) 13 = v0 :: v1 :: v2 :: v3 :: v4 :: v5 :: v6 :: v7 :: v8 :: v9 :: v10 :: v11 :: kl v12 :: L := rfl
theorem lg14 {v0 v1 v2 v3 v4 v5 v6 v7 v8 v9 v10 v11 v12 v13 v14 : Option Value} {L : Lo} : lget (v0 :: v1 :: v2 :: v3 :: v4 :: v5 :: v6 :: v7 :: v8 :: v9 :: v10 :: v11 :: v12 :: v13 :: v14 :: L) 14 = v14 := rfl
theorem ls14 {v0 v1 v2 v3 v4 v5 v6 v7 v8 v9 v10 v11 v12 v13 v14 w : Option Value} {L : Lo} : lput (v0 :: v1 :: v2 :: v3 :: v4 :: v5 :: v6 :: v7 :: v8 :: v9 :: v10 :: v11 :: v12 :: v13 :: v14 :: L) 14 w = v0 :: v1 :: v2 :: v3 :: v4 :: v5 :: v6 :: v7 :: v8 :: v9 :: v10 :: v11 :: v12 :: v13 :: w :: L := rfl
theorem lk14 {v0 v1 v2 v3 v4 v5 v6 v7 v8 v9 v10 v11 v12 v13 : Option Value} {L : Lo} : lkill (v0 :: v1 :: v2 :: v3 :: v4 :: v5 :: v6 :: v7 :: v8 :: v9 :: v10 :: v11 :: v12 :: v13 :: L) 14 = v0 :: v1 :: v2 :: v3 :: v4 :: v5 :: v6 :: v7 :: v8 :: v9 :: v10 :: v11 :: v12 :: kl v13 :: L := rfl
theorem lg15 {v0 v1 v2 v3 v4 v5 v6 v7 v8 v9 v10 v11 v12 v13 v14 v15 : Option Value} {L : Lo} : lget (v0 :: v1 :: v2 :: v3 :: v4 :: v5 :: v6 :: v7 :: v8 :: v9 :: v10 :: v11 :: v12 :: v13 :: v14 :: v15 :: L) 15 = v15 := rfl
theorem ls15 {v0 v1 v2 v3 v4 v5 v6 v7 v8 v9 v10 v11 v12 v13 v14 v15 w : Option Value} {L : Lo} : lput (v0 :: v1 :: v2 :: v3 :: v4 :: v5 :: v6 :: v7 :: v8 :: v9 :: v10 :: v11 :: v12 :: v13 :: v14 :: v15 :: L) 15 w = v0 :: v1 :: v2 :: v3 :: v4 :: v5 :: v6 :: v7 :: v8 :: v9 :: v10 :: v11 :: v12 :: v13 :: v14 :: w :: L := rfl
theorem lk15 {v0 v1 v2 v3 v4 v5 v6 v7 v8 v9 v10 v11 v12 v13 v14 : Option Value} {L : Lo} : lkill (v0 :: v1 :: v2 :: v3 :: v4 :: v5 :: v6 :: v7 :: v8 :: v9 :: v10 :: v11 :: v12 :: v13 :: v14 :: L) 15 = v0 :: v1 :: v2 :: v3 :: v4 :: v5 :: v6 :: v7 :: v8 :: v9 :: v10 :: v11 :: v12 :: v13 :: kl v14 :: L := rfl
theorem lg16 {v0 v1 v2 v3 v4 v5 v6 v7 v8 v9 v10 v11 v12 v13 v14 v15 v16 : Option Value} {L : Lo} : lget (v0 :: v1 :: v2 :: v3 :: v4 :: v5 :: v6 :: v7 :: v8 :: v9 :: v10 :: v11 :: v12 :: v13 :: v14 :: v15 :: v16 :: L) 16 = v16 := rfl
theorem ls16 {v0 v1 v2 v3 v4 v5 v6 v7 v8 v9 v10 v11 v12 v13 v14 v15 v16 w : Option Value} {L : Lo} : lput (v0 :: v1 :: v2 :: v3 :: v4 :: v5 :: v6 :: v7 :: v8 :: v9 :: v10 :: v11 :: v12 :: v13 :: v14 :: v15 :: v16 :: L) 16 w = v0 :: v1 :: v2 :: v3 :: v4 :: v5 :: v6 :: v7 :: v8 :: v9 :: v10 :: v11 :: v12 :: v13 :: v14 :: v15 :: w :: L := rfl
theorem lk16 {v0 v1 v2 v3 v4 v5 v6 v7 v8 v9 v10 v11 v12 v13 v14 v15 : Option Value} {L : Lo} : lkill (v0 :: v1 :: v2 :: v3 :: v4 :: v5 :: v6 :: v7 :: v8 :: v9 :: v10 :: v11 :: v12 :: v13 :: v14 :: v15 :: L) 16 = v0 :: v1 :: v2 :: v3 :: v4 :: v5 :: v6 :: v7 :: v8 :: v9 :: v10 :: v11 :: v12 :: v13 :: v14 :: kl v15 :: L := rfl
theorem lg17 {v0 v1 v2 v3 v4 v5 v6 v7 v8 v9 v10 v11 v12 v13 v14 v15 v16 v17 : Option Value} {L : Lo} : lget (v0 :: v1 :: v2 :: v3 :: v4 :: v5 :: v6 :: v7 :: v8 :: v9 :: v10 :: v11 :: v12 :: v13 :: v14 :: v15 :: v16 :: v17 :: L) 17 = v17 := rfl
theorem ls17 {v0 v1 v2 v3 v4 v5 v6 v7 v8 v9 v10 v11 v12 v13 v14 v15 v16 v17 w : Option Value} {L : Lo} : lput (v0 :: v1 :: v2 :: v3 :: v4 :: v5 :: v6 :: v7 :: v8 :: v9 :: v10 :: v11 :: v12 :: v13 :: v14 :: v15 :: v16 :: v17 :: L) 17 w = v0 :: v1 :: v2 :: v3 :: v4 :: v5 :: v6 :: v7 :: v8 :: v9 :: v10 :: v11 :: v12 :: v13 :: v14 :: v15 :: v16 :: w :: L := rfl
theorem lk17 {v0 v1 v2 v3 v4 v5 v6 v7 v8 v9 v10 v11 v12 v13 v14 v15 v16 : Option Value} {L : Lo} : lkill (v0 :: v1 :: v2 :: v3 :: v4 :: v5 :: v6 :: v7 :: v8 :: v9 :: v10 :: v11 :: v12 :: v13 :: v14 :: v15 :: v16 :: L) 17 = v0 :: v1 :: v2 :: v3 :: v4 :: v5 :: v6 :: v7 :: v8 :: v9 :: v10 :: v11 :: v12 :: v13 :: v14 :: v15 :: kl v16 :: L := rfl
theorem lk0 {v : Option Value} {L : Lo} : lkill (v :: L) 0 = v :: L := rfl
theorem kl_n : kl none = none := rfl
theorem kl_i {x : Int32} : kl (some (.int x)) = some (.int x) := rfl
theorem kl_r {x : Nat} : kl (some (.ref x)) = some (.ref x) := rfl
theorem kl_l {x : Int64} : kl (some (.long x)) = none := rfl
