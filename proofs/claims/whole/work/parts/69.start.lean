/-! the first world: all cells as the constructors leave them -/
def adl_0 (x y : Nat) (u : List (List Nat)) (f : List Nat) : List Nat := [x, ((u.getD 7 []).getD 0 0), ((u.getD 0 []).getD 0 0), ((u.getD 0 []).getD 1 0), ((u.getD 0 []).getD 2 0), ((u.getD 0 []).getD 3 0), ((u.getD 0 []).getD 4 0), ((u.getD 0 []).getD 5 0), ((u.getD 0 []).getD 6 0), ((u.getD 0 []).getD 7 0), ((u.getD 0 []).getD 8 0), ((u.getD 0 []).getD 9 0)]
def adl_1 (x y : Nat) (u : List (List Nat)) (f : List Nat) : List Nat := [((u.getD 0 []).getD 10 0), ((u.getD 0 []).getD 11 0), ((u.getD 0 []).getD 12 0), ((u.getD 0 []).getD 13 0), ((u.getD 0 []).getD 14 0), ((u.getD 0 []).getD 15 0), ((u.getD 0 []).getD 16 0), ((u.getD 0 []).getD 17 0), ((u.getD 7 []).getD 1 0), ((u.getD 1 []).getD 0 0), ((u.getD 1 []).getD 1 0), ((u.getD 1 []).getD 2 0)]
def adl_2 (x y : Nat) (u : List (List Nat)) (f : List Nat) : List Nat := [((u.getD 1 []).getD 3 0), ((u.getD 1 []).getD 4 0), ((u.getD 1 []).getD 5 0), ((u.getD 1 []).getD 6 0), ((u.getD 1 []).getD 7 0), ((u.getD 1 []).getD 8 0), ((u.getD 1 []).getD 9 0), ((u.getD 1 []).getD 10 0), ((u.getD 1 []).getD 11 0), ((u.getD 1 []).getD 12 0), ((u.getD 1 []).getD 13 0), ((u.getD 1 []).getD 14 0)]
def adl_3 (x y : Nat) (u : List (List Nat)) (f : List Nat) : List Nat := [((u.getD 1 []).getD 15 0), ((u.getD 1 []).getD 16 0), ((u.getD 7 []).getD 2 0), ((u.getD 2 []).getD 0 0), ((u.getD 2 []).getD 1 0), ((u.getD 2 []).getD 2 0), ((u.getD 2 []).getD 3 0), ((u.getD 2 []).getD 4 0), ((u.getD 2 []).getD 5 0), ((u.getD 2 []).getD 6 0), ((u.getD 2 []).getD 7 0), ((u.getD 2 []).getD 8 0)]
def adl_4 (x y : Nat) (u : List (List Nat)) (f : List Nat) : List Nat := [((u.getD 2 []).getD 9 0), ((u.getD 2 []).getD 10 0), ((u.getD 2 []).getD 11 0), ((u.getD 2 []).getD 12 0), ((u.getD 2 []).getD 13 0), ((u.getD 7 []).getD 3 0), ((u.getD 7 []).getD 4 0), ((u.getD 3 []).getD 0 0), ((u.getD 7 []).getD 5 0), ((u.getD 4 []).getD 0 0), ((u.getD 7 []).getD 6 0), ((u.getD 5 []).getD 0 0)]
def adl_5 (x y : Nat) (u : List (List Nat)) (f : List Nat) : List Nat := [((u.getD 7 []).getD 7 0), ((u.getD 6 []).getD 0 0), y, (f.getD 0 0), (f.getD 1 0), (f.getD 2 0), (f.getD 3 0), (f.getD 4 0), (f.getD 5 0), (f.getD 6 0), (f.getD 7 0), (f.getD 8 0)]
def adl_6 (x y : Nat) (u : List (List Nat)) (f : List Nat) : List Nat := [(f.getD 9 0), (f.getD 10 0), (f.getD 11 0), (f.getD 12 0), (f.getD 13 0), (f.getD 14 0), (f.getD 15 0), (f.getD 16 0), (f.getD 17 0), (f.getD 18 0), (f.getD 19 0)]
def adl (x y : Nat) (u : List (List Nat)) (f : List Nat) : List Nat := adl_0 x y u f ++ adl_1 x y u f ++ adl_2 x y u f ++ adl_3 x y u f ++ adl_4 x y u f ++ adl_5 x y u f ++ adl_6 x y u f
def ad0 (x y : Nat) (u : List (List Nat)) (f : List Nat) : Nat → Nat := fun c => (adl x y u f).getD c 0
def F63 : Nat → Int32 := upd (upd (upd (upd (fun _ => 0) (nI 0).toNatClampNeg (mI 1)) (nI 1).toNatClampNeg (mI 1)) (nI 2).toNatClampNeg (mI 1)) (nI 3).toNatClampNeg (mI 1)
def M0 : Mem := fun c => if c = 1 then (fun i => if i = 6 then mI 1 else if i = 7 then mI 1 else 0) else if c = 2 then (fun i => if i = 0 then nI 41 else 0) else if c = 4 then (fun i => if i = 0 then nI 35 else 0) else if c = 38 then (fun i => if i = 8 then nI 1 else 0) else if c = 54 then (fun i => if i = 1 then mI 1 else 0) else if c = 56 then (fun i => if i = 1 then mI 1 else 0) else if c = 58 then (fun i => if i = 1 then mI 1 else 0) else if c = 60 then (fun i => if i = 1 then mI 1 else 0) else if c = 62 then (fun i => if i = 14 then mI 1 else 0) else if c = 63 then F63 else fun _ => 0
theorem shv (x y : Nat) (u : List (List Nat)) (f : List Nat) : va_up (va_up (va_up (va_up (fun _ => none) (nI 0).toNatClampNeg (some ((u.getD 7 []).getD 4 0))) (nI 1).toNatClampNeg (some ((u.getD 7 []).getD 5 0))) (nI 2).toNatClampNeg (some ((u.getD 7 []).getD 6 0))) (nI 3).toNatClampNeg (some ((u.getD 7 []).getD 7 0)) = fun i => (([54, 56, 58, 60] : List Nat)[i]?).map (ad0 x y u f) := by
  funext i
  match i with
  | 0 => rfl
  | 1 => rfl
  | 2 => rfl
  | 3 => rfl
  | i + 4 => rfl

set_option maxRecDepth 100000 in
set_option maxHeartbeats 4000000 in
theorem start_ws (ty : ClassId × ClassId) (x y : Nat) (u : List (List Nat)) (f : List Nat) : fw_10 ty x u ++ fw_11 ty y f = wsM ty (ad0 x y u f) M0 := by
  unfold fw_10
  rw [shv x y u f]
  rfl
def g0 : Sg := ((0, fun _ => 0), (0, fun _ => 0), (0, fun _ => 0, fun _ => 0, fun _ => 0), (0, fun _ => 0, fun _ => 0, fun _ => 0), (fun _ => 0, fun _ => 0, fun _ _ => 0), 0)
theorem start_CI : CI M0 g0 := by
  have z : ∀ c, c = 5 ∨ c = 3 ∨ c = 7 ∨ c = 8 ∨ c = 9 ∨ c = 10 ∨ c = 11 ∨ c = 12 ∨ c = 16 ∨ c = 0 ∨ c = 20 ∨ c = 21 → M0 c = fun _ => 0 := by
    rintro c (rfl | rfl | rfl | rfl | rfl | rfl | rfl | rfl | rfl | rfl | rfl | rfl) <;> rfl
  refine ⟨⟨⟨rfl, rfl, by decide, fun i hi => absurd hi (Nat.not_lt_zero i), fun i => Nat.zero_le _⟩, ⟨rfl, rfl, by decide, fun i hi => absurd hi (Nat.not_lt_zero i), fun i => Nat.zero_le _⟩, ⟨fun c hc => ⟨by rw [z 8 (by omega)]; rfl, fun j hj => by rw [z 7 (by omega)]; rfl⟩, ⟨by rw [z 9 (by omega)]; rfl, fun i hi => absurd hi (Nat.not_lt_zero i)⟩, by rw [z 12 (by omega)]; rfl, by decide, fun i hi => absurd hi (Nat.not_lt_zero i), fun i => ⟨Nat.zero_le _, Nat.zero_le _, Nat.zero_le _⟩⟩, rfl, rfl, ⟨by rw [z 16 (by omega)]; rfl, by decide, fun i hi => absurd hi (Nat.not_lt_zero i), fun i => ⟨Nat.zero_le _, Nat.zero_le _, Nat.zero_le _⟩⟩, ⟨by rw [z 0 (by omega)]; rfl, by decide⟩, ⟨rfl, by decide, rfl, by decide, fun i hi => absurd hi (Nat.not_lt_zero i)⟩, ⟨rfl, by decide, rfl, by decide, fun i hi => absurd hi (Nat.not_lt_zero i)⟩, ⟨rfl, by decide, rfl, by decide, fun i hi => absurd hi (Nat.not_lt_zero i)⟩, ⟨rfl, by decide, rfl, by decide, fun i hi => absurd hi (Nat.not_lt_zero i)⟩⟩, Or.inl (by rw [z 0 (by omega)]; rfl), Or.inl (by rw [z 20 (by omega)]; rfl), by rw [z 21 (by omega)]; rfl, rfl⟩
theorem start_MJ : MJ M0 g0 := by
  refine ⟨⟨rfl, by decide, fun i hi => absurd hi (Nat.not_lt_zero i), fun i => Nat.zero_le _⟩, ⟨rfl, by decide, fun i hi => absurd hi (Nat.not_lt_zero i), fun i => Nat.zero_le _⟩, ⟨rfl, by decide, fun i hi => absurd hi (Nat.not_lt_zero i), fun i => ⟨Nat.zero_le _, Nat.zero_le _, Nat.zero_le _⟩⟩, ⟨rfl, by decide, fun i hi => absurd hi (Nat.not_lt_zero i), fun i => ⟨Nat.zero_le _, Nat.zero_le _, Nat.zero_le _⟩⟩, fun s hs => ?_, ⟨rfl, by decide⟩, rfl, rfl, rfl, rfl⟩
  rcases (show s = 0 ∨ s = 1 ∨ s = 2 ∨ s = 3 by omega) with rfl | rfl | rfl | rfl
  · exact ⟨rfl, by decide, rfl, by decide, fun i hi => absurd hi (Nat.not_lt_zero i)⟩
  · exact ⟨rfl, by decide, rfl, by decide, fun i hi => absurd hi (Nat.not_lt_zero i)⟩
  · exact ⟨rfl, by decide, rfl, by decide, fun i hi => absurd hi (Nat.not_lt_zero i)⟩
  · exact ⟨rfl, by decide, rfl, by decide, fun i hi => absurd hi (Nat.not_lt_zero i)⟩
