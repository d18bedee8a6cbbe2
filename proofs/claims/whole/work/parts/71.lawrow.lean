/-! THE LAW: rows -/
def LC (p : Program) (s : State) (m : MethodId) (c : Code) (b L : Nat) (xs : Nat → Int32) (D : va_G) (ty : ClassId × ClassId) (ad : Nat → Nat) : Prop := p.tables.exec = Jvm.exec ∧ c.code = code ∧ c.maxLocals = 4 ∧ s.vm.findClass RL = some m.cls ∧ (∀ w ∈ TG, w.before #[Value.ref b] s = true) ∧ va_X b L xs s s.heap ∧ b < s.heap.size ∧ va_K D cls_ (tyL ty) s ∧ (∀ q ∈ nuL, va_Nw (nuC q) s) ∧ inj ad ∧ ∀ k, k < NC → s.heap.size ≤ ad k
theorem MJ.up {M N : Mem} {g : Sg} (h : MJ M g) (hU : Up M N) : MJ N g := h.mv (fun c hc => hU c (by omega)) (fun j _ => by rw [hU 62 (by omega)])
theorem CI.low {M N : Mem} {g : Sg} (h : CI M g) (hL : Lw M N) : CI N g := by
  obtain ⟨h1, h2, h3, h4, h5⟩ := h
  refine ⟨h1.mv (fun c hc => hL c (by omega)) (by rw [hL 0 (by omega)]), ?_, h3.mv (by rw [hL 20 (by omega)]) (hL 36 (by omega)), by rw [hL 21 (by omega)]; exact h4, by rw [hL 38 (by omega)]; exact h5⟩
  unfold SK at h2 ⊢
  rw [hL 0 (by omega), hL 42 (by omega)]
  rcases h2 with a | ⟨a, b, c⟩
  · exact Or.inl a
  · exact Or.inr ⟨a, b.mv (fun c hc => hL c (by omega)), c⟩
theorem and63 (x : Int32) : ∃ j, j < 64 ∧ x &&& nI 63 = nI j := by
  refine ⟨x.toBitVec.toNat % 64, Nat.mod_lt _ (by decide), ?_⟩
  apply Int32.toBitVec_inj.mp
  apply BitVec.eq_of_toNat_eq
  show (x.toBitVec &&& BitVec.ofNat 32 63).toNat = (BitVec.ofNat 32 (x.toBitVec.toNat % 64)).toNat
  rw [BitVec.toNat_and, BitVec.toNat_ofNat, BitVec.toNat_ofNat, show 63 % 2 ^ 32 = 2 ^ 6 - 1 from rfl, Nat.and_two_pow_sub_one_eq_mod]
  omega
section LR
variable {p : Program} {l : Launch} {e : Env} {s : State} {m : MethodId} {below : List Frame} {meth : Method} {c : Code} {b L : Nat} {xs : Nat → Int32} {D : va_G} {ty : ClassId × ClassId} {ad : Nat → Nat} {H : Heap} {locs : List Loc} {Q : State → Prop} {pc : Nat} {ls : Array Slot} {rest : List Value}
theorem lw_call (C : LC p s m c b L xs D ty ad) {z idx c1 k : Nat} {As : List Int32} {M M' : Mem} {r : Option Value} (h : Ev z (.ref c1 :: As.map .int) M r M') (hz : z < NM) (hlk : Cond.methodLink RL idx (my z) ∈ TG) (hst : stc z = 0) (hcl : mc z = k) (hk : k < 12) (hsh : ∃ fs, sh c1 = some (.inr (.inr (k, fs)))) (hnp : As.length = np z) (hfr : mf z + 1 ≤ 12 ∧ 8 + (mL z + 11) + mo z ≤ 486) (hP : va_P D cls_ (wsM ty ad M) H) (hS : va_S (fun q => s.heap.size ≤ q) s.heap H locs) (hls : ls.size = 4) (hrm : (rest.map fun v => v.category).sum ≤ 8) (hdg : decode code pc = .ok (.invokevirtual idx, 3))
    (kk : ∀ (H1 : Heap) (locs1 : List Loc), va_P D cls_ (wsM ty ad M') H1 → va_S (fun q => s.heap.size ≤ q) s.heap H1 locs1 → W p l e room_1 s m #[Value.ref b] below meth c H1 locs1 83 4116 Q (F0 m (pc + 3) ls ((r.map (conc ad)).toList ++ rest))) : W p l e room_1 s m #[Value.ref b] below meth c H locs 83 4116 Q (F0 m pc ls ((As.map Value.int).reverse ++ .ref (ad c1) :: rest)) := by
  obtain ⟨nn, h1⟩ := h
  obtain ⟨hx, hb, hml, hown, hts, hX, hbl, hK, hN, hj, hA⟩ := C
  obtain ⟨hcl', -, hmh, hvh, hpd, hini, hins, -⟩ := mn_at hz
  obtain ⟨hi1, hi2⟩ := hins hst
  have hM := met_of (l := l) (D := D) (ty := ty) hj (sound l D ty ad hj nn) hz h1
  obtain ⟨fs, hsh⟩ := hsh
  have hcm : (As.map Value.int).map (conc ad) = As.map Value.int := by rw [List.map_map]; rfl
  refine my_call (rest := rest) (r := r) (M' := M') (va_runV (C := rn k) (As := As.map Value.int) (b := ad c1) (Ts := TG) (own := RL) (n := np z) ⟨hx, hb, hml, hown, hts⟩ hM (cwV (np z) hts ?_ rfl rfl rfl ⟨by rw [hcl', hcl], hmh, hvh, hpd⟩ hfr) ⟨PcZ_blind, va_recv hK hP (clsT k hk) ((wsM_at (sh_lt hsh)).trans (by rw [obj_cE hsh])), fun U hU hW => ?_⟩ rfl (by rw [List.length_map]; exact hnp) hls rfl (lv_room hrm) hdg ⟨Nat.le_of_ble_eq_true rfl, Nat.le_of_ble_eq_true rfl⟩) hS (fun q hq => by obtain ⟨k, hk, rfl⟩ := hq; exact hA k hk) kk
  · intro w hw
    unfold wsV at hw
    rcases List.mem_append.mp hw with hw | hw
    · simp only [List.mem_cons, List.not_mem_nil, or_false] at hw
      rcases hw with rfl | rfl | rfl | rfl
      · exact tg_good hlk
      · exact tg_good hi1
      · rw [hcl', hcl] at hi2; exact tg_good hi2
      · rw [hcl', hcl] at hini; exact tg_good hini
    · exact goodZ hz w hw
  · have := PcZ_at (as := .ref c1 :: As.map Value.int) hK hN hP U hU hW
    rw [List.map_cons, hcm] at this
    exact this
theorem lw_ld (C : LC p s m c b L xs D ty ad) {i k : Nat} {kk' : Int} (hi : i + 6 ≤ L) (hk : k < 6) (hL : L ≤ 3072) (hS : va_S (fun q => s.heap.size ≤ q) s.heap H locs) (hl0 : ls[0]? = some (.val (.ref b))) (hl3 : ls[3]? = some (.val (.int (nI i)))) (d0 : decode code pc = .ok (.aload_n 0, 1)) (d1 : decode code (pc + 1) = .ok (.iload_n 3, 1)) (d2 : decode code (pc + 2) = .ok (.iconst kk', 1)) (hk2 : Int32.ofInt kk' = nI k) (d3 : decode code (pc + 3) = .ok (.iadd, 1)) (d4 : decode code (pc + 4) = .ok (.iaload, 1))
    (kk : W p l e room_1 s m #[Value.ref b] below meth c H locs 83 4116 Q (F0 m (pc + 5) ls (.int (xs (i + k)) :: rest))) : W p l e room_1 s m #[Value.ref b] below meth c H locs 83 4116 Q (F0 m pc ls rest) := by
  obtain ⟨hx, hb, hml, hown, hts, hX, hbl, hK, hN, hj, hA⟩ := C
  refine lv_aload_n hx hb d0 rfl hl0 ?_
  refine lv_iload_n hx hb d1 rfl hl3 ?_
  refine lv_iconst (v := nI k) hx hb d2 hk2 ?_
  refine lv_iadd hx hb d3 ?_
  rw [q_add]
  refine va_sld hx hb hX hbl (Nat.not_le.mpr hbl) hS (i := nI (i + k)) (by rw [q_in (by omega) (by omega)]; omega) d4 ?_
  rw [nI_clamp (by omega)]
  exact kk
end LR
