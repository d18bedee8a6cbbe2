/-! the law's cases; written by wip/whole/lawgen.py -/
theorem gl_13 : Jvm.Cond.methodLink RL 13 (my 52) ∈ TG := tg_at (i := 406) (by decide +kernel)
theorem gl_17 : Jvm.Cond.methodLink RL 17 (my 115) ∈ TG := tg_at (i := 981) (by decide +kernel)
theorem gl_18 : Jvm.Cond.methodLink RL 18 (my 53) ∈ TG := tg_at (i := 459) (by decide +kernel)
theorem gl_22 : Jvm.Cond.methodLink RL 22 (my 116) ∈ TG := tg_at (i := 989) (by decide +kernel)
theorem gl_23 : Jvm.Cond.methodLink RL 23 (my 54) ∈ TG := tg_at (i := 463) (by decide +kernel)
theorem gl_26 : Jvm.Cond.methodLink RL 26 (my 117) ∈ TG := tg_at (i := 993) (by decide +kernel)
theorem gl_27 : Jvm.Cond.methodLink RL 27 (my 55) ∈ TG := tg_at (i := 467) (by decide +kernel)
theorem gl_30 : Jvm.Cond.methodLink RL 30 (my 123) ∈ TG := tg_at (i := 997) (by decide +kernel)
theorem gl_31 : Jvm.Cond.methodLink RL 31 (my 56) ∈ TG := tg_at (i := 471) (by decide +kernel)
theorem gl_34 : Jvm.Cond.methodLink RL 34 (my 128) ∈ TG := tg_at (i := 1024) (by decide +kernel)
theorem gl_35 : Jvm.Cond.methodLink RL 35 (my 57) ∈ TG := tg_at (i := 475) (by decide +kernel)
theorem gl_38 : Jvm.Cond.methodLink RL 38 (my 129) ∈ TG := tg_at (i := 1036) (by decide +kernel)
theorem gl_39 : Jvm.Cond.methodLink RL 39 (my 58) ∈ TG := tg_at (i := 479) (by decide +kernel)
theorem gl_43 : Jvm.Cond.methodLink RL 43 (my 131) ∈ TG := tg_at (i := 1044) (by decide +kernel)
theorem gl_44 : Jvm.Cond.methodLink RL 44 (my 59) ∈ TG := tg_at (i := 491) (by decide +kernel)
theorem gl_48 : Jvm.Cond.methodLink RL 48 (my 132) ∈ TG := tg_at (i := 1056) (by decide +kernel)
theorem gl_49 : Jvm.Cond.methodLink RL 49 (my 60) ∈ TG := tg_at (i := 495) (by decide +kernel)
theorem gl_52 : Jvm.Cond.methodLink RL 52 (my 133) ∈ TG := tg_at (i := 1060) (by decide +kernel)
theorem gl_53 : Jvm.Cond.methodLink RL 53 (my 61) ∈ TG := tg_at (i := 503) (by decide +kernel)
theorem gl_56 : Jvm.Cond.methodLink RL 56 (my 146) ∈ TG := tg_at (i := 1065) (by decide +kernel)
theorem gl_57 : Jvm.Cond.methodLink RL 57 (my 62) ∈ TG := tg_at (i := 581) (by decide +kernel)
theorem gl_60 : Jvm.Cond.methodLink RL 60 (my 147) ∈ TG := tg_at (i := 1123) (by decide +kernel)
theorem gl_61 : Jvm.Cond.methodLink RL 61 (my 63) ∈ TG := tg_at (i := 585) (by decide +kernel)
theorem gl_64 : Jvm.Cond.methodLink RL 64 (my 150) ∈ TG := tg_at (i := 1127) (by decide +kernel)
theorem gl_65 : Jvm.Cond.methodLink RL 65 (my 64) ∈ TG := tg_at (i := 589) (by decide +kernel)
theorem gl_68 : Jvm.Cond.methodLink RL 68 (my 153) ∈ TG := tg_at (i := 1139) (by decide +kernel)
theorem gl_69 : Jvm.Cond.methodLink RL 69 (my 65) ∈ TG := tg_at (i := 593) (by decide +kernel)
theorem gl_72 : Jvm.Cond.methodLink RL 72 (my 155) ∈ TG := tg_at (i := 1151) (by decide +kernel)
theorem gl_73 : Jvm.Cond.methodLink RL 73 (my 66) ∈ TG := tg_at (i := 611) (by decide +kernel)
theorem gl_76 : Jvm.Cond.methodLink RL 76 (my 157) ∈ TG := tg_at (i := 1159) (by decide +kernel)
theorem gl_77 : Jvm.Cond.methodLink RL 77 (my 67) ∈ TG := tg_at (i := 615) (by decide +kernel)
theorem gl_80 : Jvm.Cond.methodLink RL 80 (my 159) ∈ TG := tg_at (i := 1167) (by decide +kernel)
theorem gl_81 : Jvm.Cond.methodLink RL 81 (my 68) ∈ TG := tg_at (i := 619) (by decide +kernel)
theorem gl_84 : Jvm.Cond.methodLink RL 84 (my 161) ∈ TG := tg_at (i := 1175) (by decide +kernel)
theorem gl_85 : Jvm.Cond.methodLink RL 85 (my 69) ∈ TG := tg_at (i := 623) (by decide +kernel)
theorem gl_88 : Jvm.Cond.methodLink RL 88 (my 163) ∈ TG := tg_at (i := 1183) (by decide +kernel)
theorem gl_89 : Jvm.Cond.methodLink RL 89 (my 70) ∈ TG := tg_at (i := 627) (by decide +kernel)
theorem gl_92 : Jvm.Cond.methodLink RL 92 (my 165) ∈ TG := tg_at (i := 1191) (by decide +kernel)
theorem gl_93 : Jvm.Cond.methodLink RL 93 (my 71) ∈ TG := tg_at (i := 638) (by decide +kernel)
theorem gl_96 : Jvm.Cond.methodLink RL 96 (my 167) ∈ TG := tg_at (i := 1202) (by decide +kernel)
theorem gl_97 : Jvm.Cond.methodLink RL 97 (my 72) ∈ TG := tg_at (i := 650) (by decide +kernel)
theorem gl_100 : Jvm.Cond.methodLink RL 100 (my 169) ∈ TG := tg_at (i := 1210) (by decide +kernel)
theorem gl_101 : Jvm.Cond.methodLink RL 101 (my 73) ∈ TG := tg_at (i := 659) (by decide +kernel)
theorem gl_104 : Jvm.Cond.methodLink RL 104 (my 172) ∈ TG := tg_at (i := 1218) (by decide +kernel)
theorem gl_105 : Jvm.Cond.methodLink RL 105 (my 74) ∈ TG := tg_at (i := 675) (by decide +kernel)
theorem gl_108 : Jvm.Cond.methodLink RL 108 (my 173) ∈ TG := tg_at (i := 1231) (by decide +kernel)
theorem gl_109 : Jvm.Cond.methodLink RL 109 (my 75) ∈ TG := tg_at (i := 683) (by decide +kernel)
theorem gl_112 : Jvm.Cond.methodLink RL 112 (my 174) ∈ TG := tg_at (i := 1236) (by decide +kernel)
theorem gl_113 : Jvm.Cond.methodLink RL 113 (my 76) ∈ TG := tg_at (i := 687) (by decide +kernel)
theorem gl_116 : Jvm.Cond.methodLink RL 116 (my 177) ∈ TG := tg_at (i := 1240) (by decide +kernel)
theorem gl_117 : Jvm.Cond.methodLink RL 117 (my 77) ∈ TG := tg_at (i := 700) (by decide +kernel)
theorem gl_120 : Jvm.Cond.methodLink RL 120 (my 181) ∈ TG := tg_at (i := 1252) (by decide +kernel)
theorem gl_121 : Jvm.Cond.methodLink RL 121 (my 78) ∈ TG := tg_at (i := 713) (by decide +kernel)
theorem gl_124 : Jvm.Cond.methodLink RL 124 (my 184) ∈ TG := tg_at (i := 1268) (by decide +kernel)
theorem gl_125 : Jvm.Cond.methodLink RL 125 (my 79) ∈ TG := tg_at (i := 726) (by decide +kernel)
theorem gl_129 : Jvm.Cond.methodLink RL 129 (my 186) ∈ TG := tg_at (i := 1280) (by decide +kernel)
theorem gl_130 : Jvm.Cond.methodLink RL 130 (my 80) ∈ TG := tg_at (i := 745) (by decide +kernel)
theorem gl_133 : Jvm.Cond.methodLink RL 133 (my 189) ∈ TG := tg_at (i := 1296) (by decide +kernel)
theorem gl_134 : Jvm.Cond.methodLink RL 134 (my 81) ∈ TG := tg_at (i := 760) (by decide +kernel)
theorem gl_137 : Jvm.Cond.methodLink RL 137 (my 108) ∈ TG := tg_at (i := 941) (by decide +kernel)
theorem gl_138 : Jvm.Cond.methodLink RL 138 (my 82) ∈ TG := tg_at (i := 769) (by decide +kernel)
theorem gl_141 : Jvm.Cond.methodLink RL 141 (my 109) ∈ TG := tg_at (i := 957) (by decide +kernel)
theorem gl_142 : Jvm.Cond.methodLink RL 142 (my 83) ∈ TG := tg_at (i := 773) (by decide +kernel)
theorem gl_146 : Jvm.Cond.methodLink RL 146 (my 112) ∈ TG := tg_at (i := 961) (by decide +kernel)
theorem gl_147 : Jvm.Cond.methodLink RL 147 (my 84) ∈ TG := tg_at (i := 786) (by decide +kernel)
theorem gl_150 : Jvm.Cond.methodLink RL 150 (my 113) ∈ TG := tg_at (i := 972) (by decide +kernel)
theorem gl_151 : Jvm.Cond.methodLink RL 151 (my 85) ∈ TG := tg_at (i := 791) (by decide +kernel)
theorem gl_155 : Jvm.Cond.methodLink RL 155 (my 114) ∈ TG := tg_at (i := 977) (by decide +kernel)
theorem gl_156 : Jvm.Cond.methodLink RL 156 (my 86) ∈ TG := tg_at (i := 800) (by decide +kernel)
theorem gl_159 : Jvm.Cond.methodLink RL 159 (my 190) ∈ TG := tg_at (i := 1310) (by decide +kernel)
theorem gl_160 : Jvm.Cond.methodLink RL 160 (my 87) ∈ TG := tg_at (i := 805) (by decide +kernel)
theorem gl_163 : Jvm.Cond.methodLink RL 163 (my 192) ∈ TG := tg_at (i := 1314) (by decide +kernel)
theorem gl_164 : Jvm.Cond.methodLink RL 164 (my 88) ∈ TG := tg_at (i := 813) (by decide +kernel)
theorem gl_168 : Jvm.Cond.methodLink RL 168 (my 195) ∈ TG := tg_at (i := 1322) (by decide +kernel)
section LR
variable {p : Program} {l : Launch} {e : Env} {s : State} {m : MethodId} {below : List Frame} {meth : Method} {c : Code} {b L : Nat} {xs : Nat → Int32} {D : va_G} {ty : ClassId × ClassId} {ad : Nat → Nat} {H : Heap} {locs : List Loc} {Q : State → Prop} {ls : Array Slot}
theorem lc_0 (C : LC p s m c b L xs D ty ad) {g : Sg} {M : Mem} (hC : CI M g) (hM : MJ M g) {i : Nat} (hi : i + 6 ≤ L) (hL : L ≤ 3072) (hP : va_P D cls_ (wsM ty ad M) H) (hS : va_S (fun q => s.heap.size ≤ q) s.heap H locs) (hl : lv_has ls 4 [(3, .int (nI i)), (2, .ref (ad 62)), (1, .ref (ad 0)), (0, .ref b)]) (K : ∀ (g' : Sg) (M' : Mem) (H' : Heap) (locs' : List Loc), CI M' g' → MJ M' g' → va_P D cls_ (wsM ty ad M') H' → va_S (fun q => s.heap.size ≤ q) s.heap H' locs' → W p l e room_1 s m #[Value.ref b] below meth c H' locs' 83 4116 Q (F0 m 1309 ls [])) : W p l e room_1 s m #[Value.ref b] below meth c H locs 83 4116 Q (F0 m 196 ls []) := by
  refine lv_aload_n C.1 C.2.1 dL_law_196 rfl (lv_at hl 2 rfl) ?_
  refine lw_ld C (i := i) (k := 1) hi (by decide) hL hS (lv_at hl 3 rfl) (lv_at hl 0 rfl) dL_law_197 dL_law_198 dL_law_199 (by decide) dL_law_200 dL_law_201 ?_
  refine lw_ld C (i := i) (k := 2) hi (by decide) hL hS (lv_at hl 3 rfl) (lv_at hl 0 rfl) dL_law_202 dL_law_203 dL_law_204 (by decide) dL_law_205 dL_law_206 ?_
  obtain ⟨r1, M1, hE1, rfl, hC1, hU1⟩ := (c_type hC (xs (i + 1)) (xs (i + 2))).ev
  refine lw_call C (c1 := 0) (k := 10) (As := [xs (i + 1), xs (i + 2)]) (rest := []) hE1 (by decide) gl_13 rfl rfl (by decide) ⟨_, rfl⟩ rfl ⟨by decide, by decide⟩ hP hS hl.1 (Nat.le_of_ble_eq_true rfl) dL_law_207 (fun H locs hP hS => ?_)
  refine W.eq (g2 := F0 m 210 ls [_]) rfl ?_
  refine lv_aload_n C.1 C.2.1 dL_law_210 rfl (lv_at hl 1 rfl) ?_
  refine lw_ld C (i := i) (k := 1) hi (by decide) hL hS (lv_at hl 3 rfl) (lv_at hl 0 rfl) dL_law_211 dL_law_212 dL_law_213 (by decide) dL_law_214 dL_law_215 ?_
  refine lw_ld C (i := i) (k := 2) hi (by decide) hL hS (lv_at hl 3 rfl) (lv_at hl 0 rfl) dL_law_216 dL_law_217 dL_law_218 (by decide) dL_law_219 dL_law_220 ?_
  obtain ⟨r2, M2, hE2, rfl, hM2, hW2⟩ := (m_type (hM.up hU1) (xs (i + 1)) (xs (i + 2))).ev
  refine lw_call C (c1 := 62) (k := 11) (As := [xs (i + 1), xs (i + 2)]) (rest := [_]) hE2 (by decide) gl_17 rfl rfl (by decide) ⟨_, rfl⟩ rfl ⟨by decide, by decide⟩ hP hS hl.1 (Nat.le_of_ble_eq_true rfl) dL_law_221 (fun H locs hP hS => ?_)
  refine lv_icmp_eq (tgt := 1309) C.1 C.2.1 dL_law_224 (by decide) (fun _ => ?_) (fun q => absurd rfl q)
  exact K _ M2 H locs (hC1.low hW2) hM2 hP hS
theorem lc_1 (C : LC p s m c b L xs D ty ad) {g : Sg} {M : Mem} (hC : CI M g) (hM : MJ M g) {i : Nat} (hi : i + 6 ≤ L) (hL : L ≤ 3072) (hP : va_P D cls_ (wsM ty ad M) H) (hS : va_S (fun q => s.heap.size ≤ q) s.heap H locs) (hl : lv_has ls 4 [(3, .int (nI i)), (2, .ref (ad 62)), (1, .ref (ad 0)), (0, .ref b)]) (K : ∀ (g' : Sg) (M' : Mem) (H' : Heap) (locs' : List Loc), CI M' g' → MJ M' g' → va_P D cls_ (wsM ty ad M') H' → va_S (fun q => s.heap.size ≤ q) s.heap H' locs' → W p l e room_1 s m #[Value.ref b] below meth c H' locs' 83 4116 Q (F0 m 1309 ls [])) : W p l e room_1 s m #[Value.ref b] below meth c H locs 83 4116 Q (F0 m 229 ls []) := by
  refine lv_aload_n C.1 C.2.1 dL_law_229 rfl (lv_at hl 2 rfl) ?_
  refine lw_ld C (i := i) (k := 1) hi (by decide) hL hS (lv_at hl 3 rfl) (lv_at hl 0 rfl) dL_law_230 dL_law_231 dL_law_232 (by decide) dL_law_233 dL_law_234 ?_
  obtain ⟨r1, M1, hE1, rfl, hC1, hU1⟩ := (c_wipe hC (xs (i + 1))).ev
  refine lw_call C (c1 := 0) (k := 10) (As := [xs (i + 1)]) (rest := []) hE1 (by decide) gl_18 rfl rfl (by decide) ⟨_, rfl⟩ rfl ⟨by decide, by decide⟩ hP hS hl.1 (Nat.le_of_ble_eq_true rfl) dL_law_235 (fun H locs hP hS => ?_)
  refine W.eq (g2 := F0 m 238 ls [_]) rfl ?_
  refine lv_aload_n C.1 C.2.1 dL_law_238 rfl (lv_at hl 1 rfl) ?_
  refine lw_ld C (i := i) (k := 1) hi (by decide) hL hS (lv_at hl 3 rfl) (lv_at hl 0 rfl) dL_law_239 dL_law_240 dL_law_241 (by decide) dL_law_242 dL_law_243 ?_
  obtain ⟨r2, M2, hE2, rfl, hM2, hW2⟩ := (m_wipe (hM.up hU1) (xs (i + 1))).ev
  refine lw_call C (c1 := 62) (k := 11) (As := [xs (i + 1)]) (rest := [_]) hE2 (by decide) gl_22 rfl rfl (by decide) ⟨_, rfl⟩ rfl ⟨by decide, by decide⟩ hP hS hl.1 (Nat.le_of_ble_eq_true rfl) dL_law_244 (fun H locs hP hS => ?_)
  refine lv_icmp_eq (tgt := 1309) C.1 C.2.1 dL_law_247 (by decide) (fun _ => ?_) (fun q => absurd rfl q)
  exact K _ M2 H locs (hC1.low hW2) hM2 hP hS
theorem lc_2 (C : LC p s m c b L xs D ty ad) {g : Sg} {M : Mem} (hC : CI M g) (hM : MJ M g) {i : Nat} (hi : i + 6 ≤ L) (hL : L ≤ 3072) (hP : va_P D cls_ (wsM ty ad M) H) (hS : va_S (fun q => s.heap.size ≤ q) s.heap H locs) (hl : lv_has ls 4 [(3, .int (nI i)), (2, .ref (ad 62)), (1, .ref (ad 0)), (0, .ref b)]) (K : ∀ (g' : Sg) (M' : Mem) (H' : Heap) (locs' : List Loc), CI M' g' → MJ M' g' → va_P D cls_ (wsM ty ad M') H' → va_S (fun q => s.heap.size ≤ q) s.heap H' locs' → W p l e room_1 s m #[Value.ref b] below meth c H' locs' 83 4116 Q (F0 m 1309 ls [])) : W p l e room_1 s m #[Value.ref b] below meth c H locs 83 4116 Q (F0 m 252 ls []) := by
  refine lv_aload_n C.1 C.2.1 dL_law_252 rfl (lv_at hl 2 rfl) ?_
  refine lw_ld C (i := i) (k := 1) hi (by decide) hL hS (lv_at hl 3 rfl) (lv_at hl 0 rfl) dL_law_253 dL_law_254 dL_law_255 (by decide) dL_law_256 dL_law_257 ?_
  obtain ⟨r1, M1, hE1, rfl, hC1, hU1⟩ := (c_undo hC (xs (i + 1))).ev
  refine lw_call C (c1 := 0) (k := 10) (As := [xs (i + 1)]) (rest := []) hE1 (by decide) gl_23 rfl rfl (by decide) ⟨_, rfl⟩ rfl ⟨by decide, by decide⟩ hP hS hl.1 (Nat.le_of_ble_eq_true rfl) dL_law_258 (fun H locs hP hS => ?_)
  refine W.eq (g2 := F0 m 261 ls [_]) rfl ?_
  refine lv_aload_n C.1 C.2.1 dL_law_261 rfl (lv_at hl 1 rfl) ?_
  refine lw_ld C (i := i) (k := 1) hi (by decide) hL hS (lv_at hl 3 rfl) (lv_at hl 0 rfl) dL_law_262 dL_law_263 dL_law_264 (by decide) dL_law_265 dL_law_266 ?_
  obtain ⟨r2, M2, hE2, rfl, hM2, hW2⟩ := (m_undo (hM.up hU1) (xs (i + 1))).ev
  refine lw_call C (c1 := 62) (k := 11) (As := [xs (i + 1)]) (rest := [_]) hE2 (by decide) gl_26 rfl rfl (by decide) ⟨_, rfl⟩ rfl ⟨by decide, by decide⟩ hP hS hl.1 (Nat.le_of_ble_eq_true rfl) dL_law_267 (fun H locs hP hS => ?_)
  refine lv_icmp_eq (tgt := 1309) C.1 C.2.1 dL_law_270 (by decide) (fun _ => ?_) (fun q => absurd rfl q)
  exact K _ M2 H locs (hC1.low hW2) hM2 hP hS
theorem lc_3 (C : LC p s m c b L xs D ty ad) {g : Sg} {M : Mem} (hC : CI M g) (hM : MJ M g) {i : Nat} (hi : i + 6 ≤ L) (hL : L ≤ 3072) (hP : va_P D cls_ (wsM ty ad M) H) (hS : va_S (fun q => s.heap.size ≤ q) s.heap H locs) (hl : lv_has ls 4 [(3, .int (nI i)), (2, .ref (ad 62)), (1, .ref (ad 0)), (0, .ref b)]) (K : ∀ (g' : Sg) (M' : Mem) (H' : Heap) (locs' : List Loc), CI M' g' → MJ M' g' → va_P D cls_ (wsM ty ad M') H' → va_S (fun q => s.heap.size ≤ q) s.heap H' locs' → W p l e room_1 s m #[Value.ref b] below meth c H' locs' 83 4116 Q (F0 m 1309 ls [])) : W p l e room_1 s m #[Value.ref b] below meth c H locs 83 4116 Q (F0 m 275 ls []) := by
  refine lv_aload_n C.1 C.2.1 dL_law_275 rfl (lv_at hl 2 rfl) ?_
  refine lw_ld C (i := i) (k := 1) hi (by decide) hL hS (lv_at hl 3 rfl) (lv_at hl 0 rfl) dL_law_276 dL_law_277 dL_law_278 (by decide) dL_law_279 dL_law_280 ?_
  obtain ⟨r1, M1, hE1, rfl, hC1, hU1⟩ := (c_fault hC (xs (i + 1))).ev
  refine lw_call C (c1 := 0) (k := 10) (As := [xs (i + 1)]) (rest := []) hE1 (by decide) gl_27 rfl rfl (by decide) ⟨_, rfl⟩ rfl ⟨by decide, by decide⟩ hP hS hl.1 (Nat.le_of_ble_eq_true rfl) dL_law_281 (fun H locs hP hS => ?_)
  refine W.eq (g2 := F0 m 284 ls [_]) rfl ?_
  refine lv_aload_n C.1 C.2.1 dL_law_284 rfl (lv_at hl 1 rfl) ?_
  refine lw_ld C (i := i) (k := 1) hi (by decide) hL hS (lv_at hl 3 rfl) (lv_at hl 0 rfl) dL_law_285 dL_law_286 dL_law_287 (by decide) dL_law_288 dL_law_289 ?_
  obtain ⟨r2, M2, hE2, rfl, hM2, hW2⟩ := (m_fault (hM.up hU1) (xs (i + 1))).ev
  refine lw_call C (c1 := 62) (k := 11) (As := [xs (i + 1)]) (rest := [_]) hE2 (by decide) gl_30 rfl rfl (by decide) ⟨_, rfl⟩ rfl ⟨by decide, by decide⟩ hP hS hl.1 (Nat.le_of_ble_eq_true rfl) dL_law_290 (fun H locs hP hS => ?_)
  refine lv_icmp_eq (tgt := 1309) C.1 C.2.1 dL_law_293 (by decide) (fun _ => ?_) (fun q => absurd rfl q)
  exact K _ M2 H locs (hC1.low hW2) hM2 hP hS
theorem lc_4 (C : LC p s m c b L xs D ty ad) {g : Sg} {M : Mem} (hC : CI M g) (hM : MJ M g) {i : Nat} (hi : i + 6 ≤ L) (hL : L ≤ 3072) (hP : va_P D cls_ (wsM ty ad M) H) (hS : va_S (fun q => s.heap.size ≤ q) s.heap H locs) (hl : lv_has ls 4 [(3, .int (nI i)), (2, .ref (ad 62)), (1, .ref (ad 0)), (0, .ref b)]) (K : ∀ (g' : Sg) (M' : Mem) (H' : Heap) (locs' : List Loc), CI M' g' → MJ M' g' → va_P D cls_ (wsM ty ad M') H' → va_S (fun q => s.heap.size ≤ q) s.heap H' locs' → W p l e room_1 s m #[Value.ref b] below meth c H' locs' 83 4116 Q (F0 m 1309 ls [])) : W p l e room_1 s m #[Value.ref b] below meth c H locs 83 4116 Q (F0 m 298 ls []) := by
  refine lv_aload_n C.1 C.2.1 dL_law_298 rfl (lv_at hl 2 rfl) ?_
  refine lw_ld C (i := i) (k := 1) hi (by decide) hL hS (lv_at hl 3 rfl) (lv_at hl 0 rfl) dL_law_299 dL_law_300 dL_law_301 (by decide) dL_law_302 dL_law_303 ?_
  refine lw_ld C (i := i) (k := 2) hi (by decide) hL hS (lv_at hl 3 rfl) (lv_at hl 0 rfl) dL_law_304 dL_law_305 dL_law_306 (by decide) dL_law_307 dL_law_308 ?_
  obtain ⟨r1, M1, hE1, rfl, hC1, hU1⟩ := (c_told hC (xs (i + 1)) (xs (i + 2))).ev
  refine lw_call C (c1 := 0) (k := 10) (As := [xs (i + 1), xs (i + 2)]) (rest := []) hE1 (by decide) gl_31 rfl rfl (by decide) ⟨_, rfl⟩ rfl ⟨by decide, by decide⟩ hP hS hl.1 (Nat.le_of_ble_eq_true rfl) dL_law_309 (fun H locs hP hS => ?_)
  refine W.eq (g2 := F0 m 312 ls [_]) rfl ?_
  refine lv_aload_n C.1 C.2.1 dL_law_312 rfl (lv_at hl 1 rfl) ?_
  refine lw_ld C (i := i) (k := 1) hi (by decide) hL hS (lv_at hl 3 rfl) (lv_at hl 0 rfl) dL_law_313 dL_law_314 dL_law_315 (by decide) dL_law_316 dL_law_317 ?_
  refine lw_ld C (i := i) (k := 2) hi (by decide) hL hS (lv_at hl 3 rfl) (lv_at hl 0 rfl) dL_law_318 dL_law_319 dL_law_320 (by decide) dL_law_321 dL_law_322 ?_
  obtain ⟨r2, M2, hE2, rfl, hM2, hW2⟩ := (m_told (hM.up hU1) (xs (i + 1)) (xs (i + 2))).ev
  refine lw_call C (c1 := 62) (k := 11) (As := [xs (i + 1), xs (i + 2)]) (rest := [_]) hE2 (by decide) gl_34 rfl rfl (by decide) ⟨_, rfl⟩ rfl ⟨by decide, by decide⟩ hP hS hl.1 (Nat.le_of_ble_eq_true rfl) dL_law_323 (fun H locs hP hS => ?_)
  refine lv_icmp_eq (tgt := 1309) C.1 C.2.1 dL_law_326 (by decide) (fun _ => ?_) (fun q => absurd rfl q)
  exact K _ M2 H locs (hC1.low hW2) hM2 hP hS
theorem lc_5 (C : LC p s m c b L xs D ty ad) {g : Sg} {M : Mem} (hC : CI M g) (hM : MJ M g) {i : Nat} (hi : i + 6 ≤ L) (hL : L ≤ 3072) (hP : va_P D cls_ (wsM ty ad M) H) (hS : va_S (fun q => s.heap.size ≤ q) s.heap H locs) (hl : lv_has ls 4 [(3, .int (nI i)), (2, .ref (ad 62)), (1, .ref (ad 0)), (0, .ref b)]) (K : ∀ (g' : Sg) (M' : Mem) (H' : Heap) (locs' : List Loc), CI M' g' → MJ M' g' → va_P D cls_ (wsM ty ad M') H' → va_S (fun q => s.heap.size ≤ q) s.heap H' locs' → W p l e room_1 s m #[Value.ref b] below meth c H' locs' 83 4116 Q (F0 m 1309 ls [])) : W p l e room_1 s m #[Value.ref b] below meth c H locs 83 4116 Q (F0 m 331 ls []) := by
  refine lv_aload_n C.1 C.2.1 dL_law_331 rfl (lv_at hl 2 rfl) ?_
  refine lw_ld C (i := i) (k := 1) hi (by decide) hL hS (lv_at hl 3 rfl) (lv_at hl 0 rfl) dL_law_332 dL_law_333 dL_law_334 (by decide) dL_law_335 dL_law_336 ?_
  refine lw_ld C (i := i) (k := 2) hi (by decide) hL hS (lv_at hl 3 rfl) (lv_at hl 0 rfl) dL_law_337 dL_law_338 dL_law_339 (by decide) dL_law_340 dL_law_341 ?_
  obtain ⟨r1, M1, hE1, rfl, hC1, hU1⟩ := (c_order hC (xs (i + 1)) (xs (i + 2))).ev
  refine lw_call C (c1 := 0) (k := 10) (As := [xs (i + 1), xs (i + 2)]) (rest := []) hE1 (by decide) gl_35 rfl rfl (by decide) ⟨_, rfl⟩ rfl ⟨by decide, by decide⟩ hP hS hl.1 (Nat.le_of_ble_eq_true rfl) dL_law_342 (fun H locs hP hS => ?_)
  refine W.eq (g2 := F0 m 345 ls [_]) rfl ?_
  refine lv_aload_n C.1 C.2.1 dL_law_345 rfl (lv_at hl 1 rfl) ?_
  refine lw_ld C (i := i) (k := 1) hi (by decide) hL hS (lv_at hl 3 rfl) (lv_at hl 0 rfl) dL_law_346 dL_law_347 dL_law_348 (by decide) dL_law_349 dL_law_350 ?_
  refine lw_ld C (i := i) (k := 2) hi (by decide) hL hS (lv_at hl 3 rfl) (lv_at hl 0 rfl) dL_law_351 dL_law_352 dL_law_353 (by decide) dL_law_354 dL_law_355 ?_
  obtain ⟨r2, M2, hE2, rfl, hM2, hW2⟩ := (m_order (hM.up hU1) (xs (i + 1)) (xs (i + 2))).ev
  refine lw_call C (c1 := 62) (k := 11) (As := [xs (i + 1), xs (i + 2)]) (rest := [_]) hE2 (by decide) gl_38 rfl rfl (by decide) ⟨_, rfl⟩ rfl ⟨by decide, by decide⟩ hP hS hl.1 (Nat.le_of_ble_eq_true rfl) dL_law_356 (fun H locs hP hS => ?_)
  refine lv_icmp_eq (tgt := 1309) C.1 C.2.1 dL_law_359 (by decide) (fun _ => ?_) (fun q => absurd rfl q)
  exact K _ M2 H locs (hC1.low hW2) hM2 hP hS
theorem lc_6 (C : LC p s m c b L xs D ty ad) {g : Sg} {M : Mem} (hC : CI M g) (hM : MJ M g) {i : Nat} (hi : i + 6 ≤ L) (hL : L ≤ 3072) (hP : va_P D cls_ (wsM ty ad M) H) (hS : va_S (fun q => s.heap.size ≤ q) s.heap H locs) (hl : lv_has ls 4 [(3, .int (nI i)), (2, .ref (ad 62)), (1, .ref (ad 0)), (0, .ref b)]) (K : ∀ (g' : Sg) (M' : Mem) (H' : Heap) (locs' : List Loc), CI M' g' → MJ M' g' → va_P D cls_ (wsM ty ad M') H' → va_S (fun q => s.heap.size ≤ q) s.heap H' locs' → W p l e room_1 s m #[Value.ref b] below meth c H' locs' 83 4116 Q (F0 m 1309 ls [])) : W p l e room_1 s m #[Value.ref b] below meth c H locs 83 4116 Q (F0 m 364 ls []) := by
  refine lv_aload_n C.1 C.2.1 dL_law_364 rfl (lv_at hl 2 rfl) ?_
  refine lw_ld C (i := i) (k := 1) hi (by decide) hL hS (lv_at hl 3 rfl) (lv_at hl 0 rfl) dL_law_365 dL_law_366 dL_law_367 (by decide) dL_law_368 dL_law_369 ?_
  refine lw_ld C (i := i) (k := 2) hi (by decide) hL hS (lv_at hl 3 rfl) (lv_at hl 0 rfl) dL_law_370 dL_law_371 dL_law_372 (by decide) dL_law_373 dL_law_374 ?_
  refine lw_ld C (i := i) (k := 3) hi (by decide) hL hS (lv_at hl 3 rfl) (lv_at hl 0 rfl) dL_law_375 dL_law_376 dL_law_377 (by decide) dL_law_378 dL_law_379 ?_
  obtain ⟨r1, M1, hE1, rfl, hC1, hU1⟩ := (c_event hC (xs (i + 1)) (xs (i + 2)) (xs (i + 3))).ev
  refine lw_call C (c1 := 0) (k := 10) (As := [xs (i + 1), xs (i + 2), xs (i + 3)]) (rest := []) hE1 (by decide) gl_39 rfl rfl (by decide) ⟨_, rfl⟩ rfl ⟨by decide, by decide⟩ hP hS hl.1 (Nat.le_of_ble_eq_true rfl) dL_law_380 (fun H locs hP hS => ?_)
  refine W.eq (g2 := F0 m 383 ls [_]) rfl ?_
  refine lv_aload_n C.1 C.2.1 dL_law_383 rfl (lv_at hl 1 rfl) ?_
  refine lw_ld C (i := i) (k := 1) hi (by decide) hL hS (lv_at hl 3 rfl) (lv_at hl 0 rfl) dL_law_384 dL_law_385 dL_law_386 (by decide) dL_law_387 dL_law_388 ?_
  refine lw_ld C (i := i) (k := 2) hi (by decide) hL hS (lv_at hl 3 rfl) (lv_at hl 0 rfl) dL_law_389 dL_law_390 dL_law_391 (by decide) dL_law_392 dL_law_393 ?_
  refine lw_ld C (i := i) (k := 3) hi (by decide) hL hS (lv_at hl 3 rfl) (lv_at hl 0 rfl) dL_law_394 dL_law_395 dL_law_396 (by decide) dL_law_397 dL_law_398 ?_
  obtain ⟨r2, M2, hE2, rfl, hM2, hW2⟩ := (m_event (hM.up hU1) (xs (i + 1)) (xs (i + 2)) (xs (i + 3))).ev
  refine lw_call C (c1 := 62) (k := 11) (As := [xs (i + 1), xs (i + 2), xs (i + 3)]) (rest := [_]) hE2 (by decide) gl_43 rfl rfl (by decide) ⟨_, rfl⟩ rfl ⟨by decide, by decide⟩ hP hS hl.1 (Nat.le_of_ble_eq_true rfl) dL_law_399 (fun H locs hP hS => ?_)
  refine lv_icmp_eq (tgt := 1309) C.1 C.2.1 dL_law_402 (by decide) (fun _ => ?_) (fun q => absurd rfl q)
  exact K _ M2 H locs (hC1.low hW2) hM2 hP hS
theorem lc_7 (C : LC p s m c b L xs D ty ad) {g : Sg} {M : Mem} (hC : CI M g) (hM : MJ M g) {i : Nat} (hi : i + 6 ≤ L) (hL : L ≤ 3072) (hP : va_P D cls_ (wsM ty ad M) H) (hS : va_S (fun q => s.heap.size ≤ q) s.heap H locs) (hl : lv_has ls 4 [(3, .int (nI i)), (2, .ref (ad 62)), (1, .ref (ad 0)), (0, .ref b)]) (K : ∀ (g' : Sg) (M' : Mem) (H' : Heap) (locs' : List Loc), CI M' g' → MJ M' g' → va_P D cls_ (wsM ty ad M') H' → va_S (fun q => s.heap.size ≤ q) s.heap H' locs' → W p l e room_1 s m #[Value.ref b] below meth c H' locs' 83 4116 Q (F0 m 1309 ls [])) : W p l e room_1 s m #[Value.ref b] below meth c H locs 83 4116 Q (F0 m 407 ls []) := by
  refine lv_aload_n C.1 C.2.1 dL_law_407 rfl (lv_at hl 2 rfl) ?_
  obtain ⟨r1, M1, hE1, rfl, hC1, hU1⟩ := (c_back hC).ev
  refine lw_call C (c1 := 0) (k := 10) (As := []) (rest := []) hE1 (by decide) gl_44 rfl rfl (by decide) ⟨_, rfl⟩ rfl ⟨by decide, by decide⟩ hP hS hl.1 (Nat.le_of_ble_eq_true rfl) dL_law_408 (fun H locs hP hS => ?_)
  refine W.eq (g2 := F0 m 411 ls [_]) rfl ?_
  refine lv_aload_n C.1 C.2.1 dL_law_411 rfl (lv_at hl 1 rfl) ?_
  obtain ⟨r2, M2, hE2, rfl, hM2, hW2⟩ := (m_back (hM.up hU1)).ev
  refine lw_call C (c1 := 62) (k := 11) (As := []) (rest := [_]) hE2 (by decide) gl_48 rfl rfl (by decide) ⟨_, rfl⟩ rfl ⟨by decide, by decide⟩ hP hS hl.1 (Nat.le_of_ble_eq_true rfl) dL_law_412 (fun H locs hP hS => ?_)
  refine lv_icmp_eq (tgt := 1309) C.1 C.2.1 dL_law_415 (by decide) (fun _ => ?_) (fun q => absurd rfl q)
  exact K _ M2 H locs (hC1.low hW2) hM2 hP hS
theorem lc_8 (C : LC p s m c b L xs D ty ad) {g : Sg} {M : Mem} (hC : CI M g) (hM : MJ M g) {i : Nat} (hi : i + 6 ≤ L) (hL : L ≤ 3072) (hP : va_P D cls_ (wsM ty ad M) H) (hS : va_S (fun q => s.heap.size ≤ q) s.heap H locs) (hl : lv_has ls 4 [(3, .int (nI i)), (2, .ref (ad 62)), (1, .ref (ad 0)), (0, .ref b)]) (K : ∀ (g' : Sg) (M' : Mem) (H' : Heap) (locs' : List Loc), CI M' g' → MJ M' g' → va_P D cls_ (wsM ty ad M') H' → va_S (fun q => s.heap.size ≤ q) s.heap H' locs' → W p l e room_1 s m #[Value.ref b] below meth c H' locs' 83 4116 Q (F0 m 1309 ls [])) : W p l e room_1 s m #[Value.ref b] below meth c H locs 83 4116 Q (F0 m 420 ls []) := by
  refine lv_aload_n C.1 C.2.1 dL_law_420 rfl (lv_at hl 2 rfl) ?_
  refine lw_ld C (i := i) (k := 1) hi (by decide) hL hS (lv_at hl 3 rfl) (lv_at hl 0 rfl) dL_law_421 dL_law_422 dL_law_423 (by decide) dL_law_424 dL_law_425 ?_
  obtain ⟨r1, M1, hE1, rfl, hC1, hU1⟩ := (c_read hC (xs (i + 1))).ev
  refine lw_call C (c1 := 0) (k := 10) (As := [xs (i + 1)]) (rest := []) hE1 (by decide) gl_49 rfl rfl (by decide) ⟨_, rfl⟩ rfl ⟨by decide, by decide⟩ hP hS hl.1 (Nat.le_of_ble_eq_true rfl) dL_law_426 (fun H locs hP hS => ?_)
  refine W.eq (g2 := F0 m 429 ls [_]) rfl ?_
  refine lv_aload_n C.1 C.2.1 dL_law_429 rfl (lv_at hl 1 rfl) ?_
  refine lw_ld C (i := i) (k := 1) hi (by decide) hL hS (lv_at hl 3 rfl) (lv_at hl 0 rfl) dL_law_430 dL_law_431 dL_law_432 (by decide) dL_law_433 dL_law_434 ?_
  obtain ⟨r2, M2, hE2, rfl, hM2, hW2⟩ := (m_read (hM.up hU1) (xs (i + 1))).ev
  refine lw_call C (c1 := 62) (k := 11) (As := [xs (i + 1)]) (rest := [_]) hE2 (by decide) gl_52 rfl rfl (by decide) ⟨_, rfl⟩ rfl ⟨by decide, by decide⟩ hP hS hl.1 (Nat.le_of_ble_eq_true rfl) dL_law_435 (fun H locs hP hS => ?_)
  refine lv_icmp_eq (tgt := 1309) C.1 C.2.1 dL_law_438 (by decide) (fun _ => ?_) (fun q => absurd rfl q)
  exact K _ M2 H locs (hC1.low hW2) hM2 hP hS
theorem lc_9 (C : LC p s m c b L xs D ty ad) {g : Sg} {M : Mem} (hC : CI M g) (hM : MJ M g) {i : Nat} (hi : i + 6 ≤ L) (hL : L ≤ 3072) (hP : va_P D cls_ (wsM ty ad M) H) (hS : va_S (fun q => s.heap.size ≤ q) s.heap H locs) (hl : lv_has ls 4 [(3, .int (nI i)), (2, .ref (ad 62)), (1, .ref (ad 0)), (0, .ref b)]) (K : ∀ (g' : Sg) (M' : Mem) (H' : Heap) (locs' : List Loc), CI M' g' → MJ M' g' → va_P D cls_ (wsM ty ad M') H' → va_S (fun q => s.heap.size ≤ q) s.heap H' locs' → W p l e room_1 s m #[Value.ref b] below meth c H' locs' 83 4116 Q (F0 m 1309 ls [])) : W p l e room_1 s m #[Value.ref b] below meth c H locs 83 4116 Q (F0 m 443 ls []) := by
  refine lv_aload_n C.1 C.2.1 dL_law_443 rfl (lv_at hl 2 rfl) ?_
  refine lw_ld C (i := i) (k := 1) hi (by decide) hL hS (lv_at hl 3 rfl) (lv_at hl 0 rfl) dL_law_444 dL_law_445 dL_law_446 (by decide) dL_law_447 dL_law_448 ?_
  refine lw_ld C (i := i) (k := 2) hi (by decide) hL hS (lv_at hl 3 rfl) (lv_at hl 0 rfl) dL_law_449 dL_law_450 dL_law_451 (by decide) dL_law_452 dL_law_453 ?_
  refine lw_ld C (i := i) (k := 3) hi (by decide) hL hS (lv_at hl 3 rfl) (lv_at hl 0 rfl) dL_law_454 dL_law_455 dL_law_456 (by decide) dL_law_457 dL_law_458 ?_
  obtain ⟨r1, M1, hE1, rfl, hC1, hU1⟩ := (c_column hC (xs (i + 1)) (xs (i + 2)) (xs (i + 3))).ev
  refine lw_call C (c1 := 0) (k := 10) (As := [xs (i + 1), xs (i + 2), xs (i + 3)]) (rest := []) hE1 (by decide) gl_53 rfl rfl (by decide) ⟨_, rfl⟩ rfl ⟨by decide, by decide⟩ hP hS hl.1 (Nat.le_of_ble_eq_true rfl) dL_law_459 (fun H locs hP hS => ?_)
  refine W.eq (g2 := F0 m 462 ls [_]) rfl ?_
  refine lv_aload_n C.1 C.2.1 dL_law_462 rfl (lv_at hl 1 rfl) ?_
  refine lw_ld C (i := i) (k := 1) hi (by decide) hL hS (lv_at hl 3 rfl) (lv_at hl 0 rfl) dL_law_463 dL_law_464 dL_law_465 (by decide) dL_law_466 dL_law_467 ?_
  refine lw_ld C (i := i) (k := 2) hi (by decide) hL hS (lv_at hl 3 rfl) (lv_at hl 0 rfl) dL_law_468 dL_law_469 dL_law_470 (by decide) dL_law_471 dL_law_472 ?_
  refine lw_ld C (i := i) (k := 3) hi (by decide) hL hS (lv_at hl 3 rfl) (lv_at hl 0 rfl) dL_law_473 dL_law_474 dL_law_475 (by decide) dL_law_476 dL_law_477 ?_
  obtain ⟨r2, M2, hE2, rfl, hM2, hW2⟩ := (m_column (hM.up hU1) (xs (i + 1)) (xs (i + 2)) (xs (i + 3))).ev
  refine lw_call C (c1 := 62) (k := 11) (As := [xs (i + 1), xs (i + 2), xs (i + 3)]) (rest := [_]) hE2 (by decide) gl_56 rfl rfl (by decide) ⟨_, rfl⟩ rfl ⟨by decide, by decide⟩ hP hS hl.1 (Nat.le_of_ble_eq_true rfl) dL_law_478 (fun H locs hP hS => ?_)
  refine lv_icmp_eq (tgt := 1309) C.1 C.2.1 dL_law_481 (by decide) (fun _ => ?_) (fun q => absurd rfl q)
  exact K _ M2 H locs (hC1.low hW2) hM2 hP hS
theorem lc_10 (C : LC p s m c b L xs D ty ad) {g : Sg} {M : Mem} (hC : CI M g) (hM : MJ M g) {i : Nat} (hi : i + 6 ≤ L) (hL : L ≤ 3072) (hP : va_P D cls_ (wsM ty ad M) H) (hS : va_S (fun q => s.heap.size ≤ q) s.heap H locs) (hl : lv_has ls 4 [(3, .int (nI i)), (2, .ref (ad 62)), (1, .ref (ad 0)), (0, .ref b)]) (K : ∀ (g' : Sg) (M' : Mem) (H' : Heap) (locs' : List Loc), CI M' g' → MJ M' g' → va_P D cls_ (wsM ty ad M') H' → va_S (fun q => s.heap.size ≤ q) s.heap H' locs' → W p l e room_1 s m #[Value.ref b] below meth c H' locs' 83 4116 Q (F0 m 1309 ls [])) : W p l e room_1 s m #[Value.ref b] below meth c H locs 83 4116 Q (F0 m 486 ls []) := by
  refine lv_aload_n C.1 C.2.1 dL_law_486 rfl (lv_at hl 2 rfl) ?_
  refine lw_ld C (i := i) (k := 1) hi (by decide) hL hS (lv_at hl 3 rfl) (lv_at hl 0 rfl) dL_law_487 dL_law_488 dL_law_489 (by decide) dL_law_490 dL_law_491 ?_
  refine lw_ld C (i := i) (k := 2) hi (by decide) hL hS (lv_at hl 3 rfl) (lv_at hl 0 rfl) dL_law_492 dL_law_493 dL_law_494 (by decide) dL_law_495 dL_law_496 ?_
  refine lw_ld C (i := i) (k := 3) hi (by decide) hL hS (lv_at hl 3 rfl) (lv_at hl 0 rfl) dL_law_497 dL_law_498 dL_law_499 (by decide) dL_law_500 dL_law_501 ?_
  obtain ⟨r1, M1, hE1, rfl, hC1, hU1⟩ := (c_block hC (xs (i + 1)) (xs (i + 2)) (xs (i + 3))).ev
  refine lw_call C (c1 := 0) (k := 10) (As := [xs (i + 1), xs (i + 2), xs (i + 3)]) (rest := []) hE1 (by decide) gl_57 rfl rfl (by decide) ⟨_, rfl⟩ rfl ⟨by decide, by decide⟩ hP hS hl.1 (Nat.le_of_ble_eq_true rfl) dL_law_502 (fun H locs hP hS => ?_)
  refine W.eq (g2 := F0 m 505 ls [_]) rfl ?_
  refine lv_aload_n C.1 C.2.1 dL_law_505 rfl (lv_at hl 1 rfl) ?_
  refine lw_ld C (i := i) (k := 1) hi (by decide) hL hS (lv_at hl 3 rfl) (lv_at hl 0 rfl) dL_law_506 dL_law_507 dL_law_508 (by decide) dL_law_509 dL_law_510 ?_
  refine lw_ld C (i := i) (k := 2) hi (by decide) hL hS (lv_at hl 3 rfl) (lv_at hl 0 rfl) dL_law_511 dL_law_512 dL_law_513 (by decide) dL_law_514 dL_law_515 ?_
  refine lw_ld C (i := i) (k := 3) hi (by decide) hL hS (lv_at hl 3 rfl) (lv_at hl 0 rfl) dL_law_516 dL_law_517 dL_law_518 (by decide) dL_law_519 dL_law_520 ?_
  obtain ⟨r2, M2, hE2, rfl, hM2, hW2⟩ := (m_block (hM.up hU1) (xs (i + 1)) (xs (i + 2)) (xs (i + 3))).ev
  refine lw_call C (c1 := 62) (k := 11) (As := [xs (i + 1), xs (i + 2), xs (i + 3)]) (rest := [_]) hE2 (by decide) gl_60 rfl rfl (by decide) ⟨_, rfl⟩ rfl ⟨by decide, by decide⟩ hP hS hl.1 (Nat.le_of_ble_eq_true rfl) dL_law_521 (fun H locs hP hS => ?_)
  refine lv_icmp_eq (tgt := 1309) C.1 C.2.1 dL_law_524 (by decide) (fun _ => ?_) (fun q => absurd rfl q)
  exact K _ M2 H locs (hC1.low hW2) hM2 hP hS
theorem lc_11 (C : LC p s m c b L xs D ty ad) {g : Sg} {M : Mem} (hC : CI M g) (hM : MJ M g) {i : Nat} (hi : i + 6 ≤ L) (hL : L ≤ 3072) (hP : va_P D cls_ (wsM ty ad M) H) (hS : va_S (fun q => s.heap.size ≤ q) s.heap H locs) (hl : lv_has ls 4 [(3, .int (nI i)), (2, .ref (ad 62)), (1, .ref (ad 0)), (0, .ref b)]) (K : ∀ (g' : Sg) (M' : Mem) (H' : Heap) (locs' : List Loc), CI M' g' → MJ M' g' → va_P D cls_ (wsM ty ad M') H' → va_S (fun q => s.heap.size ≤ q) s.heap H' locs' → W p l e room_1 s m #[Value.ref b] below meth c H' locs' 83 4116 Q (F0 m 1309 ls [])) : W p l e room_1 s m #[Value.ref b] below meth c H locs 83 4116 Q (F0 m 529 ls []) := by
  refine lv_aload_n C.1 C.2.1 dL_law_529 rfl (lv_at hl 2 rfl) ?_
  refine lw_ld C (i := i) (k := 1) hi (by decide) hL hS (lv_at hl 3 rfl) (lv_at hl 0 rfl) dL_law_530 dL_law_531 dL_law_532 (by decide) dL_law_533 dL_law_534 ?_
  refine lw_ld C (i := i) (k := 2) hi (by decide) hL hS (lv_at hl 3 rfl) (lv_at hl 0 rfl) dL_law_535 dL_law_536 dL_law_537 (by decide) dL_law_538 dL_law_539 ?_
  obtain ⟨r1, M1, hE1, rfl, hC1, hU1⟩ := (c_ice hC (xs (i + 1)) (xs (i + 2))).ev
  refine lw_call C (c1 := 0) (k := 10) (As := [xs (i + 1), xs (i + 2)]) (rest := []) hE1 (by decide) gl_61 rfl rfl (by decide) ⟨_, rfl⟩ rfl ⟨by decide, by decide⟩ hP hS hl.1 (Nat.le_of_ble_eq_true rfl) dL_law_540 (fun H locs hP hS => ?_)
  refine W.eq (g2 := F0 m 543 ls [_]) rfl ?_
  refine lv_aload_n C.1 C.2.1 dL_law_543 rfl (lv_at hl 1 rfl) ?_
  refine lw_ld C (i := i) (k := 1) hi (by decide) hL hS (lv_at hl 3 rfl) (lv_at hl 0 rfl) dL_law_544 dL_law_545 dL_law_546 (by decide) dL_law_547 dL_law_548 ?_
  refine lw_ld C (i := i) (k := 2) hi (by decide) hL hS (lv_at hl 3 rfl) (lv_at hl 0 rfl) dL_law_549 dL_law_550 dL_law_551 (by decide) dL_law_552 dL_law_553 ?_
  obtain ⟨r2, M2, hE2, rfl, hM2, hW2⟩ := (m_ice (hM.up hU1) (xs (i + 1)) (xs (i + 2))).ev
  refine lw_call C (c1 := 62) (k := 11) (As := [xs (i + 1), xs (i + 2)]) (rest := [_]) hE2 (by decide) gl_64 rfl rfl (by decide) ⟨_, rfl⟩ rfl ⟨by decide, by decide⟩ hP hS hl.1 (Nat.le_of_ble_eq_true rfl) dL_law_554 (fun H locs hP hS => ?_)
  refine lv_icmp_eq (tgt := 1309) C.1 C.2.1 dL_law_557 (by decide) (fun _ => ?_) (fun q => absurd rfl q)
  exact K _ M2 H locs (hC1.low hW2) hM2 hP hS
theorem lc_12 (C : LC p s m c b L xs D ty ad) {g : Sg} {M : Mem} (hC : CI M g) (hM : MJ M g) {i : Nat} (hi : i + 6 ≤ L) (hL : L ≤ 3072) (hP : va_P D cls_ (wsM ty ad M) H) (hS : va_S (fun q => s.heap.size ≤ q) s.heap H locs) (hl : lv_has ls 4 [(3, .int (nI i)), (2, .ref (ad 62)), (1, .ref (ad 0)), (0, .ref b)]) (K : ∀ (g' : Sg) (M' : Mem) (H' : Heap) (locs' : List Loc), CI M' g' → MJ M' g' → va_P D cls_ (wsM ty ad M') H' → va_S (fun q => s.heap.size ≤ q) s.heap H' locs' → W p l e room_1 s m #[Value.ref b] below meth c H' locs' 83 4116 Q (F0 m 1309 ls [])) : W p l e room_1 s m #[Value.ref b] below meth c H locs 83 4116 Q (F0 m 562 ls []) := by
  refine lv_aload_n C.1 C.2.1 dL_law_562 rfl (lv_at hl 2 rfl) ?_
  refine lw_ld C (i := i) (k := 1) hi (by decide) hL hS (lv_at hl 3 rfl) (lv_at hl 0 rfl) dL_law_563 dL_law_564 dL_law_565 (by decide) dL_law_566 dL_law_567 ?_
  refine lw_ld C (i := i) (k := 2) hi (by decide) hL hS (lv_at hl 3 rfl) (lv_at hl 0 rfl) dL_law_568 dL_law_569 dL_law_570 (by decide) dL_law_571 dL_law_572 ?_
  obtain ⟨r1, M1, hE1, rfl, hC1, hU1⟩ := (c_got hC (xs (i + 1)) (xs (i + 2))).ev
  refine lw_call C (c1 := 0) (k := 10) (As := [xs (i + 1), xs (i + 2)]) (rest := []) hE1 (by decide) gl_65 rfl rfl (by decide) ⟨_, rfl⟩ rfl ⟨by decide, by decide⟩ hP hS hl.1 (Nat.le_of_ble_eq_true rfl) dL_law_573 (fun H locs hP hS => ?_)
  refine W.eq (g2 := F0 m 576 ls [_]) rfl ?_
  refine lv_aload_n C.1 C.2.1 dL_law_576 rfl (lv_at hl 1 rfl) ?_
  refine lw_ld C (i := i) (k := 1) hi (by decide) hL hS (lv_at hl 3 rfl) (lv_at hl 0 rfl) dL_law_577 dL_law_578 dL_law_579 (by decide) dL_law_580 dL_law_581 ?_
  refine lw_ld C (i := i) (k := 2) hi (by decide) hL hS (lv_at hl 3 rfl) (lv_at hl 0 rfl) dL_law_582 dL_law_583 dL_law_584 (by decide) dL_law_585 dL_law_586 ?_
  obtain ⟨r2, M2, hE2, rfl, hM2, hW2⟩ := (m_got (hM.up hU1) (xs (i + 1)) (xs (i + 2))).ev
  refine lw_call C (c1 := 62) (k := 11) (As := [xs (i + 1), xs (i + 2)]) (rest := [_]) hE2 (by decide) gl_68 rfl rfl (by decide) ⟨_, rfl⟩ rfl ⟨by decide, by decide⟩ hP hS hl.1 (Nat.le_of_ble_eq_true rfl) dL_law_587 (fun H locs hP hS => ?_)
  refine lv_icmp_eq (tgt := 1309) C.1 C.2.1 dL_law_590 (by decide) (fun _ => ?_) (fun q => absurd rfl q)
  exact K _ M2 H locs (hC1.low hW2) hM2 hP hS
theorem lc_13 (C : LC p s m c b L xs D ty ad) {g : Sg} {M : Mem} (hC : CI M g) (hM : MJ M g) {i : Nat} (hi : i + 6 ≤ L) (hL : L ≤ 3072) (hP : va_P D cls_ (wsM ty ad M) H) (hS : va_S (fun q => s.heap.size ≤ q) s.heap H locs) (hl : lv_has ls 4 [(3, .int (nI i)), (2, .ref (ad 62)), (1, .ref (ad 0)), (0, .ref b)]) (K : ∀ (g' : Sg) (M' : Mem) (H' : Heap) (locs' : List Loc), CI M' g' → MJ M' g' → va_P D cls_ (wsM ty ad M') H' → va_S (fun q => s.heap.size ≤ q) s.heap H' locs' → W p l e room_1 s m #[Value.ref b] below meth c H' locs' 83 4116 Q (F0 m 1309 ls [])) : W p l e room_1 s m #[Value.ref b] below meth c H locs 83 4116 Q (F0 m 595 ls []) := by
  refine lv_aload_n C.1 C.2.1 dL_law_595 rfl (lv_at hl 2 rfl) ?_
  refine lw_ld C (i := i) (k := 1) hi (by decide) hL hS (lv_at hl 3 rfl) (lv_at hl 0 rfl) dL_law_596 dL_law_597 dL_law_598 (by decide) dL_law_599 dL_law_600 ?_
  obtain ⟨r1, M1, hE1, rfl, hC1, hU1⟩ := (c_sum hC (xs (i + 1))).ev
  refine lw_call C (c1 := 0) (k := 10) (As := [xs (i + 1)]) (rest := []) hE1 (by decide) gl_69 rfl rfl (by decide) ⟨_, rfl⟩ rfl ⟨by decide, by decide⟩ hP hS hl.1 (Nat.le_of_ble_eq_true rfl) dL_law_601 (fun H locs hP hS => ?_)
  refine W.eq (g2 := F0 m 604 ls [_]) rfl ?_
  refine lv_aload_n C.1 C.2.1 dL_law_604 rfl (lv_at hl 1 rfl) ?_
  refine lw_ld C (i := i) (k := 1) hi (by decide) hL hS (lv_at hl 3 rfl) (lv_at hl 0 rfl) dL_law_605 dL_law_606 dL_law_607 (by decide) dL_law_608 dL_law_609 ?_
  obtain ⟨r2, M2, hE2, rfl, hM2, hW2⟩ := (m_sum (hM.up hU1) (xs (i + 1))).ev
  refine lw_call C (c1 := 62) (k := 11) (As := [xs (i + 1)]) (rest := [_]) hE2 (by decide) gl_72 rfl rfl (by decide) ⟨_, rfl⟩ rfl ⟨by decide, by decide⟩ hP hS hl.1 (Nat.le_of_ble_eq_true rfl) dL_law_610 (fun H locs hP hS => ?_)
  refine lv_icmp_eq (tgt := 1309) C.1 C.2.1 dL_law_613 (by decide) (fun _ => ?_) (fun q => absurd rfl q)
  exact K _ M2 H locs (hC1.low hW2) hM2 hP hS
theorem lc_14 (C : LC p s m c b L xs D ty ad) {g : Sg} {M : Mem} (hC : CI M g) (hM : MJ M g) {i : Nat} (hi : i + 6 ≤ L) (hL : L ≤ 3072) (hP : va_P D cls_ (wsM ty ad M) H) (hS : va_S (fun q => s.heap.size ≤ q) s.heap H locs) (hl : lv_has ls 4 [(3, .int (nI i)), (2, .ref (ad 62)), (1, .ref (ad 0)), (0, .ref b)]) (K : ∀ (g' : Sg) (M' : Mem) (H' : Heap) (locs' : List Loc), CI M' g' → MJ M' g' → va_P D cls_ (wsM ty ad M') H' → va_S (fun q => s.heap.size ≤ q) s.heap H' locs' → W p l e room_1 s m #[Value.ref b] below meth c H' locs' 83 4116 Q (F0 m 1309 ls [])) : W p l e room_1 s m #[Value.ref b] below meth c H locs 83 4116 Q (F0 m 618 ls []) := by
  refine lv_aload_n C.1 C.2.1 dL_law_618 rfl (lv_at hl 2 rfl) ?_
  refine lw_ld C (i := i) (k := 1) hi (by decide) hL hS (lv_at hl 3 rfl) (lv_at hl 0 rfl) dL_law_619 dL_law_620 dL_law_621 (by decide) dL_law_622 dL_law_623 ?_
  obtain ⟨r1, M1, hE1, rfl, hC1, hU1⟩ := (c_bare hC (xs (i + 1))).ev
  refine lw_call C (c1 := 0) (k := 10) (As := [xs (i + 1)]) (rest := []) hE1 (by decide) gl_73 rfl rfl (by decide) ⟨_, rfl⟩ rfl ⟨by decide, by decide⟩ hP hS hl.1 (Nat.le_of_ble_eq_true rfl) dL_law_624 (fun H locs hP hS => ?_)
  refine W.eq (g2 := F0 m 627 ls [_]) rfl ?_
  refine lv_aload_n C.1 C.2.1 dL_law_627 rfl (lv_at hl 1 rfl) ?_
  refine lw_ld C (i := i) (k := 1) hi (by decide) hL hS (lv_at hl 3 rfl) (lv_at hl 0 rfl) dL_law_628 dL_law_629 dL_law_630 (by decide) dL_law_631 dL_law_632 ?_
  obtain ⟨r2, M2, hE2, rfl, hM2, hW2⟩ := (m_bare (hM.up hU1) (xs (i + 1))).ev
  refine lw_call C (c1 := 62) (k := 11) (As := [xs (i + 1)]) (rest := [_]) hE2 (by decide) gl_76 rfl rfl (by decide) ⟨_, rfl⟩ rfl ⟨by decide, by decide⟩ hP hS hl.1 (Nat.le_of_ble_eq_true rfl) dL_law_633 (fun H locs hP hS => ?_)
  refine lv_icmp_eq (tgt := 1309) C.1 C.2.1 dL_law_636 (by decide) (fun _ => ?_) (fun q => absurd rfl q)
  exact K _ M2 H locs (hC1.low hW2) hM2 hP hS
theorem lc_15 (C : LC p s m c b L xs D ty ad) {g : Sg} {M : Mem} (hC : CI M g) (hM : MJ M g) {i : Nat} (hi : i + 6 ≤ L) (hL : L ≤ 3072) (hP : va_P D cls_ (wsM ty ad M) H) (hS : va_S (fun q => s.heap.size ≤ q) s.heap H locs) (hl : lv_has ls 4 [(3, .int (nI i)), (2, .ref (ad 62)), (1, .ref (ad 0)), (0, .ref b)]) (K : ∀ (g' : Sg) (M' : Mem) (H' : Heap) (locs' : List Loc), CI M' g' → MJ M' g' → va_P D cls_ (wsM ty ad M') H' → va_S (fun q => s.heap.size ≤ q) s.heap H' locs' → W p l e room_1 s m #[Value.ref b] below meth c H' locs' 83 4116 Q (F0 m 1309 ls [])) : W p l e room_1 s m #[Value.ref b] below meth c H locs 83 4116 Q (F0 m 641 ls []) := by
  refine lv_aload_n C.1 C.2.1 dL_law_641 rfl (lv_at hl 2 rfl) ?_
  obtain ⟨r1, M1, hE1, rfl, hC1, hU1⟩ := (c_last hC).ev
  refine lw_call C (c1 := 0) (k := 10) (As := []) (rest := []) hE1 (by decide) gl_77 rfl rfl (by decide) ⟨_, rfl⟩ rfl ⟨by decide, by decide⟩ hP hS hl.1 (Nat.le_of_ble_eq_true rfl) dL_law_642 (fun H locs hP hS => ?_)
  refine W.eq (g2 := F0 m 645 ls [_]) rfl ?_
  refine lv_aload_n C.1 C.2.1 dL_law_645 rfl (lv_at hl 1 rfl) ?_
  obtain ⟨r2, M2, hE2, rfl, hM2, hW2⟩ := (m_last (hM.up hU1)).ev
  refine lw_call C (c1 := 62) (k := 11) (As := []) (rest := [_]) hE2 (by decide) gl_80 rfl rfl (by decide) ⟨_, rfl⟩ rfl ⟨by decide, by decide⟩ hP hS hl.1 (Nat.le_of_ble_eq_true rfl) dL_law_646 (fun H locs hP hS => ?_)
  refine lv_icmp_eq (tgt := 1309) C.1 C.2.1 dL_law_649 (by decide) (fun _ => ?_) (fun q => absurd rfl q)
  exact K _ M2 H locs (hC1.low hW2) hM2 hP hS
theorem lc_16 (C : LC p s m c b L xs D ty ad) {g : Sg} {M : Mem} (hC : CI M g) (hM : MJ M g) {i : Nat} (hi : i + 6 ≤ L) (hL : L ≤ 3072) (hP : va_P D cls_ (wsM ty ad M) H) (hS : va_S (fun q => s.heap.size ≤ q) s.heap H locs) (hl : lv_has ls 4 [(3, .int (nI i)), (2, .ref (ad 62)), (1, .ref (ad 0)), (0, .ref b)]) (K : ∀ (g' : Sg) (M' : Mem) (H' : Heap) (locs' : List Loc), CI M' g' → MJ M' g' → va_P D cls_ (wsM ty ad M') H' → va_S (fun q => s.heap.size ≤ q) s.heap H' locs' → W p l e room_1 s m #[Value.ref b] below meth c H' locs' 83 4116 Q (F0 m 1309 ls [])) : W p l e room_1 s m #[Value.ref b] below meth c H locs 83 4116 Q (F0 m 654 ls []) := by
  refine lv_aload_n C.1 C.2.1 dL_law_654 rfl (lv_at hl 2 rfl) ?_
  obtain ⟨r1, M1, hE1, rfl, hC1, hU1⟩ := (c_tall hC).ev
  refine lw_call C (c1 := 0) (k := 10) (As := []) (rest := []) hE1 (by decide) gl_81 rfl rfl (by decide) ⟨_, rfl⟩ rfl ⟨by decide, by decide⟩ hP hS hl.1 (Nat.le_of_ble_eq_true rfl) dL_law_655 (fun H locs hP hS => ?_)
  refine W.eq (g2 := F0 m 658 ls [_]) rfl ?_
  refine lv_aload_n C.1 C.2.1 dL_law_658 rfl (lv_at hl 1 rfl) ?_
  obtain ⟨r2, M2, hE2, rfl, hM2, hW2⟩ := (m_tall (hM.up hU1)).ev
  refine lw_call C (c1 := 62) (k := 11) (As := []) (rest := [_]) hE2 (by decide) gl_84 rfl rfl (by decide) ⟨_, rfl⟩ rfl ⟨by decide, by decide⟩ hP hS hl.1 (Nat.le_of_ble_eq_true rfl) dL_law_659 (fun H locs hP hS => ?_)
  refine lv_icmp_eq (tgt := 1309) C.1 C.2.1 dL_law_662 (by decide) (fun _ => ?_) (fun q => absurd rfl q)
  exact K _ M2 H locs (hC1.low hW2) hM2 hP hS
theorem lc_17 (C : LC p s m c b L xs D ty ad) {g : Sg} {M : Mem} (hC : CI M g) (hM : MJ M g) {i : Nat} (hi : i + 6 ≤ L) (hL : L ≤ 3072) (hP : va_P D cls_ (wsM ty ad M) H) (hS : va_S (fun q => s.heap.size ≤ q) s.heap H locs) (hl : lv_has ls 4 [(3, .int (nI i)), (2, .ref (ad 62)), (1, .ref (ad 0)), (0, .ref b)]) (K : ∀ (g' : Sg) (M' : Mem) (H' : Heap) (locs' : List Loc), CI M' g' → MJ M' g' → va_P D cls_ (wsM ty ad M') H' → va_S (fun q => s.heap.size ≤ q) s.heap H' locs' → W p l e room_1 s m #[Value.ref b] below meth c H' locs' 83 4116 Q (F0 m 1309 ls [])) : W p l e room_1 s m #[Value.ref b] below meth c H locs 83 4116 Q (F0 m 667 ls []) := by
  refine lv_aload_n C.1 C.2.1 dL_law_667 rfl (lv_at hl 2 rfl) ?_
  refine lw_ld C (i := i) (k := 1) hi (by decide) hL hS (lv_at hl 3 rfl) (lv_at hl 0 rfl) dL_law_668 dL_law_669 dL_law_670 (by decide) dL_law_671 dL_law_672 ?_
  obtain ⟨r1, M1, hE1, rfl, hC1, hU1⟩ := (c_drain hC (xs (i + 1))).ev
  refine lw_call C (c1 := 0) (k := 10) (As := [xs (i + 1)]) (rest := []) hE1 (by decide) gl_85 rfl rfl (by decide) ⟨_, rfl⟩ rfl ⟨by decide, by decide⟩ hP hS hl.1 (Nat.le_of_ble_eq_true rfl) dL_law_673 (fun H locs hP hS => ?_)
  refine W.eq (g2 := F0 m 676 ls [_]) rfl ?_
  refine lv_aload_n C.1 C.2.1 dL_law_676 rfl (lv_at hl 1 rfl) ?_
  refine lw_ld C (i := i) (k := 1) hi (by decide) hL hS (lv_at hl 3 rfl) (lv_at hl 0 rfl) dL_law_677 dL_law_678 dL_law_679 (by decide) dL_law_680 dL_law_681 ?_
  obtain ⟨r2, M2, hE2, rfl, hM2, hW2⟩ := (m_drain (hM.up hU1) (xs (i + 1))).ev
  refine lw_call C (c1 := 62) (k := 11) (As := [xs (i + 1)]) (rest := [_]) hE2 (by decide) gl_88 rfl rfl (by decide) ⟨_, rfl⟩ rfl ⟨by decide, by decide⟩ hP hS hl.1 (Nat.le_of_ble_eq_true rfl) dL_law_682 (fun H locs hP hS => ?_)
  refine lv_icmp_eq (tgt := 1309) C.1 C.2.1 dL_law_685 (by decide) (fun _ => ?_) (fun q => absurd rfl q)
  exact K _ M2 H locs (hC1.low hW2) hM2 hP hS
theorem lc_18 (C : LC p s m c b L xs D ty ad) {g : Sg} {M : Mem} (hC : CI M g) (hM : MJ M g) {i : Nat} (hi : i + 6 ≤ L) (hL : L ≤ 3072) (hP : va_P D cls_ (wsM ty ad M) H) (hS : va_S (fun q => s.heap.size ≤ q) s.heap H locs) (hl : lv_has ls 4 [(3, .int (nI i)), (2, .ref (ad 62)), (1, .ref (ad 0)), (0, .ref b)]) (K : ∀ (g' : Sg) (M' : Mem) (H' : Heap) (locs' : List Loc), CI M' g' → MJ M' g' → va_P D cls_ (wsM ty ad M') H' → va_S (fun q => s.heap.size ≤ q) s.heap H' locs' → W p l e room_1 s m #[Value.ref b] below meth c H' locs' 83 4116 Q (F0 m 1309 ls [])) : W p l e room_1 s m #[Value.ref b] below meth c H locs 83 4116 Q (F0 m 690 ls []) := by
  refine lv_aload_n C.1 C.2.1 dL_law_690 rfl (lv_at hl 2 rfl) ?_
  refine lw_ld C (i := i) (k := 1) hi (by decide) hL hS (lv_at hl 3 rfl) (lv_at hl 0 rfl) dL_law_691 dL_law_692 dL_law_693 (by decide) dL_law_694 dL_law_695 ?_
  obtain ⟨r1, M1, hE1, rfl, hC1, hU1⟩ := (c_cover hC (xs (i + 1))).ev
  refine lw_call C (c1 := 0) (k := 10) (As := [xs (i + 1)]) (rest := []) hE1 (by decide) gl_89 rfl rfl (by decide) ⟨_, rfl⟩ rfl ⟨by decide, by decide⟩ hP hS hl.1 (Nat.le_of_ble_eq_true rfl) dL_law_696 (fun H locs hP hS => ?_)
  refine W.eq (g2 := F0 m 699 ls [_]) rfl ?_
  refine lv_aload_n C.1 C.2.1 dL_law_699 rfl (lv_at hl 1 rfl) ?_
  refine lw_ld C (i := i) (k := 1) hi (by decide) hL hS (lv_at hl 3 rfl) (lv_at hl 0 rfl) dL_law_700 dL_law_701 dL_law_702 (by decide) dL_law_703 dL_law_704 ?_
  obtain ⟨r2, M2, hE2, rfl, hM2, hW2⟩ := (m_cover (hM.up hU1) (xs (i + 1))).ev
  refine lw_call C (c1 := 62) (k := 11) (As := [xs (i + 1)]) (rest := [_]) hE2 (by decide) gl_92 rfl rfl (by decide) ⟨_, rfl⟩ rfl ⟨by decide, by decide⟩ hP hS hl.1 (Nat.le_of_ble_eq_true rfl) dL_law_705 (fun H locs hP hS => ?_)
  refine lv_icmp_eq (tgt := 1309) C.1 C.2.1 dL_law_708 (by decide) (fun _ => ?_) (fun q => absurd rfl q)
  exact K _ M2 H locs (hC1.low hW2) hM2 hP hS
theorem lc_19 (C : LC p s m c b L xs D ty ad) {g : Sg} {M : Mem} (hC : CI M g) (hM : MJ M g) {i : Nat} (hi : i + 6 ≤ L) (hL : L ≤ 3072) (hP : va_P D cls_ (wsM ty ad M) H) (hS : va_S (fun q => s.heap.size ≤ q) s.heap H locs) (hl : lv_has ls 4 [(3, .int (nI i)), (2, .ref (ad 62)), (1, .ref (ad 0)), (0, .ref b)]) (K : ∀ (g' : Sg) (M' : Mem) (H' : Heap) (locs' : List Loc), CI M' g' → MJ M' g' → va_P D cls_ (wsM ty ad M') H' → va_S (fun q => s.heap.size ≤ q) s.heap H' locs' → W p l e room_1 s m #[Value.ref b] below meth c H' locs' 83 4116 Q (F0 m 1309 ls [])) : W p l e room_1 s m #[Value.ref b] below meth c H locs 83 4116 Q (F0 m 713 ls []) := by
  refine lv_aload_n C.1 C.2.1 dL_law_713 rfl (lv_at hl 2 rfl) ?_
  refine lw_ld C (i := i) (k := 1) hi (by decide) hL hS (lv_at hl 3 rfl) (lv_at hl 0 rfl) dL_law_714 dL_law_715 dL_law_716 (by decide) dL_law_717 dL_law_718 ?_
  obtain ⟨r1, M1, hE1, rfl, hC1, hU1⟩ := (c_swap hC (xs (i + 1))).ev
  refine lw_call C (c1 := 0) (k := 10) (As := [xs (i + 1)]) (rest := []) hE1 (by decide) gl_93 rfl rfl (by decide) ⟨_, rfl⟩ rfl ⟨by decide, by decide⟩ hP hS hl.1 (Nat.le_of_ble_eq_true rfl) dL_law_719 (fun H locs hP hS => ?_)
  refine W.eq (g2 := F0 m 722 ls [_]) rfl ?_
  refine lv_aload_n C.1 C.2.1 dL_law_722 rfl (lv_at hl 1 rfl) ?_
  refine lw_ld C (i := i) (k := 1) hi (by decide) hL hS (lv_at hl 3 rfl) (lv_at hl 0 rfl) dL_law_723 dL_law_724 dL_law_725 (by decide) dL_law_726 dL_law_727 ?_
  obtain ⟨r2, M2, hE2, rfl, hM2, hW2⟩ := (m_swap (hM.up hU1) (xs (i + 1))).ev
  refine lw_call C (c1 := 62) (k := 11) (As := [xs (i + 1)]) (rest := [_]) hE2 (by decide) gl_96 rfl rfl (by decide) ⟨_, rfl⟩ rfl ⟨by decide, by decide⟩ hP hS hl.1 (Nat.le_of_ble_eq_true rfl) dL_law_728 (fun H locs hP hS => ?_)
  refine lv_icmp_eq (tgt := 1309) C.1 C.2.1 dL_law_731 (by decide) (fun _ => ?_) (fun q => absurd rfl q)
  exact K _ M2 H locs (hC1.low hW2) hM2 hP hS
theorem lc_20 (C : LC p s m c b L xs D ty ad) {g : Sg} {M : Mem} (hC : CI M g) (hM : MJ M g) {i : Nat} (hi : i + 6 ≤ L) (hL : L ≤ 3072) (hP : va_P D cls_ (wsM ty ad M) H) (hS : va_S (fun q => s.heap.size ≤ q) s.heap H locs) (hl : lv_has ls 4 [(3, .int (nI i)), (2, .ref (ad 62)), (1, .ref (ad 0)), (0, .ref b)]) (K : ∀ (g' : Sg) (M' : Mem) (H' : Heap) (locs' : List Loc), CI M' g' → MJ M' g' → va_P D cls_ (wsM ty ad M') H' → va_S (fun q => s.heap.size ≤ q) s.heap H' locs' → W p l e room_1 s m #[Value.ref b] below meth c H' locs' 83 4116 Q (F0 m 1309 ls [])) : W p l e room_1 s m #[Value.ref b] below meth c H locs 83 4116 Q (F0 m 736 ls []) := by
  refine lv_aload_n C.1 C.2.1 dL_law_736 rfl (lv_at hl 2 rfl) ?_
  refine lw_ld C (i := i) (k := 1) hi (by decide) hL hS (lv_at hl 3 rfl) (lv_at hl 0 rfl) dL_law_737 dL_law_738 dL_law_739 (by decide) dL_law_740 dL_law_741 ?_
  refine lw_ld C (i := i) (k := 2) hi (by decide) hL hS (lv_at hl 3 rfl) (lv_at hl 0 rfl) dL_law_742 dL_law_743 dL_law_744 (by decide) dL_law_745 dL_law_746 ?_
  obtain ⟨r1, M1, hE1, rfl, hC1, hU1⟩ := (c_later hC (xs (i + 1)) (xs (i + 2))).ev
  refine lw_call C (c1 := 0) (k := 10) (As := [xs (i + 1), xs (i + 2)]) (rest := []) hE1 (by decide) gl_97 rfl rfl (by decide) ⟨_, rfl⟩ rfl ⟨by decide, by decide⟩ hP hS hl.1 (Nat.le_of_ble_eq_true rfl) dL_law_747 (fun H locs hP hS => ?_)
  refine W.eq (g2 := F0 m 750 ls [_]) rfl ?_
  refine lv_aload_n C.1 C.2.1 dL_law_750 rfl (lv_at hl 1 rfl) ?_
  refine lw_ld C (i := i) (k := 1) hi (by decide) hL hS (lv_at hl 3 rfl) (lv_at hl 0 rfl) dL_law_751 dL_law_752 dL_law_753 (by decide) dL_law_754 dL_law_755 ?_
  refine lw_ld C (i := i) (k := 2) hi (by decide) hL hS (lv_at hl 3 rfl) (lv_at hl 0 rfl) dL_law_756 dL_law_757 dL_law_758 (by decide) dL_law_759 dL_law_760 ?_
  obtain ⟨r2, M2, hE2, rfl, hM2, hW2⟩ := (m_later (hM.up hU1) (xs (i + 1)) (xs (i + 2))).ev
  refine lw_call C (c1 := 62) (k := 11) (As := [xs (i + 1), xs (i + 2)]) (rest := [_]) hE2 (by decide) gl_100 rfl rfl (by decide) ⟨_, rfl⟩ rfl ⟨by decide, by decide⟩ hP hS hl.1 (Nat.le_of_ble_eq_true rfl) dL_law_761 (fun H locs hP hS => ?_)
  refine lv_icmp_eq (tgt := 1309) C.1 C.2.1 dL_law_764 (by decide) (fun _ => ?_) (fun q => absurd rfl q)
  exact K _ M2 H locs (hC1.low hW2) hM2 hP hS
theorem lc_21 (C : LC p s m c b L xs D ty ad) {g : Sg} {M : Mem} (hC : CI M g) (hM : MJ M g) {i : Nat} (hi : i + 6 ≤ L) (hL : L ≤ 3072) (hP : va_P D cls_ (wsM ty ad M) H) (hS : va_S (fun q => s.heap.size ≤ q) s.heap H locs) (hl : lv_has ls 4 [(3, .int (nI i)), (2, .ref (ad 62)), (1, .ref (ad 0)), (0, .ref b)]) (K : ∀ (g' : Sg) (M' : Mem) (H' : Heap) (locs' : List Loc), CI M' g' → MJ M' g' → va_P D cls_ (wsM ty ad M') H' → va_S (fun q => s.heap.size ≤ q) s.heap H' locs' → W p l e room_1 s m #[Value.ref b] below meth c H' locs' 83 4116 Q (F0 m 1309 ls [])) : W p l e room_1 s m #[Value.ref b] below meth c H locs 83 4116 Q (F0 m 769 ls []) := by
  refine lv_aload_n C.1 C.2.1 dL_law_769 rfl (lv_at hl 2 rfl) ?_
  refine lw_ld C (i := i) (k := 1) hi (by decide) hL hS (lv_at hl 3 rfl) (lv_at hl 0 rfl) dL_law_770 dL_law_771 dL_law_772 (by decide) dL_law_773 dL_law_774 ?_
  obtain ⟨r1, M1, hE1, rfl, hC1, hU1⟩ := (c_spare hC (xs (i + 1))).ev
  refine lw_call C (c1 := 0) (k := 10) (As := [xs (i + 1)]) (rest := []) hE1 (by decide) gl_101 rfl rfl (by decide) ⟨_, rfl⟩ rfl ⟨by decide, by decide⟩ hP hS hl.1 (Nat.le_of_ble_eq_true rfl) dL_law_775 (fun H locs hP hS => ?_)
  refine W.eq (g2 := F0 m 778 ls [_]) rfl ?_
  refine lv_aload_n C.1 C.2.1 dL_law_778 rfl (lv_at hl 1 rfl) ?_
  refine lw_ld C (i := i) (k := 1) hi (by decide) hL hS (lv_at hl 3 rfl) (lv_at hl 0 rfl) dL_law_779 dL_law_780 dL_law_781 (by decide) dL_law_782 dL_law_783 ?_
  obtain ⟨r2, M2, hE2, rfl, hM2, hW2⟩ := (m_spare (hM.up hU1) (xs (i + 1))).ev
  refine lw_call C (c1 := 62) (k := 11) (As := [xs (i + 1)]) (rest := [_]) hE2 (by decide) gl_104 rfl rfl (by decide) ⟨_, rfl⟩ rfl ⟨by decide, by decide⟩ hP hS hl.1 (Nat.le_of_ble_eq_true rfl) dL_law_784 (fun H locs hP hS => ?_)
  refine lv_icmp_eq (tgt := 1309) C.1 C.2.1 dL_law_787 (by decide) (fun _ => ?_) (fun q => absurd rfl q)
  exact K _ M2 H locs (hC1.low hW2) hM2 hP hS
theorem lc_22 (C : LC p s m c b L xs D ty ad) {g : Sg} {M : Mem} (hC : CI M g) (hM : MJ M g) {i : Nat} (hi : i + 6 ≤ L) (hL : L ≤ 3072) (hP : va_P D cls_ (wsM ty ad M) H) (hS : va_S (fun q => s.heap.size ≤ q) s.heap H locs) (hl : lv_has ls 4 [(3, .int (nI i)), (2, .ref (ad 62)), (1, .ref (ad 0)), (0, .ref b)]) (K : ∀ (g' : Sg) (M' : Mem) (H' : Heap) (locs' : List Loc), CI M' g' → MJ M' g' → va_P D cls_ (wsM ty ad M') H' → va_S (fun q => s.heap.size ≤ q) s.heap H' locs' → W p l e room_1 s m #[Value.ref b] below meth c H' locs' 83 4116 Q (F0 m 1309 ls [])) : W p l e room_1 s m #[Value.ref b] below meth c H locs 83 4116 Q (F0 m 792 ls []) := by
  refine lv_aload_n C.1 C.2.1 dL_law_792 rfl (lv_at hl 2 rfl) ?_
  refine lw_ld C (i := i) (k := 1) hi (by decide) hL hS (lv_at hl 3 rfl) (lv_at hl 0 rfl) dL_law_793 dL_law_794 dL_law_795 (by decide) dL_law_796 dL_law_797 ?_
  refine lw_ld C (i := i) (k := 2) hi (by decide) hL hS (lv_at hl 3 rfl) (lv_at hl 0 rfl) dL_law_798 dL_law_799 dL_law_800 (by decide) dL_law_801 dL_law_802 ?_
  refine lw_ld C (i := i) (k := 3) hi (by decide) hL hS (lv_at hl 3 rfl) (lv_at hl 0 rfl) dL_law_803 dL_law_804 dL_law_805 (by decide) dL_law_806 dL_law_807 ?_
  obtain ⟨r1, M1, hE1, rfl, hC1, hU1⟩ := (c_seen hC (xs (i + 1)) (xs (i + 2)) (xs (i + 3))).ev
  refine lw_call C (c1 := 0) (k := 10) (As := [xs (i + 1), xs (i + 2), xs (i + 3)]) (rest := []) hE1 (by decide) gl_105 rfl rfl (by decide) ⟨_, rfl⟩ rfl ⟨by decide, by decide⟩ hP hS hl.1 (Nat.le_of_ble_eq_true rfl) dL_law_808 (fun H locs hP hS => ?_)
  refine W.eq (g2 := F0 m 811 ls [_]) rfl ?_
  refine lv_aload_n C.1 C.2.1 dL_law_811 rfl (lv_at hl 1 rfl) ?_
  refine lw_ld C (i := i) (k := 1) hi (by decide) hL hS (lv_at hl 3 rfl) (lv_at hl 0 rfl) dL_law_812 dL_law_813 dL_law_814 (by decide) dL_law_815 dL_law_816 ?_
  refine lw_ld C (i := i) (k := 2) hi (by decide) hL hS (lv_at hl 3 rfl) (lv_at hl 0 rfl) dL_law_817 dL_law_818 dL_law_819 (by decide) dL_law_820 dL_law_821 ?_
  refine lw_ld C (i := i) (k := 3) hi (by decide) hL hS (lv_at hl 3 rfl) (lv_at hl 0 rfl) dL_law_822 dL_law_823 dL_law_824 (by decide) dL_law_825 dL_law_826 ?_
  obtain ⟨r2, M2, hE2, rfl, hM2, hW2⟩ := (m_seen (hM.up hU1) (xs (i + 1)) (xs (i + 2)) (xs (i + 3))).ev
  refine lw_call C (c1 := 62) (k := 11) (As := [xs (i + 1), xs (i + 2), xs (i + 3)]) (rest := [_]) hE2 (by decide) gl_108 rfl rfl (by decide) ⟨_, rfl⟩ rfl ⟨by decide, by decide⟩ hP hS hl.1 (Nat.le_of_ble_eq_true rfl) dL_law_827 (fun H locs hP hS => ?_)
  refine lv_icmp_eq (tgt := 1309) C.1 C.2.1 dL_law_830 (by decide) (fun _ => ?_) (fun q => absurd rfl q)
  exact K _ M2 H locs (hC1.low hW2) hM2 hP hS
theorem lc_23 (C : LC p s m c b L xs D ty ad) {g : Sg} {M : Mem} (hC : CI M g) (hM : MJ M g) {i : Nat} (hi : i + 6 ≤ L) (hL : L ≤ 3072) (hP : va_P D cls_ (wsM ty ad M) H) (hS : va_S (fun q => s.heap.size ≤ q) s.heap H locs) (hl : lv_has ls 4 [(3, .int (nI i)), (2, .ref (ad 62)), (1, .ref (ad 0)), (0, .ref b)]) (K : ∀ (g' : Sg) (M' : Mem) (H' : Heap) (locs' : List Loc), CI M' g' → MJ M' g' → va_P D cls_ (wsM ty ad M') H' → va_S (fun q => s.heap.size ≤ q) s.heap H' locs' → W p l e room_1 s m #[Value.ref b] below meth c H' locs' 83 4116 Q (F0 m 1309 ls [])) : W p l e room_1 s m #[Value.ref b] below meth c H locs 83 4116 Q (F0 m 835 ls []) := by
  refine lv_aload_n C.1 C.2.1 dL_law_835 rfl (lv_at hl 2 rfl) ?_
  obtain ⟨r1, M1, hE1, rfl, hC1, hU1⟩ := (c_forget hC).ev
  refine lw_call C (c1 := 0) (k := 10) (As := []) (rest := []) hE1 (by decide) gl_109 rfl rfl (by decide) ⟨_, rfl⟩ rfl ⟨by decide, by decide⟩ hP hS hl.1 (Nat.le_of_ble_eq_true rfl) dL_law_836 (fun H locs hP hS => ?_)
  refine W.eq (g2 := F0 m 839 ls [_]) rfl ?_
  refine lv_aload_n C.1 C.2.1 dL_law_839 rfl (lv_at hl 1 rfl) ?_
  obtain ⟨r2, M2, hE2, rfl, hM2, hW2⟩ := (m_forget (hM.up hU1)).ev
  refine lw_call C (c1 := 62) (k := 11) (As := []) (rest := [_]) hE2 (by decide) gl_112 rfl rfl (by decide) ⟨_, rfl⟩ rfl ⟨by decide, by decide⟩ hP hS hl.1 (Nat.le_of_ble_eq_true rfl) dL_law_840 (fun H locs hP hS => ?_)
  refine lv_icmp_eq (tgt := 1309) C.1 C.2.1 dL_law_843 (by decide) (fun _ => ?_) (fun q => absurd rfl q)
  exact K _ M2 H locs (hC1.low hW2) hM2 hP hS
theorem lc_24 (C : LC p s m c b L xs D ty ad) {g : Sg} {M : Mem} (hC : CI M g) (hM : MJ M g) {i : Nat} (hi : i + 6 ≤ L) (hL : L ≤ 3072) (hP : va_P D cls_ (wsM ty ad M) H) (hS : va_S (fun q => s.heap.size ≤ q) s.heap H locs) (hl : lv_has ls 4 [(3, .int (nI i)), (2, .ref (ad 62)), (1, .ref (ad 0)), (0, .ref b)]) (K : ∀ (g' : Sg) (M' : Mem) (H' : Heap) (locs' : List Loc), CI M' g' → MJ M' g' → va_P D cls_ (wsM ty ad M') H' → va_S (fun q => s.heap.size ≤ q) s.heap H' locs' → W p l e room_1 s m #[Value.ref b] below meth c H' locs' 83 4116 Q (F0 m 1309 ls [])) : W p l e room_1 s m #[Value.ref b] below meth c H locs 83 4116 Q (F0 m 848 ls []) := by
  refine lv_aload_n C.1 C.2.1 dL_law_848 rfl (lv_at hl 2 rfl) ?_
  obtain ⟨r1, M1, hE1, rfl, hC1, hU1⟩ := (c_never hC).ev
  refine lw_call C (c1 := 0) (k := 10) (As := []) (rest := []) hE1 (by decide) gl_113 rfl rfl (by decide) ⟨_, rfl⟩ rfl ⟨by decide, by decide⟩ hP hS hl.1 (Nat.le_of_ble_eq_true rfl) dL_law_849 (fun H locs hP hS => ?_)
  refine W.eq (g2 := F0 m 852 ls [_]) rfl ?_
  refine lv_aload_n C.1 C.2.1 dL_law_852 rfl (lv_at hl 1 rfl) ?_
  obtain ⟨r2, M2, hE2, rfl, hM2, hW2⟩ := (m_never (hM.up hU1)).ev
  refine lw_call C (c1 := 62) (k := 11) (As := []) (rest := [_]) hE2 (by decide) gl_116 rfl rfl (by decide) ⟨_, rfl⟩ rfl ⟨by decide, by decide⟩ hP hS hl.1 (Nat.le_of_ble_eq_true rfl) dL_law_853 (fun H locs hP hS => ?_)
  refine lv_icmp_eq (tgt := 1309) C.1 C.2.1 dL_law_856 (by decide) (fun _ => ?_) (fun q => absurd rfl q)
  exact K _ M2 H locs (hC1.low hW2) hM2 hP hS
theorem lc_25 (C : LC p s m c b L xs D ty ad) {g : Sg} {M : Mem} (hC : CI M g) (hM : MJ M g) {i : Nat} (hi : i + 6 ≤ L) (hL : L ≤ 3072) (hP : va_P D cls_ (wsM ty ad M) H) (hS : va_S (fun q => s.heap.size ≤ q) s.heap H locs) (hl : lv_has ls 4 [(3, .int (nI i)), (2, .ref (ad 62)), (1, .ref (ad 0)), (0, .ref b)]) (K : ∀ (g' : Sg) (M' : Mem) (H' : Heap) (locs' : List Loc), CI M' g' → MJ M' g' → va_P D cls_ (wsM ty ad M') H' → va_S (fun q => s.heap.size ≤ q) s.heap H' locs' → W p l e room_1 s m #[Value.ref b] below meth c H' locs' 83 4116 Q (F0 m 1309 ls [])) : W p l e room_1 s m #[Value.ref b] below meth c H locs 83 4116 Q (F0 m 861 ls []) := by
  refine lv_aload_n C.1 C.2.1 dL_law_861 rfl (lv_at hl 2 rfl) ?_
  refine lw_ld C (i := i) (k := 1) hi (by decide) hL hS (lv_at hl 3 rfl) (lv_at hl 0 rfl) dL_law_862 dL_law_863 dL_law_864 (by decide) dL_law_865 dL_law_866 ?_
  refine lw_ld C (i := i) (k := 2) hi (by decide) hL hS (lv_at hl 3 rfl) (lv_at hl 0 rfl) dL_law_867 dL_law_868 dL_law_869 (by decide) dL_law_870 dL_law_871 ?_
  obtain ⟨r1, M1, hE1, rfl, hC1, hU1⟩ := (c_size hC (xs (i + 1)) (xs (i + 2))).ev
  refine lw_call C (c1 := 0) (k := 10) (As := [xs (i + 1), xs (i + 2)]) (rest := []) hE1 (by decide) gl_117 rfl rfl (by decide) ⟨_, rfl⟩ rfl ⟨by decide, by decide⟩ hP hS hl.1 (Nat.le_of_ble_eq_true rfl) dL_law_872 (fun H locs hP hS => ?_)
  refine W.eq (g2 := F0 m 875 ls [_]) rfl ?_
  refine lv_aload_n C.1 C.2.1 dL_law_875 rfl (lv_at hl 1 rfl) ?_
  refine lw_ld C (i := i) (k := 1) hi (by decide) hL hS (lv_at hl 3 rfl) (lv_at hl 0 rfl) dL_law_876 dL_law_877 dL_law_878 (by decide) dL_law_879 dL_law_880 ?_
  refine lw_ld C (i := i) (k := 2) hi (by decide) hL hS (lv_at hl 3 rfl) (lv_at hl 0 rfl) dL_law_881 dL_law_882 dL_law_883 (by decide) dL_law_884 dL_law_885 ?_
  obtain ⟨r2, M2, hE2, rfl, hM2, hW2⟩ := (m_size (hM.up hU1) (xs (i + 1)) (xs (i + 2))).ev
  refine lw_call C (c1 := 62) (k := 11) (As := [xs (i + 1), xs (i + 2)]) (rest := [_]) hE2 (by decide) gl_120 rfl rfl (by decide) ⟨_, rfl⟩ rfl ⟨by decide, by decide⟩ hP hS hl.1 (Nat.le_of_ble_eq_true rfl) dL_law_886 (fun H locs hP hS => ?_)
  refine lv_icmp_eq (tgt := 1309) C.1 C.2.1 dL_law_889 (by decide) (fun _ => ?_) (fun q => absurd rfl q)
  exact K _ M2 H locs (hC1.low hW2) hM2 hP hS
theorem lc_26 (C : LC p s m c b L xs D ty ad) {g : Sg} {M : Mem} (hC : CI M g) (hM : MJ M g) {i : Nat} (hi : i + 6 ≤ L) (hL : L ≤ 3072) (hP : va_P D cls_ (wsM ty ad M) H) (hS : va_S (fun q => s.heap.size ≤ q) s.heap H locs) (hl : lv_has ls 4 [(3, .int (nI i)), (2, .ref (ad 62)), (1, .ref (ad 0)), (0, .ref b)]) (K : ∀ (g' : Sg) (M' : Mem) (H' : Heap) (locs' : List Loc), CI M' g' → MJ M' g' → va_P D cls_ (wsM ty ad M') H' → va_S (fun q => s.heap.size ≤ q) s.heap H' locs' → W p l e room_1 s m #[Value.ref b] below meth c H' locs' 83 4116 Q (F0 m 1309 ls [])) : W p l e room_1 s m #[Value.ref b] below meth c H locs 83 4116 Q (F0 m 894 ls []) := by
  refine lv_aload_n C.1 C.2.1 dL_law_894 rfl (lv_at hl 2 rfl) ?_
  refine lw_ld C (i := i) (k := 1) hi (by decide) hL hS (lv_at hl 3 rfl) (lv_at hl 0 rfl) dL_law_895 dL_law_896 dL_law_897 (by decide) dL_law_898 dL_law_899 ?_
  refine lw_ld C (i := i) (k := 2) hi (by decide) hL hS (lv_at hl 3 rfl) (lv_at hl 0 rfl) dL_law_900 dL_law_901 dL_law_902 (by decide) dL_law_903 dL_law_904 ?_
  obtain ⟨r1, M1, hE1, rfl, hC1, hU1⟩ := (c_ask hC (xs (i + 1)) (xs (i + 2))).ev
  refine lw_call C (c1 := 0) (k := 10) (As := [xs (i + 1), xs (i + 2)]) (rest := []) hE1 (by decide) gl_121 rfl rfl (by decide) ⟨_, rfl⟩ rfl ⟨by decide, by decide⟩ hP hS hl.1 (Nat.le_of_ble_eq_true rfl) dL_law_905 (fun H locs hP hS => ?_)
  refine W.eq (g2 := F0 m 908 ls [_]) rfl ?_
  refine lv_aload_n C.1 C.2.1 dL_law_908 rfl (lv_at hl 1 rfl) ?_
  refine lw_ld C (i := i) (k := 1) hi (by decide) hL hS (lv_at hl 3 rfl) (lv_at hl 0 rfl) dL_law_909 dL_law_910 dL_law_911 (by decide) dL_law_912 dL_law_913 ?_
  refine lw_ld C (i := i) (k := 2) hi (by decide) hL hS (lv_at hl 3 rfl) (lv_at hl 0 rfl) dL_law_914 dL_law_915 dL_law_916 (by decide) dL_law_917 dL_law_918 ?_
  obtain ⟨r2, M2, hE2, rfl, hM2, hW2⟩ := (m_ask (hM.up hU1) (xs (i + 1)) (xs (i + 2))).ev
  refine lw_call C (c1 := 62) (k := 11) (As := [xs (i + 1), xs (i + 2)]) (rest := [_]) hE2 (by decide) gl_124 rfl rfl (by decide) ⟨_, rfl⟩ rfl ⟨by decide, by decide⟩ hP hS hl.1 (Nat.le_of_ble_eq_true rfl) dL_law_919 (fun H locs hP hS => ?_)
  refine lv_icmp_eq (tgt := 1309) C.1 C.2.1 dL_law_922 (by decide) (fun _ => ?_) (fun q => absurd rfl q)
  exact K _ M2 H locs (hC1.low hW2) hM2 hP hS
theorem lc_27 (C : LC p s m c b L xs D ty ad) {g : Sg} {M : Mem} (hC : CI M g) (hM : MJ M g) {i : Nat} (hi : i + 6 ≤ L) (hL : L ≤ 3072) (hP : va_P D cls_ (wsM ty ad M) H) (hS : va_S (fun q => s.heap.size ≤ q) s.heap H locs) (hl : lv_has ls 4 [(3, .int (nI i)), (2, .ref (ad 62)), (1, .ref (ad 0)), (0, .ref b)]) (K : ∀ (g' : Sg) (M' : Mem) (H' : Heap) (locs' : List Loc), CI M' g' → MJ M' g' → va_P D cls_ (wsM ty ad M') H' → va_S (fun q => s.heap.size ≤ q) s.heap H' locs' → W p l e room_1 s m #[Value.ref b] below meth c H' locs' 83 4116 Q (F0 m 1309 ls [])) : W p l e room_1 s m #[Value.ref b] below meth c H locs 83 4116 Q (F0 m 927 ls []) := by
  refine lv_aload_n C.1 C.2.1 dL_law_927 rfl (lv_at hl 2 rfl) ?_
  refine lw_ld C (i := i) (k := 1) hi (by decide) hL hS (lv_at hl 3 rfl) (lv_at hl 0 rfl) dL_law_928 dL_law_929 dL_law_930 (by decide) dL_law_931 dL_law_932 ?_
  refine lw_ld C (i := i) (k := 2) hi (by decide) hL hS (lv_at hl 3 rfl) (lv_at hl 0 rfl) dL_law_933 dL_law_934 dL_law_935 (by decide) dL_law_936 dL_law_937 ?_
  refine lw_ld C (i := i) (k := 3) hi (by decide) hL hS (lv_at hl 3 rfl) (lv_at hl 0 rfl) dL_law_938 dL_law_939 dL_law_940 (by decide) dL_law_941 dL_law_942 ?_
  obtain ⟨r1, M1, hE1, rfl, hC1, hU1⟩ := (c_chance hC (xs (i + 1)) (xs (i + 2)) (xs (i + 3))).ev
  refine lw_call C (c1 := 0) (k := 10) (As := [xs (i + 1), xs (i + 2), xs (i + 3)]) (rest := []) hE1 (by decide) gl_125 rfl rfl (by decide) ⟨_, rfl⟩ rfl ⟨by decide, by decide⟩ hP hS hl.1 (Nat.le_of_ble_eq_true rfl) dL_law_943 (fun H locs hP hS => ?_)
  refine W.eq (g2 := F0 m 946 ls [_]) rfl ?_
  refine lv_aload_n C.1 C.2.1 dL_law_946 rfl (lv_at hl 1 rfl) ?_
  refine lw_ld C (i := i) (k := 1) hi (by decide) hL hS (lv_at hl 3 rfl) (lv_at hl 0 rfl) dL_law_947 dL_law_948 dL_law_949 (by decide) dL_law_950 dL_law_951 ?_
  refine lw_ld C (i := i) (k := 2) hi (by decide) hL hS (lv_at hl 3 rfl) (lv_at hl 0 rfl) dL_law_952 dL_law_953 dL_law_954 (by decide) dL_law_955 dL_law_956 ?_
  refine lw_ld C (i := i) (k := 3) hi (by decide) hL hS (lv_at hl 3 rfl) (lv_at hl 0 rfl) dL_law_957 dL_law_958 dL_law_959 (by decide) dL_law_960 dL_law_961 ?_
  obtain ⟨r2, M2, hE2, rfl, hM2, hW2⟩ := (m_chance (hM.up hU1) (xs (i + 1)) (xs (i + 2)) (xs (i + 3))).ev
  refine lw_call C (c1 := 62) (k := 11) (As := [xs (i + 1), xs (i + 2), xs (i + 3)]) (rest := [_]) hE2 (by decide) gl_129 rfl rfl (by decide) ⟨_, rfl⟩ rfl ⟨by decide, by decide⟩ hP hS hl.1 (Nat.le_of_ble_eq_true rfl) dL_law_962 (fun H locs hP hS => ?_)
  refine W.lcmp C.1 C.2.1 dL_law_965 ?_
  refine lv_if_eq (tgt := 1309) C.1 C.2.1 dL_law_966 (by decide) (fun _ => ?_) (fun q => absurd (show lg_cmp _ _ = nI 0 from (cmp_0).mpr rfl) q)
  exact K _ M2 H locs (hC1.low hW2) hM2 hP hS
theorem lc_28 (C : LC p s m c b L xs D ty ad) {g : Sg} {M : Mem} (hC : CI M g) (hM : MJ M g) {i : Nat} (hi : i + 6 ≤ L) (hL : L ≤ 3072) (hP : va_P D cls_ (wsM ty ad M) H) (hS : va_S (fun q => s.heap.size ≤ q) s.heap H locs) (hl : lv_has ls 4 [(3, .int (nI i)), (2, .ref (ad 62)), (1, .ref (ad 0)), (0, .ref b)]) (K : ∀ (g' : Sg) (M' : Mem) (H' : Heap) (locs' : List Loc), CI M' g' → MJ M' g' → va_P D cls_ (wsM ty ad M') H' → va_S (fun q => s.heap.size ≤ q) s.heap H' locs' → W p l e room_1 s m #[Value.ref b] below meth c H' locs' 83 4116 Q (F0 m 1309 ls [])) : W p l e room_1 s m #[Value.ref b] below meth c H locs 83 4116 Q (F0 m 971 ls []) := by
  refine lv_aload_n C.1 C.2.1 dL_law_971 rfl (lv_at hl 2 rfl) ?_
  refine lw_ld C (i := i) (k := 1) hi (by decide) hL hS (lv_at hl 3 rfl) (lv_at hl 0 rfl) dL_law_972 dL_law_973 dL_law_974 (by decide) dL_law_975 dL_law_976 ?_
  refine lw_ld C (i := i) (k := 2) hi (by decide) hL hS (lv_at hl 3 rfl) (lv_at hl 0 rfl) dL_law_977 dL_law_978 dL_law_979 (by decide) dL_law_980 dL_law_981 ?_
  refine lw_ld C (i := i) (k := 3) hi (by decide) hL hS (lv_at hl 3 rfl) (lv_at hl 0 rfl) dL_law_982 dL_law_983 dL_law_984 (by decide) dL_law_985 dL_law_986 ?_
  obtain ⟨r1, M1, hE1, rfl, hC1, hU1⟩ := (c_summers hC (xs (i + 1)) (xs (i + 2)) (xs (i + 3))).ev
  refine lw_call C (c1 := 0) (k := 10) (As := [xs (i + 1), xs (i + 2), xs (i + 3)]) (rest := []) hE1 (by decide) gl_130 rfl rfl (by decide) ⟨_, rfl⟩ rfl ⟨by decide, by decide⟩ hP hS hl.1 (Nat.le_of_ble_eq_true rfl) dL_law_987 (fun H locs hP hS => ?_)
  refine W.eq (g2 := F0 m 990 ls [_]) rfl ?_
  refine lv_aload_n C.1 C.2.1 dL_law_990 rfl (lv_at hl 1 rfl) ?_
  refine lw_ld C (i := i) (k := 1) hi (by decide) hL hS (lv_at hl 3 rfl) (lv_at hl 0 rfl) dL_law_991 dL_law_992 dL_law_993 (by decide) dL_law_994 dL_law_995 ?_
  refine lw_ld C (i := i) (k := 2) hi (by decide) hL hS (lv_at hl 3 rfl) (lv_at hl 0 rfl) dL_law_996 dL_law_997 dL_law_998 (by decide) dL_law_999 dL_law_1000 ?_
  refine lw_ld C (i := i) (k := 3) hi (by decide) hL hS (lv_at hl 3 rfl) (lv_at hl 0 rfl) dL_law_1001 dL_law_1002 dL_law_1003 (by decide) dL_law_1004 dL_law_1005 ?_
  obtain ⟨r2, M2, hE2, rfl, hM2, hW2⟩ := (m_summers (hM.up hU1) (xs (i + 1)) (xs (i + 2)) (xs (i + 3))).ev
  refine lw_call C (c1 := 62) (k := 11) (As := [xs (i + 1), xs (i + 2), xs (i + 3)]) (rest := [_]) hE2 (by decide) gl_133 rfl rfl (by decide) ⟨_, rfl⟩ rfl ⟨by decide, by decide⟩ hP hS hl.1 (Nat.le_of_ble_eq_true rfl) dL_law_1006 (fun H locs hP hS => ?_)
  refine lv_icmp_eq (tgt := 1309) C.1 C.2.1 dL_law_1009 (by decide) (fun _ => ?_) (fun q => absurd rfl q)
  exact K _ M2 H locs (hC1.low hW2) hM2 hP hS
theorem lc_29 (C : LC p s m c b L xs D ty ad) {g : Sg} {M : Mem} (hC : CI M g) (hM : MJ M g) {i : Nat} (hi : i + 6 ≤ L) (hL : L ≤ 3072) (hP : va_P D cls_ (wsM ty ad M) H) (hS : va_S (fun q => s.heap.size ≤ q) s.heap H locs) (hl : lv_has ls 4 [(3, .int (nI i)), (2, .ref (ad 62)), (1, .ref (ad 0)), (0, .ref b)]) (K : ∀ (g' : Sg) (M' : Mem) (H' : Heap) (locs' : List Loc), CI M' g' → MJ M' g' → va_P D cls_ (wsM ty ad M') H' → va_S (fun q => s.heap.size ≤ q) s.heap H' locs' → W p l e room_1 s m #[Value.ref b] below meth c H' locs' 83 4116 Q (F0 m 1309 ls [])) : W p l e room_1 s m #[Value.ref b] below meth c H locs 83 4116 Q (F0 m 1014 ls []) := by
  refine lv_aload_n C.1 C.2.1 dL_law_1014 rfl (lv_at hl 2 rfl) ?_
  refine lw_ld C (i := i) (k := 1) hi (by decide) hL hS (lv_at hl 3 rfl) (lv_at hl 0 rfl) dL_law_1015 dL_law_1016 dL_law_1017 (by decide) dL_law_1018 dL_law_1019 ?_
  refine lw_ld C (i := i) (k := 2) hi (by decide) hL hS (lv_at hl 3 rfl) (lv_at hl 0 rfl) dL_law_1020 dL_law_1021 dL_law_1022 (by decide) dL_law_1023 dL_law_1024 ?_
  refine lw_ld C (i := i) (k := 3) hi (by decide) hL hS (lv_at hl 3 rfl) (lv_at hl 0 rfl) dL_law_1025 dL_law_1026 dL_law_1027 (by decide) dL_law_1028 dL_law_1029 ?_
  obtain ⟨r1, M1, hE1, rfl, hC1, hU1⟩ := (c_sheet hC (xs (i + 1)) (xs (i + 2)) (xs (i + 3))).ev
  refine lw_call C (c1 := 0) (k := 10) (As := [xs (i + 1), xs (i + 2), xs (i + 3)]) (rest := []) hE1 (by decide) gl_134 rfl rfl (by decide) ⟨_, rfl⟩ rfl ⟨by decide, by decide⟩ hP hS hl.1 (Nat.le_of_ble_eq_true rfl) dL_law_1030 (fun H locs hP hS => ?_)
  refine W.eq (g2 := F0 m 1033 ls [_]) rfl ?_
  refine lv_aload_n C.1 C.2.1 dL_law_1033 rfl (lv_at hl 1 rfl) ?_
  refine lw_ld C (i := i) (k := 1) hi (by decide) hL hS (lv_at hl 3 rfl) (lv_at hl 0 rfl) dL_law_1034 dL_law_1035 dL_law_1036 (by decide) dL_law_1037 dL_law_1038 ?_
  refine lw_ld C (i := i) (k := 2) hi (by decide) hL hS (lv_at hl 3 rfl) (lv_at hl 0 rfl) dL_law_1039 dL_law_1040 dL_law_1041 (by decide) dL_law_1042 dL_law_1043 ?_
  refine lw_ld C (i := i) (k := 3) hi (by decide) hL hS (lv_at hl 3 rfl) (lv_at hl 0 rfl) dL_law_1044 dL_law_1045 dL_law_1046 (by decide) dL_law_1047 dL_law_1048 ?_
  obtain ⟨r2, M2, hE2, rfl, hM2, hW2⟩ := (m_sheet (hM.up hU1) (xs (i + 1)) (xs (i + 2)) (xs (i + 3))).ev
  refine lw_call C (c1 := 62) (k := 11) (As := [xs (i + 1), xs (i + 2), xs (i + 3)]) (rest := [_]) hE2 (by decide) gl_137 rfl rfl (by decide) ⟨_, rfl⟩ rfl ⟨by decide, by decide⟩ hP hS hl.1 (Nat.le_of_ble_eq_true rfl) dL_law_1049 (fun H locs hP hS => ?_)
  refine lv_icmp_eq (tgt := 1309) C.1 C.2.1 dL_law_1052 (by decide) (fun _ => ?_) (fun q => absurd rfl q)
  exact K _ M2 H locs (hC1.low hW2) hM2 hP hS
theorem lc_30 (C : LC p s m c b L xs D ty ad) {g : Sg} {M : Mem} (hC : CI M g) (hM : MJ M g) {i : Nat} (hi : i + 6 ≤ L) (hL : L ≤ 3072) (hP : va_P D cls_ (wsM ty ad M) H) (hS : va_S (fun q => s.heap.size ≤ q) s.heap H locs) (hl : lv_has ls 4 [(3, .int (nI i)), (2, .ref (ad 62)), (1, .ref (ad 0)), (0, .ref b)]) (K : ∀ (g' : Sg) (M' : Mem) (H' : Heap) (locs' : List Loc), CI M' g' → MJ M' g' → va_P D cls_ (wsM ty ad M') H' → va_S (fun q => s.heap.size ≤ q) s.heap H' locs' → W p l e room_1 s m #[Value.ref b] below meth c H' locs' 83 4116 Q (F0 m 1309 ls [])) : W p l e room_1 s m #[Value.ref b] below meth c H locs 83 4116 Q (F0 m 1057 ls []) := by
  refine lv_aload_n C.1 C.2.1 dL_law_1057 rfl (lv_at hl 2 rfl) ?_
  refine lw_ld C (i := i) (k := 1) hi (by decide) hL hS (lv_at hl 3 rfl) (lv_at hl 0 rfl) dL_law_1058 dL_law_1059 dL_law_1060 (by decide) dL_law_1061 dL_law_1062 ?_
  obtain ⟨r1, M1, hE1, rfl, hC1, hU1⟩ := (c_lose hC (xs (i + 1))).ev
  refine lw_call C (c1 := 0) (k := 10) (As := [xs (i + 1)]) (rest := []) hE1 (by decide) gl_138 rfl rfl (by decide) ⟨_, rfl⟩ rfl ⟨by decide, by decide⟩ hP hS hl.1 (Nat.le_of_ble_eq_true rfl) dL_law_1063 (fun H locs hP hS => ?_)
  refine W.eq (g2 := F0 m 1066 ls [_]) rfl ?_
  refine lv_aload_n C.1 C.2.1 dL_law_1066 rfl (lv_at hl 1 rfl) ?_
  refine lw_ld C (i := i) (k := 1) hi (by decide) hL hS (lv_at hl 3 rfl) (lv_at hl 0 rfl) dL_law_1067 dL_law_1068 dL_law_1069 (by decide) dL_law_1070 dL_law_1071 ?_
  obtain ⟨r2, M2, hE2, rfl, hM2, hW2⟩ := (m_lose (hM.up hU1) (xs (i + 1))).ev
  refine lw_call C (c1 := 62) (k := 11) (As := [xs (i + 1)]) (rest := [_]) hE2 (by decide) gl_141 rfl rfl (by decide) ⟨_, rfl⟩ rfl ⟨by decide, by decide⟩ hP hS hl.1 (Nat.le_of_ble_eq_true rfl) dL_law_1072 (fun H locs hP hS => ?_)
  refine lv_icmp_eq (tgt := 1309) C.1 C.2.1 dL_law_1075 (by decide) (fun _ => ?_) (fun q => absurd rfl q)
  exact K _ M2 H locs (hC1.low hW2) hM2 hP hS
theorem lc_31 (C : LC p s m c b L xs D ty ad) {g : Sg} {M : Mem} (hC : CI M g) (hM : MJ M g) {i : Nat} (hi : i + 6 ≤ L) (hL : L ≤ 3072) (hP : va_P D cls_ (wsM ty ad M) H) (hS : va_S (fun q => s.heap.size ≤ q) s.heap H locs) (hl : lv_has ls 4 [(3, .int (nI i)), (2, .ref (ad 62)), (1, .ref (ad 0)), (0, .ref b)]) (K : ∀ (g' : Sg) (M' : Mem) (H' : Heap) (locs' : List Loc), CI M' g' → MJ M' g' → va_P D cls_ (wsM ty ad M') H' → va_S (fun q => s.heap.size ≤ q) s.heap H' locs' → W p l e room_1 s m #[Value.ref b] below meth c H' locs' 83 4116 Q (F0 m 1309 ls [])) : W p l e room_1 s m #[Value.ref b] below meth c H locs 83 4116 Q (F0 m 1080 ls []) := by
  refine lv_aload_n C.1 C.2.1 dL_law_1080 rfl (lv_at hl 2 rfl) ?_
  refine lw_ld C (i := i) (k := 1) hi (by decide) hL hS (lv_at hl 3 rfl) (lv_at hl 0 rfl) dL_law_1081 dL_law_1082 dL_law_1083 (by decide) dL_law_1084 dL_law_1085 ?_
  refine lw_ld C (i := i) (k := 2) hi (by decide) hL hS (lv_at hl 3 rfl) (lv_at hl 0 rfl) dL_law_1086 dL_law_1087 dL_law_1088 (by decide) dL_law_1089 dL_law_1090 ?_
  refine lw_ld C (i := i) (k := 3) hi (by decide) hL hS (lv_at hl 3 rfl) (lv_at hl 0 rfl) dL_law_1091 dL_law_1092 dL_law_1093 (by decide) dL_law_1094 dL_law_1095 ?_
  refine lw_ld C (i := i) (k := 4) hi (by decide) hL hS (lv_at hl 3 rfl) (lv_at hl 0 rfl) dL_law_1096 dL_law_1097 dL_law_1098 (by decide) dL_law_1099 dL_law_1100 ?_
  obtain ⟨r1, M1, hE1, rfl, hC1, hU1⟩ := (c_lay hC (xs (i + 1)) (xs (i + 2)) (xs (i + 3)) (xs (i + 4))).ev
  refine lw_call C (c1 := 0) (k := 10) (As := [xs (i + 1), xs (i + 2), xs (i + 3), xs (i + 4)]) (rest := []) hE1 (by decide) gl_142 rfl rfl (by decide) ⟨_, rfl⟩ rfl ⟨by decide, by decide⟩ hP hS hl.1 (Nat.le_of_ble_eq_true rfl) dL_law_1101 (fun H locs hP hS => ?_)
  refine W.eq (g2 := F0 m 1104 ls [_]) rfl ?_
  refine lv_aload_n C.1 C.2.1 dL_law_1104 rfl (lv_at hl 1 rfl) ?_
  refine lw_ld C (i := i) (k := 1) hi (by decide) hL hS (lv_at hl 3 rfl) (lv_at hl 0 rfl) dL_law_1105 dL_law_1106 dL_law_1107 (by decide) dL_law_1108 dL_law_1109 ?_
  refine lw_ld C (i := i) (k := 2) hi (by decide) hL hS (lv_at hl 3 rfl) (lv_at hl 0 rfl) dL_law_1110 dL_law_1111 dL_law_1112 (by decide) dL_law_1113 dL_law_1114 ?_
  refine lw_ld C (i := i) (k := 3) hi (by decide) hL hS (lv_at hl 3 rfl) (lv_at hl 0 rfl) dL_law_1115 dL_law_1116 dL_law_1117 (by decide) dL_law_1118 dL_law_1119 ?_
  refine lw_ld C (i := i) (k := 4) hi (by decide) hL hS (lv_at hl 3 rfl) (lv_at hl 0 rfl) dL_law_1120 dL_law_1121 dL_law_1122 (by decide) dL_law_1123 dL_law_1124 ?_
  obtain ⟨r2, M2, hE2, rfl, hM2, hW2⟩ := (m_lay (hM.up hU1) (xs (i + 1)) (xs (i + 2)) (xs (i + 3)) (xs (i + 4))).ev
  refine lw_call C (c1 := 62) (k := 11) (As := [xs (i + 1), xs (i + 2), xs (i + 3), xs (i + 4)]) (rest := [_]) hE2 (by decide) gl_146 rfl rfl (by decide) ⟨_, rfl⟩ rfl ⟨by decide, by decide⟩ hP hS hl.1 (Nat.le_of_ble_eq_true rfl) dL_law_1125 (fun H locs hP hS => ?_)
  refine lv_icmp_eq (tgt := 1309) C.1 C.2.1 dL_law_1128 (by decide) (fun _ => ?_) (fun q => absurd rfl q)
  exact K _ M2 H locs (hC1.low hW2) hM2 hP hS
theorem lc_32 (C : LC p s m c b L xs D ty ad) {g : Sg} {M : Mem} (hC : CI M g) (hM : MJ M g) {i : Nat} (hi : i + 6 ≤ L) (hL : L ≤ 3072) (hP : va_P D cls_ (wsM ty ad M) H) (hS : va_S (fun q => s.heap.size ≤ q) s.heap H locs) (hl : lv_has ls 4 [(3, .int (nI i)), (2, .ref (ad 62)), (1, .ref (ad 0)), (0, .ref b)]) (K : ∀ (g' : Sg) (M' : Mem) (H' : Heap) (locs' : List Loc), CI M' g' → MJ M' g' → va_P D cls_ (wsM ty ad M') H' → va_S (fun q => s.heap.size ≤ q) s.heap H' locs' → W p l e room_1 s m #[Value.ref b] below meth c H' locs' 83 4116 Q (F0 m 1309 ls [])) : W p l e room_1 s m #[Value.ref b] below meth c H locs 83 4116 Q (F0 m 1133 ls []) := by
  refine lv_aload_n C.1 C.2.1 dL_law_1133 rfl (lv_at hl 2 rfl) ?_
  refine lw_ld C (i := i) (k := 1) hi (by decide) hL hS (lv_at hl 3 rfl) (lv_at hl 0 rfl) dL_law_1134 dL_law_1135 dL_law_1136 (by decide) dL_law_1137 dL_law_1138 ?_
  refine lw_ld C (i := i) (k := 2) hi (by decide) hL hS (lv_at hl 3 rfl) (lv_at hl 0 rfl) dL_law_1139 dL_law_1140 dL_law_1141 (by decide) dL_law_1142 dL_law_1143 ?_
  refine lw_ld C (i := i) (k := 3) hi (by decide) hL hS (lv_at hl 3 rfl) (lv_at hl 0 rfl) dL_law_1144 dL_law_1145 dL_law_1146 (by decide) dL_law_1147 dL_law_1148 ?_
  obtain ⟨r1, M1, hE1, rfl, hC1, hU1⟩ := (c_get hC (xs (i + 1)) (xs (i + 2)) (xs (i + 3))).ev
  refine lw_call C (c1 := 0) (k := 10) (As := [xs (i + 1), xs (i + 2), xs (i + 3)]) (rest := []) hE1 (by decide) gl_147 rfl rfl (by decide) ⟨_, rfl⟩ rfl ⟨by decide, by decide⟩ hP hS hl.1 (Nat.le_of_ble_eq_true rfl) dL_law_1149 (fun H locs hP hS => ?_)
  refine W.eq (g2 := F0 m 1152 ls [_]) rfl ?_
  refine lv_aload_n C.1 C.2.1 dL_law_1152 rfl (lv_at hl 1 rfl) ?_
  refine lw_ld C (i := i) (k := 1) hi (by decide) hL hS (lv_at hl 3 rfl) (lv_at hl 0 rfl) dL_law_1153 dL_law_1154 dL_law_1155 (by decide) dL_law_1156 dL_law_1157 ?_
  refine lw_ld C (i := i) (k := 2) hi (by decide) hL hS (lv_at hl 3 rfl) (lv_at hl 0 rfl) dL_law_1158 dL_law_1159 dL_law_1160 (by decide) dL_law_1161 dL_law_1162 ?_
  refine lw_ld C (i := i) (k := 3) hi (by decide) hL hS (lv_at hl 3 rfl) (lv_at hl 0 rfl) dL_law_1163 dL_law_1164 dL_law_1165 (by decide) dL_law_1166 dL_law_1167 ?_
  obtain ⟨r2, M2, hE2, rfl, hM2, hW2⟩ := (m_get (hM.up hU1) (xs (i + 1)) (xs (i + 2)) (xs (i + 3))).ev
  refine lw_call C (c1 := 62) (k := 11) (As := [xs (i + 1), xs (i + 2), xs (i + 3)]) (rest := [_]) hE2 (by decide) gl_150 rfl rfl (by decide) ⟨_, rfl⟩ rfl ⟨by decide, by decide⟩ hP hS hl.1 (Nat.le_of_ble_eq_true rfl) dL_law_1168 (fun H locs hP hS => ?_)
  refine lv_icmp_eq (tgt := 1309) C.1 C.2.1 dL_law_1171 (by decide) (fun _ => ?_) (fun q => absurd rfl q)
  exact K _ M2 H locs (hC1.low hW2) hM2 hP hS
theorem lc_33 (C : LC p s m c b L xs D ty ad) {g : Sg} {M : Mem} (hC : CI M g) (hM : MJ M g) {i : Nat} (hi : i + 6 ≤ L) (hL : L ≤ 3072) (hP : va_P D cls_ (wsM ty ad M) H) (hS : va_S (fun q => s.heap.size ≤ q) s.heap H locs) (hl : lv_has ls 4 [(3, .int (nI i)), (2, .ref (ad 62)), (1, .ref (ad 0)), (0, .ref b)]) (K : ∀ (g' : Sg) (M' : Mem) (H' : Heap) (locs' : List Loc), CI M' g' → MJ M' g' → va_P D cls_ (wsM ty ad M') H' → va_S (fun q => s.heap.size ≤ q) s.heap H' locs' → W p l e room_1 s m #[Value.ref b] below meth c H' locs' 83 4116 Q (F0 m 1309 ls [])) : W p l e room_1 s m #[Value.ref b] below meth c H locs 83 4116 Q (F0 m 1176 ls []) := by
  refine lv_aload_n C.1 C.2.1 dL_law_1176 rfl (lv_at hl 2 rfl) ?_
  refine lw_ld C (i := i) (k := 1) hi (by decide) hL hS (lv_at hl 3 rfl) (lv_at hl 0 rfl) dL_law_1177 dL_law_1178 dL_law_1179 (by decide) dL_law_1180 dL_law_1181 ?_
  refine lw_ld C (i := i) (k := 2) hi (by decide) hL hS (lv_at hl 3 rfl) (lv_at hl 0 rfl) dL_law_1182 dL_law_1183 dL_law_1184 (by decide) dL_law_1185 dL_law_1186 ?_
  refine lw_ld C (i := i) (k := 3) hi (by decide) hL hS (lv_at hl 3 rfl) (lv_at hl 0 rfl) dL_law_1187 dL_law_1188 dL_law_1189 (by decide) dL_law_1190 dL_law_1191 ?_
  refine lw_ld C (i := i) (k := 4) hi (by decide) hL hS (lv_at hl 3 rfl) (lv_at hl 0 rfl) dL_law_1192 dL_law_1193 dL_law_1194 (by decide) dL_law_1195 dL_law_1196 ?_
  refine lw_ld C (i := i) (k := 5) hi (by decide) hL hS (lv_at hl 3 rfl) (lv_at hl 0 rfl) dL_law_1197 dL_law_1198 dL_law_1199 (by decide) dL_law_1200 dL_law_1201 ?_
  obtain ⟨r1, M1, hE1, rfl, hC1, hU1⟩ := (c_copy hC (xs (i + 1)) (xs (i + 2)) (xs (i + 3)) (xs (i + 4)) (xs (i + 5))).ev
  refine lw_call C (c1 := 0) (k := 10) (As := [xs (i + 1), xs (i + 2), xs (i + 3), xs (i + 4), xs (i + 5)]) (rest := []) hE1 (by decide) gl_151 rfl rfl (by decide) ⟨_, rfl⟩ rfl ⟨by decide, by decide⟩ hP hS hl.1 (Nat.le_of_ble_eq_true rfl) dL_law_1202 (fun H locs hP hS => ?_)
  refine W.eq (g2 := F0 m 1205 ls [_]) rfl ?_
  refine lv_aload_n C.1 C.2.1 dL_law_1205 rfl (lv_at hl 1 rfl) ?_
  refine lw_ld C (i := i) (k := 1) hi (by decide) hL hS (lv_at hl 3 rfl) (lv_at hl 0 rfl) dL_law_1206 dL_law_1207 dL_law_1208 (by decide) dL_law_1209 dL_law_1210 ?_
  refine lw_ld C (i := i) (k := 2) hi (by decide) hL hS (lv_at hl 3 rfl) (lv_at hl 0 rfl) dL_law_1211 dL_law_1212 dL_law_1213 (by decide) dL_law_1214 dL_law_1215 ?_
  refine lw_ld C (i := i) (k := 3) hi (by decide) hL hS (lv_at hl 3 rfl) (lv_at hl 0 rfl) dL_law_1216 dL_law_1217 dL_law_1218 (by decide) dL_law_1219 dL_law_1220 ?_
  refine lw_ld C (i := i) (k := 4) hi (by decide) hL hS (lv_at hl 3 rfl) (lv_at hl 0 rfl) dL_law_1221 dL_law_1222 dL_law_1223 (by decide) dL_law_1224 dL_law_1225 ?_
  refine lw_ld C (i := i) (k := 5) hi (by decide) hL hS (lv_at hl 3 rfl) (lv_at hl 0 rfl) dL_law_1226 dL_law_1227 dL_law_1228 (by decide) dL_law_1229 dL_law_1230 ?_
  obtain ⟨r2, M2, hE2, rfl, hM2, hW2⟩ := (m_copy (hM.up hU1) (xs (i + 1)) (xs (i + 2)) (xs (i + 3)) (xs (i + 4)) (xs (i + 5))).ev
  refine lw_call C (c1 := 62) (k := 11) (As := [xs (i + 1), xs (i + 2), xs (i + 3), xs (i + 4), xs (i + 5)]) (rest := [_]) hE2 (by decide) gl_155 rfl rfl (by decide) ⟨_, rfl⟩ rfl ⟨by decide, by decide⟩ hP hS hl.1 (Nat.le_of_ble_eq_true rfl) dL_law_1231 (fun H locs hP hS => ?_)
  refine lv_icmp_eq (tgt := 1309) C.1 C.2.1 dL_law_1234 (by decide) (fun _ => ?_) (fun q => absurd rfl q)
  exact K _ M2 H locs (hC1.low hW2) hM2 hP hS
theorem lc_34 (C : LC p s m c b L xs D ty ad) {g : Sg} {M : Mem} (hC : CI M g) (hM : MJ M g) {i : Nat} (hi : i + 6 ≤ L) (hL : L ≤ 3072) (hP : va_P D cls_ (wsM ty ad M) H) (hS : va_S (fun q => s.heap.size ≤ q) s.heap H locs) (hl : lv_has ls 4 [(3, .int (nI i)), (2, .ref (ad 62)), (1, .ref (ad 0)), (0, .ref b)]) (K : ∀ (g' : Sg) (M' : Mem) (H' : Heap) (locs' : List Loc), CI M' g' → MJ M' g' → va_P D cls_ (wsM ty ad M') H' → va_S (fun q => s.heap.size ≤ q) s.heap H' locs' → W p l e room_1 s m #[Value.ref b] below meth c H' locs' 83 4116 Q (F0 m 1309 ls [])) : W p l e room_1 s m #[Value.ref b] below meth c H locs 83 4116 Q (F0 m 1239 ls []) := by
  refine lv_aload_n C.1 C.2.1 dL_law_1239 rfl (lv_at hl 2 rfl) ?_
  refine lw_ld C (i := i) (k := 1) hi (by decide) hL hS (lv_at hl 3 rfl) (lv_at hl 0 rfl) dL_law_1240 dL_law_1241 dL_law_1242 (by decide) dL_law_1243 dL_law_1244 ?_
  refine lw_ld C (i := i) (k := 2) hi (by decide) hL hS (lv_at hl 3 rfl) (lv_at hl 0 rfl) dL_law_1245 dL_law_1246 dL_law_1247 (by decide) dL_law_1248 dL_law_1249 ?_
  obtain ⟨r1, M1, hE1, rfl, hC1, hU1⟩ := (c_write hC (xs (i + 1)) (xs (i + 2))).ev
  refine lw_call C (c1 := 0) (k := 10) (As := [xs (i + 1), xs (i + 2)]) (rest := []) hE1 (by decide) gl_156 rfl rfl (by decide) ⟨_, rfl⟩ rfl ⟨by decide, by decide⟩ hP hS hl.1 (Nat.le_of_ble_eq_true rfl) dL_law_1250 (fun H locs hP hS => ?_)
  refine W.eq (g2 := F0 m 1253 ls [_]) rfl ?_
  refine lv_aload_n C.1 C.2.1 dL_law_1253 rfl (lv_at hl 1 rfl) ?_
  refine lw_ld C (i := i) (k := 1) hi (by decide) hL hS (lv_at hl 3 rfl) (lv_at hl 0 rfl) dL_law_1254 dL_law_1255 dL_law_1256 (by decide) dL_law_1257 dL_law_1258 ?_
  refine lw_ld C (i := i) (k := 2) hi (by decide) hL hS (lv_at hl 3 rfl) (lv_at hl 0 rfl) dL_law_1259 dL_law_1260 dL_law_1261 (by decide) dL_law_1262 dL_law_1263 ?_
  obtain ⟨r2, M2, hE2, rfl, hM2, hW2⟩ := (m_write (hM.up hU1) (xs (i + 1)) (xs (i + 2))).ev
  refine lw_call C (c1 := 62) (k := 11) (As := [xs (i + 1), xs (i + 2)]) (rest := [_]) hE2 (by decide) gl_159 rfl rfl (by decide) ⟨_, rfl⟩ rfl ⟨by decide, by decide⟩ hP hS hl.1 (Nat.le_of_ble_eq_true rfl) dL_law_1264 (fun H locs hP hS => ?_)
  refine lv_icmp_eq (tgt := 1309) C.1 C.2.1 dL_law_1267 (by decide) (fun _ => ?_) (fun q => absurd rfl q)
  exact K _ M2 H locs (hC1.low hW2) hM2 hP hS
theorem lc_35 (C : LC p s m c b L xs D ty ad) {g : Sg} {M : Mem} (hC : CI M g) (hM : MJ M g) {i : Nat} (hi : i + 6 ≤ L) (hL : L ≤ 3072) (hP : va_P D cls_ (wsM ty ad M) H) (hS : va_S (fun q => s.heap.size ≤ q) s.heap H locs) (hl : lv_has ls 4 [(3, .int (nI i)), (2, .ref (ad 62)), (1, .ref (ad 0)), (0, .ref b)]) (K : ∀ (g' : Sg) (M' : Mem) (H' : Heap) (locs' : List Loc), CI M' g' → MJ M' g' → va_P D cls_ (wsM ty ad M') H' → va_S (fun q => s.heap.size ≤ q) s.heap H' locs' → W p l e room_1 s m #[Value.ref b] below meth c H' locs' 83 4116 Q (F0 m 1309 ls [])) : W p l e room_1 s m #[Value.ref b] below meth c H locs 83 4116 Q (F0 m 1272 ls []) := by
  refine lv_aload_n C.1 C.2.1 dL_law_1272 rfl (lv_at hl 2 rfl) ?_
  refine lw_ld C (i := i) (k := 1) hi (by decide) hL hS (lv_at hl 3 rfl) (lv_at hl 0 rfl) dL_law_1273 dL_law_1274 dL_law_1275 (by decide) dL_law_1276 dL_law_1277 ?_
  obtain ⟨r1, M1, hE1, rfl, hC1, hU1⟩ := (c_count hC (xs (i + 1))).ev
  refine lw_call C (c1 := 0) (k := 10) (As := [xs (i + 1)]) (rest := []) hE1 (by decide) gl_160 rfl rfl (by decide) ⟨_, rfl⟩ rfl ⟨by decide, by decide⟩ hP hS hl.1 (Nat.le_of_ble_eq_true rfl) dL_law_1278 (fun H locs hP hS => ?_)
  refine W.eq (g2 := F0 m 1281 ls [_]) rfl ?_
  refine lv_aload_n C.1 C.2.1 dL_law_1281 rfl (lv_at hl 1 rfl) ?_
  refine lw_ld C (i := i) (k := 1) hi (by decide) hL hS (lv_at hl 3 rfl) (lv_at hl 0 rfl) dL_law_1282 dL_law_1283 dL_law_1284 (by decide) dL_law_1285 dL_law_1286 ?_
  obtain ⟨r2, M2, hE2, rfl, hM2, hW2⟩ := (m_count (hM.up hU1) (xs (i + 1))).ev
  refine lw_call C (c1 := 62) (k := 11) (As := [xs (i + 1)]) (rest := [_]) hE2 (by decide) gl_163 rfl rfl (by decide) ⟨_, rfl⟩ rfl ⟨by decide, by decide⟩ hP hS hl.1 (Nat.le_of_ble_eq_true rfl) dL_law_1287 (fun H locs hP hS => ?_)
  refine lv_icmp_eq (tgt := 1309) C.1 C.2.1 dL_law_1290 (by decide) (fun _ => ?_) (fun q => absurd rfl q)
  exact K _ M2 H locs (hC1.low hW2) hM2.1 hP hS
theorem lc_36 (C : LC p s m c b L xs D ty ad) {g : Sg} {M : Mem} (hC : CI M g) (hM : MJ M g) {i : Nat} (hi : i + 6 ≤ L) (hL : L ≤ 3072) (hP : va_P D cls_ (wsM ty ad M) H) (hS : va_S (fun q => s.heap.size ≤ q) s.heap H locs) (hl : lv_has ls 4 [(3, .int (nI i)), (2, .ref (ad 62)), (1, .ref (ad 0)), (0, .ref b)]) (K : ∀ (g' : Sg) (M' : Mem) (H' : Heap) (locs' : List Loc), CI M' g' → MJ M' g' → va_P D cls_ (wsM ty ad M') H' → va_S (fun q => s.heap.size ≤ q) s.heap H' locs' → W p l e room_1 s m #[Value.ref b] below meth c H' locs' 83 4116 Q (F0 m 1309 ls [])) : W p l e room_1 s m #[Value.ref b] below meth c H locs 83 4116 Q (F0 m 1295 ls []) := by
  refine lv_aload_n C.1 C.2.1 dL_law_1295 rfl (lv_at hl 2 rfl) ?_
  obtain ⟨r1, M1, hE1, rfl, hC1, hU1⟩ := (c_digest hC).ev
  refine lw_call C (c1 := 0) (k := 10) (As := []) (rest := []) hE1 (by decide) gl_164 rfl rfl (by decide) ⟨_, rfl⟩ rfl ⟨by decide, by decide⟩ hP hS hl.1 (Nat.le_of_ble_eq_true rfl) dL_law_1296 (fun H locs hP hS => ?_)
  refine W.eq (g2 := F0 m 1299 ls [_]) rfl ?_
  refine lv_aload_n C.1 C.2.1 dL_law_1299 rfl (lv_at hl 1 rfl) ?_
  obtain ⟨r2, M2, hE2, rfl, hM2, hW2⟩ := (m_digest (hM.up hU1)).ev
  refine lw_call C (c1 := 62) (k := 11) (As := []) (rest := [_]) hE2 (by decide) gl_168 rfl rfl (by decide) ⟨_, rfl⟩ rfl ⟨by decide, by decide⟩ hP hS hl.1 (Nat.le_of_ble_eq_true rfl) dL_law_1300 (fun H locs hP hS => ?_)
  refine W.lcmp C.1 C.2.1 dL_law_1303 ?_
  refine lv_if_eq (tgt := 1309) C.1 C.2.1 dL_law_1304 (by decide) (fun _ => ?_) (fun q => absurd (show lg_cmp _ _ = nI 0 from (cmp_0).mpr rfl) q)
  exact K _ M2 H locs (hC1.low hW2) hM2 hP hS
end LR
