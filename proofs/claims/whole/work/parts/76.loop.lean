/-! THE LAW: its loop -/
section LOOP
variable {X : sw_X} {aL aM b N : Nat} {xs : Nat → Int32} {p : Program} {e : Env} {s : State} {m : MethodId} {below : List Frame} {meth : Method} {c : Code} {σ : sw_Sg} {i : Nat}

theorem L_case0 (C : LC X aL aM b N xs p s m meth c) (hi : i + 4 ≤ N) (h : J_ σ) (kk : ∀ w, J_ w → LW X b p e s m below meth c 658 [.ref b, .ref (sw_ad X 0), .ref (sw_ad X 59), .int (nI i)] [] w) : LW X b p e s m below meth c 128 [.ref b, .ref (sw_ad X 0), .ref (sw_ad X 59), .int (nI i)] [] σ := by
  have N2 : N ≤ 2048 := C.le
  obtain ⟨d1, RC, hd1, hC1, h1⟩ := P_seed (X := X) (x := xs (i + 1)) h
  have hb1 : ∀ (U : State) (g : JFrame) (mk : MethodId) (a : Array Value), sw_E0 U → sw_E0 (U.calling g mk a) := fun _ _ _ _ _ => trivial
  have hE1 : ∀ H : Heap, va_S (fun q => s.heap.size ≤ q) s.heap H [] → ∀ U : State, U.heap = H → s.WarmedH U.vm → sw_E0 U := fun _ _ _ _ _ => trivial
  refine LW.aload_n C (i := 1) dL_law_128 rfl rfl rfl ?_
  refine LW.arg C (j := 1) (i := i) (by omega) dL_law_129 dL_law_130 dL_law_131 (by decide) dL_law_132 dL_law_133 rfl ?_
  refine LW.call C hC1 hb1 hE1 vL_13 hd1 rfl rfl rfl rfl (Nat.le_of_ble_eq_true rfl) dL_law_134 rfl (fun v1 u r1 => ?_)
  obtain ⟨d2, RM, hd2, hC2, h2⟩ := h1 v1 u r1
  refine LW.aload_n C (i := 2) dL_law_137 rfl rfl rfl ?_
  refine LW.arg C (j := 1) (i := i) (by omega) dL_law_138 dL_law_139 dL_law_140 (by decide) dL_law_141 dL_law_142 rfl ?_
  refine LW.call C hC2 (fun _ _ _ _ _ => trivial) (fun _ _ _ _ _ => trivial) vL_17 hd2 rfl rfl rfl rfl (Nat.le_of_ble_eq_true rfl) dL_law_143 rfl (fun v2 w r2 => ?_)
  obtain ⟨ev, hJ⟩ := h2 v2 w r2
  refine LW.icmp_eq C (tgt := 658) dL_law_146 (by decide) rfl (fun _ => ?_) (fun z => absurd ev z)
  exact kk w hJ

theorem L_case1 (C : LC X aL aM b N xs p s m meth c) (hi : i + 4 ≤ N) (h : J_ σ) (kk : ∀ w, J_ w → LW X b p e s m below meth c 658 [.ref b, .ref (sw_ad X 0), .ref (sw_ad X 59), .int (nI i)] [] w) : LW X b p e s m below meth c 151 [.ref b, .ref (sw_ad X 0), .ref (sw_ad X 59), .int (nI i)] [] σ := by
  have N2 : N ≤ 2048 := C.le
  obtain ⟨d1, RC, hd1, hC1, h1⟩ := P_ground (X := X) (x := xs (i + 1)) (y := xs (i + 2)) h
  have hb1 : ∀ (U : State) (g : JFrame) (mk : MethodId) (a : Array Value), sw_E0 U → sw_E0 (U.calling g mk a) := fun _ _ _ _ _ => trivial
  have hE1 : ∀ H : Heap, va_S (fun q => s.heap.size ≤ q) s.heap H [] → ∀ U : State, U.heap = H → s.WarmedH U.vm → sw_E0 U := fun _ _ _ _ _ => trivial
  refine LW.aload_n C (i := 1) dL_law_151 rfl rfl rfl ?_
  refine LW.arg C (j := 1) (i := i) (by omega) dL_law_152 dL_law_153 dL_law_154 (by decide) dL_law_155 dL_law_156 rfl ?_
  refine LW.arg C (j := 2) (i := i) (by omega) dL_law_157 dL_law_158 dL_law_159 (by decide) dL_law_160 dL_law_161 rfl ?_
  refine LW.call C hC1 hb1 hE1 vL_18 hd1 rfl rfl rfl rfl (Nat.le_of_ble_eq_true rfl) dL_law_162 rfl (fun v1 u r1 => ?_)
  obtain ⟨d2, RM, hd2, hC2, h2⟩ := h1 v1 u r1
  refine LW.aload_n C (i := 2) dL_law_165 rfl rfl rfl ?_
  refine LW.arg C (j := 1) (i := i) (by omega) dL_law_166 dL_law_167 dL_law_168 (by decide) dL_law_169 dL_law_170 rfl ?_
  refine LW.arg C (j := 2) (i := i) (by omega) dL_law_171 dL_law_172 dL_law_173 (by decide) dL_law_174 dL_law_175 rfl ?_
  refine LW.call C hC2 (fun _ _ _ _ _ => trivial) (fun _ _ _ _ _ => trivial) vL_22 hd2 rfl rfl rfl rfl (Nat.le_of_ble_eq_true rfl) dL_law_176 rfl (fun v2 w r2 => ?_)
  obtain ⟨ev, hJ⟩ := h2 v2 w r2
  refine LW.icmp_eq C (tgt := 658) dL_law_179 (by decide) rfl (fun _ => ?_) (fun z => absurd ev z)
  exact kk w hJ

theorem L_case2 (C : LC X aL aM b N xs p s m meth c) (hi : i + 4 ≤ N) (h : J_ σ) (kk : ∀ w, J_ w → LW X b p e s m below meth c 658 [.ref b, .ref (sw_ad X 0), .ref (sw_ad X 59), .int (nI i)] [] w) : LW X b p e s m below meth c 184 [.ref b, .ref (sw_ad X 0), .ref (sw_ad X 59), .int (nI i)] [] σ := by
  have N2 : N ≤ 2048 := C.le
  obtain ⟨d1, RC, hd1, hC1, h1⟩ := P_size (X := X) (x := xs (i + 1)) h
  have hb1 : ∀ (U : State) (g : JFrame) (mk : MethodId) (a : Array Value), sw_E0 U → sw_E0 (U.calling g mk a) := fun _ _ _ _ _ => trivial
  have hE1 : ∀ H : Heap, va_S (fun q => s.heap.size ≤ q) s.heap H [] → ∀ U : State, U.heap = H → s.WarmedH U.vm → sw_E0 U := fun _ _ _ _ _ => trivial
  refine LW.aload_n C (i := 1) dL_law_184 rfl rfl rfl ?_
  refine LW.arg C (j := 1) (i := i) (by omega) dL_law_185 dL_law_186 dL_law_187 (by decide) dL_law_188 dL_law_189 rfl ?_
  refine LW.call C hC1 hb1 hE1 vL_23 hd1 rfl rfl rfl rfl (Nat.le_of_ble_eq_true rfl) dL_law_190 rfl (fun v1 u r1 => ?_)
  obtain ⟨d2, RM, hd2, hC2, h2⟩ := h1 v1 u r1
  refine LW.aload_n C (i := 2) dL_law_193 rfl rfl rfl ?_
  refine LW.arg C (j := 1) (i := i) (by omega) dL_law_194 dL_law_195 dL_law_196 (by decide) dL_law_197 dL_law_198 rfl ?_
  refine LW.call C hC2 (fun _ _ _ _ _ => trivial) (fun _ _ _ _ _ => trivial) vL_26 hd2 rfl rfl rfl rfl (Nat.le_of_ble_eq_true rfl) dL_law_199 rfl (fun v2 w r2 => ?_)
  obtain ⟨ev, hJ⟩ := h2 v2 w r2
  refine LW.icmp_eq C (tgt := 658) dL_law_202 (by decide) rfl (fun _ => ?_) (fun z => absurd ev z)
  exact kk w hJ

theorem L_case3 (C : LC X aL aM b N xs p s m meth c) (hi : i + 4 ≤ N) (h : J_ σ) (kk : ∀ w, J_ w → LW X b p e s m below meth c 658 [.ref b, .ref (sw_ad X 0), .ref (sw_ad X 59), .int (nI i)] [] w) : LW X b p e s m below meth c 207 [.ref b, .ref (sw_ad X 0), .ref (sw_ad X 59), .int (nI i)] [] σ := by
  have N2 : N ≤ 2048 := C.le
  obtain ⟨d1, RC, hd1, hC1, h1⟩ := P_window (X := X) (x := xs (i + 1)) (y := xs (i + 2)) h
  have hb1 : ∀ (U : State) (g : JFrame) (mk : MethodId) (a : Array Value), sw_E0 U → sw_E0 (U.calling g mk a) := fun _ _ _ _ _ => trivial
  have hE1 : ∀ H : Heap, va_S (fun q => s.heap.size ≤ q) s.heap H [] → ∀ U : State, U.heap = H → s.WarmedH U.vm → sw_E0 U := fun _ _ _ _ _ => trivial
  refine LW.aload_n C (i := 1) dL_law_207 rfl rfl rfl ?_
  refine LW.arg C (j := 1) (i := i) (by omega) dL_law_208 dL_law_209 dL_law_210 (by decide) dL_law_211 dL_law_212 rfl ?_
  refine LW.arg C (j := 2) (i := i) (by omega) dL_law_213 dL_law_214 dL_law_215 (by decide) dL_law_216 dL_law_217 rfl ?_
  refine LW.call C hC1 hb1 hE1 vL_27 hd1 rfl rfl rfl rfl (Nat.le_of_ble_eq_true rfl) dL_law_218 rfl (fun v1 u r1 => ?_)
  obtain ⟨d2, RM, hd2, hC2, h2⟩ := h1 v1 u r1
  refine LW.aload_n C (i := 2) dL_law_221 rfl rfl rfl ?_
  refine LW.arg C (j := 1) (i := i) (by omega) dL_law_222 dL_law_223 dL_law_224 (by decide) dL_law_225 dL_law_226 rfl ?_
  refine LW.arg C (j := 2) (i := i) (by omega) dL_law_227 dL_law_228 dL_law_229 (by decide) dL_law_230 dL_law_231 rfl ?_
  refine LW.call C hC2 (fun _ _ _ _ _ => trivial) (fun _ _ _ _ _ => trivial) vL_30 hd2 rfl rfl rfl rfl (Nat.le_of_ble_eq_true rfl) dL_law_232 rfl (fun v2 w r2 => ?_)
  obtain ⟨ev, hJ⟩ := h2 v2 w r2
  refine LW.icmp_eq C (tgt := 658) dL_law_235 (by decide) rfl (fun _ => ?_) (fun z => absurd ev z)
  exact kk w hJ

theorem L_case4 (C : LC X aL aM b N xs p s m meth c) (hi : i + 4 ≤ N) (h : J_ σ) (kk : ∀ w, J_ w → LW X b p e s m below meth c 658 [.ref b, .ref (sw_ad X 0), .ref (sw_ad X 59), .int (nI i)] [] w) : LW X b p e s m below meth c 240 [.ref b, .ref (sw_ad X 0), .ref (sw_ad X 59), .int (nI i)] [] σ := by
  have N2 : N ≤ 2048 := C.le
  obtain ⟨d1, RC, hd1, hC1, h1⟩ := P_change (X := X) (x := xs (i + 1)) (y := xs (i + 2)) h
  have hb1 : ∀ (U : State) (g : JFrame) (mk : MethodId) (a : Array Value), sw_E0 U → sw_E0 (U.calling g mk a) := fun _ _ _ _ _ => trivial
  have hE1 : ∀ H : Heap, va_S (fun q => s.heap.size ≤ q) s.heap H [] → ∀ U : State, U.heap = H → s.WarmedH U.vm → sw_E0 U := fun _ _ _ _ _ => trivial
  refine LW.aload_n C (i := 1) dL_law_240 rfl rfl rfl ?_
  refine LW.arg C (j := 1) (i := i) (by omega) dL_law_241 dL_law_242 dL_law_243 (by decide) dL_law_244 dL_law_245 rfl ?_
  refine LW.arg C (j := 2) (i := i) (by omega) dL_law_246 dL_law_247 dL_law_248 (by decide) dL_law_249 dL_law_250 rfl ?_
  refine LW.call C hC1 hb1 hE1 vL_31 hd1 rfl rfl rfl rfl (Nat.le_of_ble_eq_true rfl) dL_law_251 rfl (fun v1 u r1 => ?_)
  obtain ⟨d2, RM, hd2, hC2, h2⟩ := h1 v1 u r1
  refine LW.aload_n C (i := 2) dL_law_254 rfl rfl rfl ?_
  refine LW.arg C (j := 1) (i := i) (by omega) dL_law_255 dL_law_256 dL_law_257 (by decide) dL_law_258 dL_law_259 rfl ?_
  refine LW.arg C (j := 2) (i := i) (by omega) dL_law_260 dL_law_261 dL_law_262 (by decide) dL_law_263 dL_law_264 rfl ?_
  refine LW.call C hC2 (fun _ _ _ _ _ => trivial) (fun _ _ _ _ _ => trivial) vL_34 hd2 rfl rfl rfl rfl (Nat.le_of_ble_eq_true rfl) dL_law_265 rfl (fun v2 w r2 => ?_)
  obtain ⟨ev, hJ⟩ := h2 v2 w r2
  refine LW.icmp_eq C (tgt := 658) dL_law_268 (by decide) rfl (fun _ => ?_) (fun z => absurd ev z)
  exact kk w hJ

theorem L_case5 (C : LC X aL aM b N xs p s m meth c) (hi : i + 4 ≤ N) (h : J_ σ) (kk : ∀ w, J_ w → LW X b p e s m below meth c 658 [.ref b, .ref (sw_ad X 0), .ref (sw_ad X 59), .int (nI i)] [] w) : LW X b p e s m below meth c 273 [.ref b, .ref (sw_ad X 0), .ref (sw_ad X 59), .int (nI i)] [] σ := by
  have N2 : N ≤ 2048 := C.le
  obtain ⟨d1, RC, hd1, hC1, h1⟩ := P_changed (X := X) (x := xs (i + 1)) (what := xs (i + 2)) h
  have hb1 : ∀ (U : State) (g : JFrame) (mk : MethodId) (a : Array Value), sw_E0 U → sw_E0 (U.calling g mk a) := fun _ _ _ _ _ => trivial
  have hE1 : ∀ H : Heap, va_S (fun q => s.heap.size ≤ q) s.heap H [] → ∀ U : State, U.heap = H → s.WarmedH U.vm → sw_E0 U := fun _ _ _ _ _ => trivial
  refine LW.aload_n C (i := 1) dL_law_273 rfl rfl rfl ?_
  refine LW.arg C (j := 1) (i := i) (by omega) dL_law_274 dL_law_275 dL_law_276 (by decide) dL_law_277 dL_law_278 rfl ?_
  refine LW.arg C (j := 2) (i := i) (by omega) dL_law_279 dL_law_280 dL_law_281 (by decide) dL_law_282 dL_law_283 rfl ?_
  refine LW.call C hC1 hb1 hE1 vL_35 hd1 rfl rfl rfl rfl (Nat.le_of_ble_eq_true rfl) dL_law_284 rfl (fun v1 u r1 => ?_)
  obtain ⟨d2, RM, hd2, hC2, h2⟩ := h1 v1 u r1
  refine LW.aload_n C (i := 2) dL_law_287 rfl rfl rfl ?_
  refine LW.arg C (j := 1) (i := i) (by omega) dL_law_288 dL_law_289 dL_law_290 (by decide) dL_law_291 dL_law_292 rfl ?_
  refine LW.arg C (j := 2) (i := i) (by omega) dL_law_293 dL_law_294 dL_law_295 (by decide) dL_law_296 dL_law_297 rfl ?_
  refine LW.call C hC2 (fun _ _ _ _ _ => trivial) (fun _ _ _ _ _ => trivial) vL_38 hd2 rfl rfl rfl rfl (Nat.le_of_ble_eq_true rfl) dL_law_298 rfl (fun v2 w r2 => ?_)
  obtain ⟨ev, hJ⟩ := h2 v2 w r2
  refine LW.icmp_eq C (tgt := 658) dL_law_301 (by decide) rfl (fun _ => ?_) (fun z => absurd ev z)
  exact kk w hJ

theorem L_case6 (C : LC X aL aM b N xs p s m meth c) (hi : i + 4 ≤ N) (h : J_ σ) (kk : ∀ w, J_ w → LW X b p e s m below meth c 658 [.ref b, .ref (sw_ad X 0), .ref (sw_ad X 59), .int (nI i)] [] w) : LW X b p e s m below meth c 306 [.ref b, .ref (sw_ad X 0), .ref (sw_ad X 59), .int (nI i)] [] σ := by
  have N2 : N ≤ 2048 := C.le
  obtain ⟨d1, RC, hd1, hC1, h1⟩ := P_undo (X := X) h
  have hb1 : ∀ (U : State) (g : JFrame) (mk : MethodId) (a : Array Value), sw_E0 U → sw_E0 (U.calling g mk a) := fun _ _ _ _ _ => trivial
  have hE1 : ∀ H : Heap, va_S (fun q => s.heap.size ≤ q) s.heap H [] → ∀ U : State, U.heap = H → s.WarmedH U.vm → sw_E0 U := fun _ _ _ _ _ => trivial
  refine LW.aload_n C (i := 1) dL_law_306 rfl rfl rfl ?_
  refine LW.call C hC1 hb1 hE1 vL_39 hd1 rfl rfl rfl rfl (Nat.le_of_ble_eq_true rfl) dL_law_307 rfl (fun v1 u r1 => ?_)
  obtain ⟨d2, RM, hd2, hC2, h2⟩ := h1 v1 u r1
  refine LW.aload_n C (i := 2) dL_law_310 rfl rfl rfl ?_
  refine LW.call C hC2 (fun _ _ _ _ _ => trivial) (fun _ _ _ _ _ => trivial) vL_43 hd2 rfl rfl rfl rfl (Nat.le_of_ble_eq_true rfl) dL_law_311 rfl (fun v2 w r2 => ?_)
  obtain ⟨ev, hJ⟩ := h2 v2 w r2
  refine LW.icmp_eq C (tgt := 658) dL_law_314 (by decide) rfl (fun _ => ?_) (fun z => absurd ev z)
  exact kk w hJ

theorem L_case7 (C : LC X aL aM b N xs p s m meth c) (hi : i + 4 ≤ N) (h : J_ σ) (kk : ∀ w, J_ w → LW X b p e s m below meth c 658 [.ref b, .ref (sw_ad X 0), .ref (sw_ad X 59), .int (nI i)] [] w) : LW X b p e s m below meth c 319 [.ref b, .ref (sw_ad X 0), .ref (sw_ad X 59), .int (nI i)] [] σ := by
  have N2 : N ≤ 2048 := C.le
  obtain ⟨RC, hC1, h1⟩ := P_rule (X := X) (aL := aL) (aM := aM) (what := xs (i + 1)) (y := xs (i + 2)) h
  have hd1 : 2 ≤ 6 := by omega
  have hb1 : ∀ (U : State) (g : JFrame) (mk : MethodId) (a : Array Value), ra_E X aL aM U → ra_E X aL aM (U.calling g mk a) := ra_E_call
  have hE1 := C.stat
  refine LW.aload_n C (i := 1) dL_law_319 rfl rfl rfl ?_
  refine LW.arg C (j := 1) (i := i) (by omega) dL_law_320 dL_law_321 dL_law_322 (by decide) dL_law_323 dL_law_324 rfl ?_
  refine LW.arg C (j := 2) (i := i) (by omega) dL_law_325 dL_law_326 dL_law_327 (by decide) dL_law_328 dL_law_329 rfl ?_
  refine LW.call C hC1 hb1 hE1 vL_44 hd1 rfl rfl rfl rfl (Nat.le_of_ble_eq_true rfl) dL_law_330 rfl (fun v1 u r1 => ?_)
  obtain ⟨d2, RM, hd2, hC2, h2⟩ := h1 v1 u r1
  refine LW.aload_n C (i := 2) dL_law_333 rfl rfl rfl ?_
  refine LW.arg C (j := 1) (i := i) (by omega) dL_law_334 dL_law_335 dL_law_336 (by decide) dL_law_337 dL_law_338 rfl ?_
  refine LW.arg C (j := 2) (i := i) (by omega) dL_law_339 dL_law_340 dL_law_341 (by decide) dL_law_342 dL_law_343 rfl ?_
  refine LW.call C hC2 (fun _ _ _ _ _ => trivial) (fun _ _ _ _ _ => trivial) vL_47 hd2 rfl rfl rfl rfl (Nat.le_of_ble_eq_true rfl) dL_law_344 rfl (fun v2 w r2 => ?_)
  obtain ⟨ev, hJ⟩ := h2 v2 w r2
  refine LW.icmp_eq C (tgt := 658) dL_law_347 (by decide) rfl (fun _ => ?_) (fun z => absurd ev z)
  exact kk w hJ

theorem L_case8 (C : LC X aL aM b N xs p s m meth c) (hi : i + 4 ≤ N) (h : J_ σ) (kk : ∀ w, J_ w → LW X b p e s m below meth c 658 [.ref b, .ref (sw_ad X 0), .ref (sw_ad X 59), .int (nI i)] [] w) : LW X b p e s m below meth c 352 [.ref b, .ref (sw_ad X 0), .ref (sw_ad X 59), .int (nI i)] [] σ := by
  have N2 : N ≤ 2048 := C.le
  obtain ⟨d1, RC, hd1, hC1, h1⟩ := P_about (X := X) (x := xs (i + 1)) (what := xs (i + 2)) h
  have hb1 : ∀ (U : State) (g : JFrame) (mk : MethodId) (a : Array Value), sw_E0 U → sw_E0 (U.calling g mk a) := fun _ _ _ _ _ => trivial
  have hE1 : ∀ H : Heap, va_S (fun q => s.heap.size ≤ q) s.heap H [] → ∀ U : State, U.heap = H → s.WarmedH U.vm → sw_E0 U := fun _ _ _ _ _ => trivial
  refine LW.aload_n C (i := 1) dL_law_352 rfl rfl rfl ?_
  refine LW.arg C (j := 1) (i := i) (by omega) dL_law_353 dL_law_354 dL_law_355 (by decide) dL_law_356 dL_law_357 rfl ?_
  refine LW.arg C (j := 2) (i := i) (by omega) dL_law_358 dL_law_359 dL_law_360 (by decide) dL_law_361 dL_law_362 rfl ?_
  refine LW.call C hC1 hb1 hE1 vL_48 hd1 rfl rfl rfl rfl (Nat.le_of_ble_eq_true rfl) dL_law_363 rfl (fun v1 u r1 => ?_)
  obtain ⟨d2, RM, hd2, hC2, h2⟩ := h1 v1 u r1
  refine LW.aload_n C (i := 2) dL_law_366 rfl rfl rfl ?_
  refine LW.arg C (j := 1) (i := i) (by omega) dL_law_367 dL_law_368 dL_law_369 (by decide) dL_law_370 dL_law_371 rfl ?_
  refine LW.arg C (j := 2) (i := i) (by omega) dL_law_372 dL_law_373 dL_law_374 (by decide) dL_law_375 dL_law_376 rfl ?_
  refine LW.call C hC2 (fun _ _ _ _ _ => trivial) (fun _ _ _ _ _ => trivial) vL_51 hd2 rfl rfl rfl rfl (Nat.le_of_ble_eq_true rfl) dL_law_377 rfl (fun v2 w r2 => ?_)
  obtain ⟨ev, hJ⟩ := h2 v2 w r2
  refine LW.icmp_eq C (tgt := 658) dL_law_380 (by decide) rfl (fun _ => ?_) (fun z => absurd ev z)
  exact kk w hJ

theorem L_case9 (C : LC X aL aM b N xs p s m meth c) (hi : i + 4 ≤ N) (h : J_ σ) (kk : ∀ w, J_ w → LW X b p e s m below meth c 658 [.ref b, .ref (sw_ad X 0), .ref (sw_ad X 59), .int (nI i)] [] w) : LW X b p e s m below meth c 385 [.ref b, .ref (sw_ad X 0), .ref (sw_ad X 59), .int (nI i)] [] σ := by
  have N2 : N ≤ 2048 := C.le
  obtain ⟨d1, RC, hd1, hC1, h1⟩ := P_is (X := X) (x := xs (i + 1)) h
  have hb1 : ∀ (U : State) (g : JFrame) (mk : MethodId) (a : Array Value), sw_E0 U → sw_E0 (U.calling g mk a) := fun _ _ _ _ _ => trivial
  have hE1 : ∀ H : Heap, va_S (fun q => s.heap.size ≤ q) s.heap H [] → ∀ U : State, U.heap = H → s.WarmedH U.vm → sw_E0 U := fun _ _ _ _ _ => trivial
  refine LW.aload_n C (i := 1) dL_law_385 rfl rfl rfl ?_
  refine LW.arg C (j := 1) (i := i) (by omega) dL_law_386 dL_law_387 dL_law_388 (by decide) dL_law_389 dL_law_390 rfl ?_
  refine LW.call C hC1 hb1 hE1 vL_52 hd1 rfl rfl rfl rfl (Nat.le_of_ble_eq_true rfl) dL_law_391 rfl (fun v1 u r1 => ?_)
  obtain ⟨d2, RM, hd2, hC2, h2⟩ := h1 v1 u r1
  refine LW.aload_n C (i := 2) dL_law_394 rfl rfl rfl ?_
  refine LW.arg C (j := 1) (i := i) (by omega) dL_law_395 dL_law_396 dL_law_397 (by decide) dL_law_398 dL_law_399 rfl ?_
  refine LW.call C hC2 (fun _ _ _ _ _ => trivial) (fun _ _ _ _ _ => trivial) vL_55 hd2 rfl rfl rfl rfl (Nat.le_of_ble_eq_true rfl) dL_law_400 rfl (fun v2 w r2 => ?_)
  obtain ⟨ev, hJ⟩ := h2 v2 w r2
  refine LW.icmp_eq C (tgt := 658) dL_law_403 (by decide) rfl (fun _ => ?_) (fun z => absurd ev z)
  exact kk w hJ

theorem L_case10 (C : LC X aL aM b N xs p s m meth c) (hi : i + 4 ≤ N) (h : J_ σ) (kk : ∀ w, J_ w → LW X b p e s m below meth c 658 [.ref b, .ref (sw_ad X 0), .ref (sw_ad X 59), .int (nI i)] [] w) : LW X b p e s m below meth c 408 [.ref b, .ref (sw_ad X 0), .ref (sw_ad X 59), .int (nI i)] [] σ := by
  have N2 : N ≤ 2048 := C.le
  obtain ⟨d1, RC, hd1, hC1, h1⟩ := P_many (X := X) (what := xs (i + 1)) h
  have hb1 : ∀ (U : State) (g : JFrame) (mk : MethodId) (a : Array Value), sw_E0 U → sw_E0 (U.calling g mk a) := fun _ _ _ _ _ => trivial
  have hE1 : ∀ H : Heap, va_S (fun q => s.heap.size ≤ q) s.heap H [] → ∀ U : State, U.heap = H → s.WarmedH U.vm → sw_E0 U := fun _ _ _ _ _ => trivial
  refine LW.aload_n C (i := 1) dL_law_408 rfl rfl rfl ?_
  refine LW.arg C (j := 1) (i := i) (by omega) dL_law_409 dL_law_410 dL_law_411 (by decide) dL_law_412 dL_law_413 rfl ?_
  refine LW.call C hC1 hb1 hE1 vL_56 hd1 rfl rfl rfl rfl (Nat.le_of_ble_eq_true rfl) dL_law_414 rfl (fun v1 u r1 => ?_)
  obtain ⟨d2, RM, hd2, hC2, h2⟩ := h1 v1 u r1
  refine LW.aload_n C (i := 2) dL_law_417 rfl rfl rfl ?_
  refine LW.arg C (j := 1) (i := i) (by omega) dL_law_418 dL_law_419 dL_law_420 (by decide) dL_law_421 dL_law_422 rfl ?_
  refine LW.call C hC2 (fun _ _ _ _ _ => trivial) (fun _ _ _ _ _ => trivial) vL_59 hd2 rfl rfl rfl rfl (Nat.le_of_ble_eq_true rfl) dL_law_423 rfl (fun v2 w r2 => ?_)
  obtain ⟨ev, hJ⟩ := h2 v2 w r2
  refine LW.icmp_eq C (tgt := 658) dL_law_426 (by decide) rfl (fun _ => ?_) (fun z => absurd ev z)
  exact kk w hJ

theorem L_case11 (C : LC X aL aM b N xs p s m meth c) (hi : i + 4 ≤ N) (h : J_ σ) (kk : ∀ w, J_ w → LW X b p e s m below meth c 658 [.ref b, .ref (sw_ad X 0), .ref (sw_ad X 59), .int (nI i)] [] w) : LW X b p e s m below meth c 431 [.ref b, .ref (sw_ad X 0), .ref (sw_ad X 59), .int (nI i)] [] σ := by
  have N2 : N ≤ 2048 := C.le
  obtain ⟨d1, RC, hd1, hC1, h1⟩ := P_lakes (X := X) h
  have hb1 : ∀ (U : State) (g : JFrame) (mk : MethodId) (a : Array Value), sw_E0 U → sw_E0 (U.calling g mk a) := fun _ _ _ _ _ => trivial
  have hE1 : ∀ H : Heap, va_S (fun q => s.heap.size ≤ q) s.heap H [] → ∀ U : State, U.heap = H → s.WarmedH U.vm → sw_E0 U := fun _ _ _ _ _ => trivial
  refine LW.aload_n C (i := 1) dL_law_431 rfl rfl rfl ?_
  refine LW.call C hC1 hb1 hE1 vL_60 hd1 rfl rfl rfl rfl (Nat.le_of_ble_eq_true rfl) dL_law_432 rfl (fun v1 u r1 => ?_)
  obtain ⟨d2, RM, hd2, hC2, h2⟩ := h1 v1 u r1
  refine LW.aload_n C (i := 2) dL_law_435 rfl rfl rfl ?_
  refine LW.call C hC2 (fun _ _ _ _ _ => trivial) (fun _ _ _ _ _ => trivial) vL_63 hd2 rfl rfl rfl rfl (Nat.le_of_ble_eq_true rfl) dL_law_436 rfl (fun v2 w r2 => ?_)
  obtain ⟨ev, hJ⟩ := h2 v2 w r2
  refine LW.icmp_eq C (tgt := 658) dL_law_439 (by decide) rfl (fun _ => ?_) (fun z => absurd ev z)
  exact kk w hJ

theorem L_case12 (C : LC X aL aM b N xs p s m meth c) (hi : i + 4 ≤ N) (h : J_ σ) (kk : ∀ w, J_ w → LW X b p e s m below meth c 658 [.ref b, .ref (sw_ad X 0), .ref (sw_ad X 59), .int (nI i)] [] w) : LW X b p e s m below meth c 444 [.ref b, .ref (sw_ad X 0), .ref (sw_ad X 59), .int (nI i)] [] σ := by
  have N2 : N ≤ 2048 := C.le
  obtain ⟨d1, RC, hd1, hC1, h1⟩ := P_lake (X := X) (x := xs (i + 1)) h
  have hb1 : ∀ (U : State) (g : JFrame) (mk : MethodId) (a : Array Value), sw_E0 U → sw_E0 (U.calling g mk a) := fun _ _ _ _ _ => trivial
  have hE1 : ∀ H : Heap, va_S (fun q => s.heap.size ≤ q) s.heap H [] → ∀ U : State, U.heap = H → s.WarmedH U.vm → sw_E0 U := fun _ _ _ _ _ => trivial
  refine LW.aload_n C (i := 1) dL_law_444 rfl rfl rfl ?_
  refine LW.arg C (j := 1) (i := i) (by omega) dL_law_445 dL_law_446 dL_law_447 (by decide) dL_law_448 dL_law_449 rfl ?_
  refine LW.call C hC1 hb1 hE1 vL_64 hd1 rfl rfl rfl rfl (Nat.le_of_ble_eq_true rfl) dL_law_450 rfl (fun v1 u r1 => ?_)
  obtain ⟨d2, RM, hd2, hC2, h2⟩ := h1 v1 u r1
  refine LW.aload_n C (i := 2) dL_law_453 rfl rfl rfl ?_
  refine LW.arg C (j := 1) (i := i) (by omega) dL_law_454 dL_law_455 dL_law_456 (by decide) dL_law_457 dL_law_458 rfl ?_
  refine LW.call C hC2 (fun _ _ _ _ _ => trivial) (fun _ _ _ _ _ => trivial) vL_67 hd2 rfl rfl rfl rfl (Nat.le_of_ble_eq_true rfl) dL_law_459 rfl (fun v2 w r2 => ?_)
  obtain ⟨ev, hJ⟩ := h2 v2 w r2
  refine LW.icmp_eq C (tgt := 658) dL_law_462 (by decide) rfl (fun _ => ?_) (fun z => absurd ev z)
  exact kk w hJ

theorem L_case13 (C : LC X aL aM b N xs p s m meth c) (hi : i + 4 ≤ N) (h : J_ σ) (kk : ∀ w, J_ w → LW X b p e s m below meth c 658 [.ref b, .ref (sw_ad X 0), .ref (sw_ad X 59), .int (nI i)] [] w) : LW X b p e s m below meth c 467 [.ref b, .ref (sw_ad X 0), .ref (sw_ad X 59), .int (nI i)] [] σ := by
  have N2 : N ≤ 2048 := C.le
  obtain ⟨d1, RC, hd1, hC1, h1⟩ := P_towns (X := X) (x := xs (i + 1)) h
  have hb1 : ∀ (U : State) (g : JFrame) (mk : MethodId) (a : Array Value), sw_E0 U → sw_E0 (U.calling g mk a) := fun _ _ _ _ _ => trivial
  have hE1 : ∀ H : Heap, va_S (fun q => s.heap.size ≤ q) s.heap H [] → ∀ U : State, U.heap = H → s.WarmedH U.vm → sw_E0 U := fun _ _ _ _ _ => trivial
  refine LW.aload_n C (i := 1) dL_law_467 rfl rfl rfl ?_
  refine LW.arg C (j := 1) (i := i) (by omega) dL_law_468 dL_law_469 dL_law_470 (by decide) dL_law_471 dL_law_472 rfl ?_
  refine LW.call C hC1 hb1 hE1 vL_68 hd1 rfl rfl rfl rfl (Nat.le_of_ble_eq_true rfl) dL_law_473 rfl (fun v1 u r1 => ?_)
  obtain ⟨d2, RM, hd2, hC2, h2⟩ := h1 v1 u r1
  refine LW.aload_n C (i := 2) dL_law_476 rfl rfl rfl ?_
  refine LW.arg C (j := 1) (i := i) (by omega) dL_law_477 dL_law_478 dL_law_479 (by decide) dL_law_480 dL_law_481 rfl ?_
  refine LW.call C hC2 (fun _ _ _ _ _ => trivial) (fun _ _ _ _ _ => trivial) vL_71 hd2 rfl rfl rfl rfl (Nat.le_of_ble_eq_true rfl) dL_law_482 rfl (fun v2 w r2 => ?_)
  obtain ⟨ev, hJ⟩ := h2 v2 w r2
  refine LW.icmp_eq C (tgt := 658) dL_law_485 (by decide) rfl (fun _ => ?_) (fun z => absurd ev z)
  exact kk w hJ

theorem L_case14 (C : LC X aL aM b N xs p s m meth c) (hi : i + 4 ≤ N) (h : J_ σ) (kk : ∀ w, J_ w → LW X b p e s m below meth c 658 [.ref b, .ref (sw_ad X 0), .ref (sw_ad X 59), .int (nI i)] [] w) : LW X b p e s m below meth c 490 [.ref b, .ref (sw_ad X 0), .ref (sw_ad X 59), .int (nI i)] [] σ := by
  have N2 : N ≤ 2048 := C.le
  obtain ⟨d1, RC, hd1, hC1, h1⟩ := P_town (X := X) (x := xs (i + 1)) h
  have hb1 : ∀ (U : State) (g : JFrame) (mk : MethodId) (a : Array Value), sw_E0 U → sw_E0 (U.calling g mk a) := fun _ _ _ _ _ => trivial
  have hE1 : ∀ H : Heap, va_S (fun q => s.heap.size ≤ q) s.heap H [] → ∀ U : State, U.heap = H → s.WarmedH U.vm → sw_E0 U := fun _ _ _ _ _ => trivial
  refine LW.aload_n C (i := 1) dL_law_490 rfl rfl rfl ?_
  refine LW.arg C (j := 1) (i := i) (by omega) dL_law_491 dL_law_492 dL_law_493 (by decide) dL_law_494 dL_law_495 rfl ?_
  refine LW.call C hC1 hb1 hE1 vL_72 hd1 rfl rfl rfl rfl (Nat.le_of_ble_eq_true rfl) dL_law_496 rfl (fun v1 u r1 => ?_)
  obtain ⟨d2, RM, hd2, hC2, h2⟩ := h1 v1 u r1
  refine LW.aload_n C (i := 2) dL_law_499 rfl rfl rfl ?_
  refine LW.arg C (j := 1) (i := i) (by omega) dL_law_500 dL_law_501 dL_law_502 (by decide) dL_law_503 dL_law_504 rfl ?_
  refine LW.call C hC2 (fun _ _ _ _ _ => trivial) (fun _ _ _ _ _ => trivial) vL_75 hd2 rfl rfl rfl rfl (Nat.le_of_ble_eq_true rfl) dL_law_505 rfl (fun v2 w r2 => ?_)
  obtain ⟨ev, hJ⟩ := h2 v2 w r2
  refine LW.icmp_eq C (tgt := 658) dL_law_508 (by decide) rfl (fun _ => ?_) (fun z => absurd ev z)
  exact kk w hJ

theorem L_case15 (C : LC X aL aM b N xs p s m meth c) (hi : i + 4 ≤ N) (h : J_ σ) (kk : ∀ w, J_ w → LW X b p e s m below meth c 658 [.ref b, .ref (sw_ad X 0), .ref (sw_ad X 59), .int (nI i)] [] w) : LW X b p e s m below meth c 513 [.ref b, .ref (sw_ad X 0), .ref (sw_ad X 59), .int (nI i)] [] σ := by
  have N2 : N ≤ 2048 := C.le
  obtain ⟨d1, RC, hd1, hC1, h1⟩ := P_cost (X := X) (x := xs (i + 1)) (y := xs (i + 2)) h
  have hb1 : ∀ (U : State) (g : JFrame) (mk : MethodId) (a : Array Value), sw_E0 U → sw_E0 (U.calling g mk a) := fun _ _ _ _ _ => trivial
  have hE1 : ∀ H : Heap, va_S (fun q => s.heap.size ≤ q) s.heap H [] → ∀ U : State, U.heap = H → s.WarmedH U.vm → sw_E0 U := fun _ _ _ _ _ => trivial
  refine LW.aload_n C (i := 1) dL_law_513 rfl rfl rfl ?_
  refine LW.arg C (j := 1) (i := i) (by omega) dL_law_514 dL_law_515 dL_law_516 (by decide) dL_law_517 dL_law_518 rfl ?_
  refine LW.arg C (j := 2) (i := i) (by omega) dL_law_519 dL_law_520 dL_law_521 (by decide) dL_law_522 dL_law_523 rfl ?_
  refine LW.call C hC1 hb1 hE1 vL_76 hd1 rfl rfl rfl rfl (Nat.le_of_ble_eq_true rfl) dL_law_524 rfl (fun v1 u r1 => ?_)
  obtain ⟨d2, RM, hd2, hC2, h2⟩ := h1 v1 u r1
  refine LW.aload_n C (i := 2) dL_law_527 rfl rfl rfl ?_
  refine LW.arg C (j := 1) (i := i) (by omega) dL_law_528 dL_law_529 dL_law_530 (by decide) dL_law_531 dL_law_532 rfl ?_
  refine LW.arg C (j := 2) (i := i) (by omega) dL_law_533 dL_law_534 dL_law_535 (by decide) dL_law_536 dL_law_537 rfl ?_
  refine LW.call C hC2 (fun _ _ _ _ _ => trivial) (fun _ _ _ _ _ => trivial) vL_79 hd2 rfl rfl rfl rfl (Nat.le_of_ble_eq_true rfl) dL_law_538 rfl (fun v2 w r2 => ?_)
  obtain ⟨ev, hJ⟩ := h2 v2 w r2
  refine LW.icmp_eq C (tgt := 658) dL_law_541 (by decide) rfl (fun _ => ?_) (fun z => absurd ev z)
  exact kk w hJ

theorem L_case16 (C : LC X aL aM b N xs p s m meth c) (hi : i + 4 ≤ N) (h : J_ σ) (kk : ∀ w, J_ w → LW X b p e s m below meth c 658 [.ref b, .ref (sw_ad X 0), .ref (sw_ad X 59), .int (nI i)] [] w) : LW X b p e s m below meth c 546 [.ref b, .ref (sw_ad X 0), .ref (sw_ad X 59), .int (nI i)] [] σ := by
  have N2 : N ≤ 2048 := C.le
  obtain ⟨d1, RC, hd1, hC1, h1⟩ := P_way (X := X) (x := xs (i + 1)) (y := xs (i + 2)) (z := xs (i + 3)) h
  have hb1 : ∀ (U : State) (g : JFrame) (mk : MethodId) (a : Array Value), sw_E0 U → sw_E0 (U.calling g mk a) := fun _ _ _ _ _ => trivial
  have hE1 : ∀ H : Heap, va_S (fun q => s.heap.size ≤ q) s.heap H [] → ∀ U : State, U.heap = H → s.WarmedH U.vm → sw_E0 U := fun _ _ _ _ _ => trivial
  refine LW.aload_n C (i := 1) dL_law_546 rfl rfl rfl ?_
  refine LW.arg C (j := 1) (i := i) (by omega) dL_law_547 dL_law_548 dL_law_549 (by decide) dL_law_550 dL_law_551 rfl ?_
  refine LW.arg C (j := 2) (i := i) (by omega) dL_law_552 dL_law_553 dL_law_554 (by decide) dL_law_555 dL_law_556 rfl ?_
  refine LW.arg C (j := 3) (i := i) (by omega) dL_law_557 dL_law_558 dL_law_559 (by decide) dL_law_560 dL_law_561 rfl ?_
  refine LW.call C hC1 hb1 hE1 vL_80 hd1 rfl rfl rfl rfl (Nat.le_of_ble_eq_true rfl) dL_law_562 rfl (fun v1 u r1 => ?_)
  obtain ⟨d2, RM, hd2, hC2, h2⟩ := h1 v1 u r1
  refine LW.aload_n C (i := 2) dL_law_565 rfl rfl rfl ?_
  refine LW.arg C (j := 1) (i := i) (by omega) dL_law_566 dL_law_567 dL_law_568 (by decide) dL_law_569 dL_law_570 rfl ?_
  refine LW.arg C (j := 2) (i := i) (by omega) dL_law_571 dL_law_572 dL_law_573 (by decide) dL_law_574 dL_law_575 rfl ?_
  refine LW.arg C (j := 3) (i := i) (by omega) dL_law_576 dL_law_577 dL_law_578 (by decide) dL_law_579 dL_law_580 rfl ?_
  refine LW.call C hC2 (fun _ _ _ _ _ => trivial) (fun _ _ _ _ _ => trivial) vL_84 hd2 rfl rfl rfl rfl (Nat.le_of_ble_eq_true rfl) dL_law_581 rfl (fun v2 w r2 => ?_)
  obtain ⟨ev, hJ⟩ := h2 v2 w r2
  refine LW.icmp_eq C (tgt := 658) dL_law_584 (by decide) rfl (fun _ => ?_) (fun z => absurd ev z)
  exact kk w hJ

theorem L_case17 (C : LC X aL aM b N xs p s m meth c) (hi : i + 4 ≤ N) (h : J_ σ) (kk : ∀ w, J_ w → LW X b p e s m below meth c 658 [.ref b, .ref (sw_ad X 0), .ref (sw_ad X 59), .int (nI i)] [] w) : LW X b p e s m below meth c 589 [.ref b, .ref (sw_ad X 0), .ref (sw_ad X 59), .int (nI i)] [] σ := by
  have N2 : N ≤ 2048 := C.le
  obtain ⟨d1, RC, hd1, hC1, h1⟩ := P_net (X := X) (what := xs (i + 1)) h
  have hb1 : ∀ (U : State) (g : JFrame) (mk : MethodId) (a : Array Value), sw_E0 U → sw_E0 (U.calling g mk a) := fun _ _ _ _ _ => trivial
  have hE1 : ∀ H : Heap, va_S (fun q => s.heap.size ≤ q) s.heap H [] → ∀ U : State, U.heap = H → s.WarmedH U.vm → sw_E0 U := fun _ _ _ _ _ => trivial
  refine LW.aload_n C (i := 1) dL_law_589 rfl rfl rfl ?_
  refine LW.arg C (j := 1) (i := i) (by omega) dL_law_590 dL_law_591 dL_law_592 (by decide) dL_law_593 dL_law_594 rfl ?_
  refine LW.call C hC1 hb1 hE1 vL_85 hd1 rfl rfl rfl rfl (Nat.le_of_ble_eq_true rfl) dL_law_595 rfl (fun v1 u r1 => ?_)
  obtain ⟨d2, RM, hd2, hC2, h2⟩ := h1 v1 u r1
  refine LW.aload_n C (i := 2) dL_law_598 rfl rfl rfl ?_
  refine LW.arg C (j := 1) (i := i) (by omega) dL_law_599 dL_law_600 dL_law_601 (by decide) dL_law_602 dL_law_603 rfl ?_
  refine LW.call C hC2 (fun _ _ _ _ _ => trivial) (fun _ _ _ _ _ => trivial) vL_88 hd2 rfl rfl rfl rfl (Nat.le_of_ble_eq_true rfl) dL_law_604 rfl (fun v2 w r2 => ?_)
  obtain ⟨ev, hJ⟩ := h2 v2 w r2
  refine LW.icmp_eq C (tgt := 658) dL_law_607 (by decide) rfl (fun _ => ?_) (fun z => absurd ev z)
  exact kk w hJ

theorem L_case18 (C : LC X aL aM b N xs p s m meth c) (hi : i + 4 ≤ N) (h : J_ σ) (kk : ∀ w, J_ w → LW X b p e s m below meth c 658 [.ref b, .ref (sw_ad X 0), .ref (sw_ad X 59), .int (nI i)] [] w) : LW X b p e s m below meth c 612 [.ref b, .ref (sw_ad X 0), .ref (sw_ad X 59), .int (nI i)] [] σ := by
  have N2 : N ≤ 2048 := C.le
  obtain ⟨d1, RC, hd1, hC1, h1⟩ := P_roads (X := X) (x := xs (i + 1)) h
  have hb1 : ∀ (U : State) (g : JFrame) (mk : MethodId) (a : Array Value), sw_E0 U → sw_E0 (U.calling g mk a) := fun _ _ _ _ _ => trivial
  have hE1 : ∀ H : Heap, va_S (fun q => s.heap.size ≤ q) s.heap H [] → ∀ U : State, U.heap = H → s.WarmedH U.vm → sw_E0 U := fun _ _ _ _ _ => trivial
  refine LW.aload_n C (i := 1) dL_law_612 rfl rfl rfl ?_
  refine LW.arg C (j := 1) (i := i) (by omega) dL_law_613 dL_law_614 dL_law_615 (by decide) dL_law_616 dL_law_617 rfl ?_
  refine LW.call C hC1 hb1 hE1 vL_89 hd1 rfl rfl rfl rfl (Nat.le_of_ble_eq_true rfl) dL_law_618 rfl (fun v1 u r1 => ?_)
  obtain ⟨d2, RM, hd2, hC2, h2⟩ := h1 v1 u r1
  refine LW.aload_n C (i := 2) dL_law_621 rfl rfl rfl ?_
  refine LW.arg C (j := 1) (i := i) (by omega) dL_law_622 dL_law_623 dL_law_624 (by decide) dL_law_625 dL_law_626 rfl ?_
  refine LW.call C hC2 (fun _ _ _ _ _ => trivial) (fun _ _ _ _ _ => trivial) vL_92 hd2 rfl rfl rfl rfl (Nat.le_of_ble_eq_true rfl) dL_law_627 rfl (fun v2 w r2 => ?_)
  obtain ⟨ev, hJ⟩ := h2 v2 w r2
  refine LW.icmp_eq C (tgt := 658) dL_law_630 (by decide) rfl (fun _ => ?_) (fun z => absurd ev z)
  exact kk w hJ

theorem L_case19 (C : LC X aL aM b N xs p s m meth c) (hi : i + 4 ≤ N) (h : J_ σ) (kk : ∀ w, J_ w → LW X b p e s m below meth c 658 [.ref b, .ref (sw_ad X 0), .ref (sw_ad X 59), .int (nI i)] [] w) : LW X b p e s m below meth c 635 [.ref b, .ref (sw_ad X 0), .ref (sw_ad X 59), .int (nI i)] [] σ := by
  have N2 : N ≤ 2048 := C.le
  obtain ⟨d1, RC, hd1, hC1, h1⟩ := P_told (X := X) (what := xs (i + 1)) h
  have hb1 : ∀ (U : State) (g : JFrame) (mk : MethodId) (a : Array Value), sw_E0 U → sw_E0 (U.calling g mk a) := fun _ _ _ _ _ => trivial
  have hE1 : ∀ H : Heap, va_S (fun q => s.heap.size ≤ q) s.heap H [] → ∀ U : State, U.heap = H → s.WarmedH U.vm → sw_E0 U := fun _ _ _ _ _ => trivial
  refine LW.aload_n C (i := 1) dL_law_635 rfl rfl rfl ?_
  refine LW.arg C (j := 1) (i := i) (by omega) dL_law_636 dL_law_637 dL_law_638 (by decide) dL_law_639 dL_law_640 rfl ?_
  refine LW.call C hC1 hb1 hE1 vL_93 hd1 rfl rfl rfl rfl (Nat.le_of_ble_eq_true rfl) dL_law_641 rfl (fun v1 u r1 => ?_)
  obtain ⟨d2, RM, hd2, hC2, h2⟩ := h1 v1 u r1
  refine LW.aload_n C (i := 2) dL_law_644 rfl rfl rfl ?_
  refine LW.arg C (j := 1) (i := i) (by omega) dL_law_645 dL_law_646 dL_law_647 (by decide) dL_law_648 dL_law_649 rfl ?_
  refine LW.call C hC2 (fun _ _ _ _ _ => trivial) (fun _ _ _ _ _ => trivial) vL_96 hd2 rfl rfl rfl rfl (Nat.le_of_ble_eq_true rfl) dL_law_650 rfl (fun v2 w r2 => ?_)
  obtain ⟨ev, hJ⟩ := h2 v2 w r2
  refine LW.icmp_eq C (tgt := 658) dL_law_653 (by decide) rfl (fun _ => ?_) (fun z => absurd ev z)
  exact kk w hJ

theorem law_loop (C : LC X aL aM b N xs p s m meth c) : ∀ (k i : Nat), i + k = N + 8 → i ≤ N + 4 → ∀ σ, J_ σ → LW X b p e s m below meth c 18 [.ref b, .ref (sw_ad X 0), .ref (sw_ad X 59), .int (nI i)] [] σ := by
  have N2 : N ≤ 2048 := C.le
  intro k
  induction k using Nat.strongRecOn with
  | ind k ih =>
    intro i hik hin σ h
    refine LW.iload_n C (i := 3) dL_law_18 rfl rfl rfl ?_
    refine LW.aload_n C (i := 0) dL_law_19 rfl rfl rfl ?_
    refine LW.slen C dL_law_20 rfl ?_
    refine LW.iconst C (v := 4) dL_law_21 (by decide) rfl ?_
    refine LW.isub C dL_law_22 rfl ?_
    refine LW.icmp_gt C (tgt := 664) dL_law_23 (by decide) rfl (fun c23 => ?_) (fun c23 => ?_)
    · refine LW.iconst C (v := 1) dL_law_664 (by decide) rfl ?_
      exact LW.ret C dL_law_665
    · have hi : i + 4 ≤ N := lw_gt N2 (by omega) c23
      refine LW.aload_n C (i := 0) dL_law_26 rfl rfl rfl ?_
      refine LW.iload_n C (i := 3) dL_law_27 rfl rfl rfl ?_
      refine LW.sld C (j := i) rfl (by omega) dL_law_28 rfl ?_
      refine LW.bipush C (v := 31) dL_law_29 (by decide) rfl ?_
      refine LW.iand C dL_law_31 rfl ?_
      have kk : ∀ w, J_ w → LW X b p e s m below meth c 658 [.ref b, .ref (sw_ad X 0), .ref (sw_ad X 59), .int (nI i)] [] w := by
        intro w hw
        refine LW.iinc C (v := nI (i + 4)) dL_law_658 rfl (nI_add i 4) (by decide) rfl ?_
        refine LW.goto C (q := 18) dL_law_661 (by decide) ?_
        exact ih (k - 4) (by omega) (i + 4) (by omega) (by omega) w hw
      generalize xs i &&& 31 = z
      by_cases w0 : z = 0
      · refine LW.tableIn C (q := 128) dL_law_32 (by rw [w0]; decide) (by rw [w0]; decide) (by rw [w0]; rfl) (by decide) ?_
        exact L_case0 C hi h kk
      by_cases w1 : z = 1
      · refine LW.tableIn C (q := 151) dL_law_32 (by rw [w1]; decide) (by rw [w1]; decide) (by rw [w1]; rfl) (by decide) ?_
        exact L_case1 C hi h kk
      by_cases w2 : z = 2
      · refine LW.tableIn C (q := 184) dL_law_32 (by rw [w2]; decide) (by rw [w2]; decide) (by rw [w2]; rfl) (by decide) ?_
        exact L_case2 C hi h kk
      by_cases w3 : z = 3
      · refine LW.tableIn C (q := 207) dL_law_32 (by rw [w3]; decide) (by rw [w3]; decide) (by rw [w3]; rfl) (by decide) ?_
        exact L_case3 C hi h kk
      by_cases w4 : z = 4
      · refine LW.tableIn C (q := 240) dL_law_32 (by rw [w4]; decide) (by rw [w4]; decide) (by rw [w4]; rfl) (by decide) ?_
        exact L_case4 C hi h kk
      by_cases w5 : z = 5
      · refine LW.tableIn C (q := 273) dL_law_32 (by rw [w5]; decide) (by rw [w5]; decide) (by rw [w5]; rfl) (by decide) ?_
        exact L_case5 C hi h kk
      by_cases w6 : z = 6
      · refine LW.tableIn C (q := 306) dL_law_32 (by rw [w6]; decide) (by rw [w6]; decide) (by rw [w6]; rfl) (by decide) ?_
        exact L_case6 C hi h kk
      by_cases w7 : z = 7
      · refine LW.tableIn C (q := 319) dL_law_32 (by rw [w7]; decide) (by rw [w7]; decide) (by rw [w7]; rfl) (by decide) ?_
        exact L_case7 C hi h kk
      by_cases w8 : z = 8
      · refine LW.tableIn C (q := 352) dL_law_32 (by rw [w8]; decide) (by rw [w8]; decide) (by rw [w8]; rfl) (by decide) ?_
        exact L_case8 C hi h kk
      by_cases w9 : z = 9
      · refine LW.tableIn C (q := 385) dL_law_32 (by rw [w9]; decide) (by rw [w9]; decide) (by rw [w9]; rfl) (by decide) ?_
        exact L_case9 C hi h kk
      by_cases w10 : z = 10
      · refine LW.tableIn C (q := 408) dL_law_32 (by rw [w10]; decide) (by rw [w10]; decide) (by rw [w10]; rfl) (by decide) ?_
        exact L_case10 C hi h kk
      by_cases w11 : z = 11
      · refine LW.tableIn C (q := 431) dL_law_32 (by rw [w11]; decide) (by rw [w11]; decide) (by rw [w11]; rfl) (by decide) ?_
        exact L_case11 C hi h kk
      by_cases w12 : z = 12
      · refine LW.tableIn C (q := 444) dL_law_32 (by rw [w12]; decide) (by rw [w12]; decide) (by rw [w12]; rfl) (by decide) ?_
        exact L_case12 C hi h kk
      by_cases w13 : z = 13
      · refine LW.tableIn C (q := 467) dL_law_32 (by rw [w13]; decide) (by rw [w13]; decide) (by rw [w13]; rfl) (by decide) ?_
        exact L_case13 C hi h kk
      by_cases w14 : z = 14
      · refine LW.tableIn C (q := 490) dL_law_32 (by rw [w14]; decide) (by rw [w14]; decide) (by rw [w14]; rfl) (by decide) ?_
        exact L_case14 C hi h kk
      by_cases w15 : z = 15
      · refine LW.tableIn C (q := 513) dL_law_32 (by rw [w15]; decide) (by rw [w15]; decide) (by rw [w15]; rfl) (by decide) ?_
        exact L_case15 C hi h kk
      by_cases w16 : z = 16
      · refine LW.tableIn C (q := 546) dL_law_32 (by rw [w16]; decide) (by rw [w16]; decide) (by rw [w16]; rfl) (by decide) ?_
        exact L_case16 C hi h kk
      by_cases w17 : z = 17
      · refine LW.tableIn C (q := 589) dL_law_32 (by rw [w17]; decide) (by rw [w17]; decide) (by rw [w17]; rfl) (by decide) ?_
        exact L_case17 C hi h kk
      by_cases w18 : z = 18
      · refine LW.tableIn C (q := 612) dL_law_32 (by rw [w18]; decide) (by rw [w18]; decide) (by rw [w18]; rfl) (by decide) ?_
        exact L_case18 C hi h kk
      by_cases w19 : z = 19
      · refine LW.tableIn C (q := 635) dL_law_32 (by rw [w19]; decide) (by rw [w19]; decide) (by rw [w19]; rfl) (by decide) ?_
        exact L_case19 C hi h kk
      refine LW.tableOut C (q := 658) dL_law_32 (sw_out 0 19 (by decide) (by decide) (fun k h1 h2 => by rcases (show k = 0 ∨ k = 1 ∨ k = 2 ∨ k = 3 ∨ k = 4 ∨ k = 5 ∨ k = 6 ∨ k = 7 ∨ k = 8 ∨ k = 9 ∨ k = 10 ∨ k = 11 ∨ k = 12 ∨ k = 13 ∨ k = 14 ∨ k = 15 ∨ k = 16 ∨ k = 17 ∨ k = 18 ∨ k = 19 by omega) with rfl | rfl | rfl | rfl | rfl | rfl | rfl | rfl | rfl | rfl | rfl | rfl | rfl | rfl | rfl | rfl | rfl | rfl | rfl | rfl <;> assumption)) (by decide) ?_
      exact kk σ h
end LOOP
