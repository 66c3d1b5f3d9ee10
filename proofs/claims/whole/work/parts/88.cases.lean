/-! the law's cases -/
theorem AW.less {g : GC} {own : String} {cc : ByteArray} {nL : Nat} {ret : Option FieldType} {nm : String} {d c n c' n' : Nat} {K : Option Value → hH → Prop} {pc : Nat} {L : List (Nat × Value)} {st : List Value} {h : hH} (e1 : c' ≤ c) (e2 : n' ≤ n) (k : AW g own cc nL ret nm d c' n' K pc L st h) : AW g own cc nL ret nm d c n K pc L st h := by
  intro p e s m args below meth c1 H locs cells slots mc ms R ls X hH hS hl
  obtain ⟨x1, x2, x3, x4, x5, x6, x7, x8, x9, x10, x11, x12, x13, x14, x15, x16, x17, x18⟩ := X
  exact k p e s m args below meth c1 H locs cells slots mc ms R ls ⟨x1, x2, x3, x4, x5, x6, x7, x8, x9, x10, x11, x12, by omega, by omega, x15, x16, x17, x18⟩ hH hS hl
theorem r_scr {g : GC} {own : String} {cc : ByteArray} {nL : Nat} {ret : Option FieldType} {nm : String} {d c n : Nat} {K : Option Value → hH → Prop} {pc : Nat} {L : List (Nat × Value)} {rest : List Value} {h : hH} {b Ls j : Nat} {xs : Nat → Int32} {x : Int32} (hT : RT g .int b Ls (fun j => .int (xs j))) (hLs : Ls ≤ 3072) (hd : decode cc pc = .ok (.iaload, 1)) (hx : x = nI j) (hj : j < Ls) (kk : AW g own cc nL ret nm d c n K (pc + 1) L (.int (xs j) :: rest) h) : AW g own cc nL ret nm d c n K pc L (.int x :: .ref b :: rest) h := by
  subst hx
  refine r_ti hd hT (vp_in_nI hj (by omega)) ?_ kk
  show Value.int (xs (nI j).toNatClampNeg) = _
  rw [nI_clamp (by omega)]
set_option maxRecDepth 100000 in
set_option maxHeartbeats 2000000 in
theorem lc_wine {g : GC} {E : ME} {q1 b Ls d c n k : Nat} {xs : Nat → Int32} {nm : String} {K : Option Value → hH → Prop} {h : hH} (hE : MEok E) (hG : GX g) (hd : 53 ≤ d) (hb : RT g .int b Ls (fun j => .int (xs j))) (hL : Ls ≤ 3072) (hk : 6 * k + 6 ≤ Ls) (hJ : JI E q1 h) (kk : ∀ h', JI E q1 h' → AW g R_law code 4 ret nm d c n K 1278 [(3, .int (nI (6 * k))), (2, .ref E.2.2), (1, .ref q1), (0, .ref b)] [] h') : AW g R_law code 4 ret nm d (c + 2) (n + 1003) K 172 [(3, .int (nI (6 * k))), (2, .ref E.2.2), (1, .ref q1), (0, .ref b)] [] h := by
  obtain ⟨am, S, σ, τ, hX, h9, hD, hA, rfl⟩ := hJ
  have jm := J_wine (d := d - 1) hE hG (by omega) hX h9 hD hA (xs (6 * k + 1)) (xs (6 * k + 2)) (xs (6 * k + 3)) (xs (6 * k + 4))
  generalize xH (mH E τ) am S σ = h at jm ⊢
  obtain ⟨c1, n1, KX, hc1, hn1, A1, ⟨fs, f1⟩, jm⟩ := jm
  refine r_aload_n d_law_172 rfl ?_
  refine r_aload_n d_law_173 rfl ?_
  refine r_iload_n d_law_174 rfl ?_
  refine r_iconst (v := 1) d_law_175 (by decide) ?_
  refine r_iadd d_law_176 ?_
  refine r_scr (j := 6 * k + 1) hb hL d_law_177 (nI_add (6 * k) 1) (by omega) ?_
  refine r_aload_n d_law_178 rfl ?_
  refine r_iload_n d_law_179 rfl ?_
  refine r_iconst (v := 2) d_law_180 (by decide) ?_
  refine r_iadd d_law_181 ?_
  refine r_scr (j := 6 * k + 2) hb hL d_law_182 (nI_add (6 * k) 2) (by omega) ?_
  refine r_aload_n d_law_183 rfl ?_
  refine r_iload_n d_law_184 rfl ?_
  refine r_iconst (v := 3) d_law_185 (by decide) ?_
  refine r_iadd d_law_186 ?_
  refine r_scr (j := 6 * k + 3) hb hL d_law_187 (nI_add (6 * k) 3) (by omega) ?_
  refine r_aload_n d_law_188 rfl ?_
  refine r_iload_n d_law_189 rfl ?_
  refine r_iconst (v := 4) d_law_190 (by decide) ?_
  refine r_iadd d_law_191 ?_
  refine r_scr (j := 6 * k + 4) hb hL d_law_192 (nI_add (6 * k) 4) (by omega) ?_
  refine r_callV (d1 := d - 1) (c1 := c1) (n1 := n1) (ci := 9) (As := [.int (xs (6 * k + 1)), .int (xs (6 * k + 2)), .int (xs (6 * k + 3)), .int (xs (6 * k + 4))]) (rest := []) d_law_193 mf_X9_wine ml_law_13 A1 f1 rfl rfl rfl rfl (Nat.le_of_ble_eq_true rfl) (by omega) (by omega) (by omega) (fun v h' kx => ?_)
  obtain ⟨r, KM, rfl, ⟨x, rfl⟩, A2, ⟨fs2, f2⟩, jm⟩ := jm v h' kx
  refine r_aload_n d_law_196 rfl ?_
  refine r_aload_n d_law_197 rfl ?_
  refine r_iload_n d_law_198 rfl ?_
  refine r_iconst (v := 1) d_law_199 (by decide) ?_
  refine r_iadd d_law_200 ?_
  refine r_scr (j := 6 * k + 1) hb hL d_law_201 (nI_add (6 * k) 1) (by omega) ?_
  refine r_aload_n d_law_202 rfl ?_
  refine r_iload_n d_law_203 rfl ?_
  refine r_iconst (v := 2) d_law_204 (by decide) ?_
  refine r_iadd d_law_205 ?_
  refine r_scr (j := 6 * k + 2) hb hL d_law_206 (nI_add (6 * k) 2) (by omega) ?_
  refine r_aload_n d_law_207 rfl ?_
  refine r_iload_n d_law_208 rfl ?_
  refine r_iconst (v := 3) d_law_209 (by decide) ?_
  refine r_iadd d_law_210 ?_
  refine r_scr (j := 6 * k + 3) hb hL d_law_211 (nI_add (6 * k) 3) (by omega) ?_
  refine r_aload_n d_law_212 rfl ?_
  refine r_iload_n d_law_213 rfl ?_
  refine r_iconst (v := 4) d_law_214 (by decide) ?_
  refine r_iadd d_law_215 ?_
  refine r_scr (j := 6 * k + 4) hb hL d_law_216 (nI_add (6 * k) 4) (by omega) ?_
  refine r_callV (d1 := d - 1) (c1 := 0) (n1 := 0) (ci := 10) (As := [.int (xs (6 * k + 1)), .int (xs (6 * k + 2)), .int (xs (6 * k + 3)), .int (xs (6 * k + 4))]) (rest := [.int x]) d_law_217 mf_X10_wine ml_law_17 A2 f2 rfl rfl rfl rfl (Nat.le_of_ble_eq_true rfl) (by omega) (Nat.zero_le _) (Nat.zero_le _) (fun v' h'' km => ?_)
  obtain ⟨rfl, hJ⟩ := jm v' h'' km
  refine r_icmp_eq (tgt := 1278) d_law_220 (by decide) (fun _ => ?_) (fun z => absurd rfl z)
  exact AW.less (by omega) (by omega) (kk h'' hJ)
set_option maxRecDepth 100000 in
set_option maxHeartbeats 2000000 in
theorem lc_drunk {g : GC} {E : ME} {q1 b Ls d c n k : Nat} {xs : Nat → Int32} {nm : String} {K : Option Value → hH → Prop} {h : hH} (hE : MEok E) (hG : GX g) (hd : 53 ≤ d) (hb : RT g .int b Ls (fun j => .int (xs j))) (hL : Ls ≤ 3072) (hk : 6 * k + 6 ≤ Ls) (hJ : JI E q1 h) (kk : ∀ h', JI E q1 h' → AW g R_law code 4 ret nm d c n K 1278 [(3, .int (nI (6 * k))), (2, .ref E.2.2), (1, .ref q1), (0, .ref b)] [] h') : AW g R_law code 4 ret nm d (c + 2) (n + 1003) K 225 [(3, .int (nI (6 * k))), (2, .ref E.2.2), (1, .ref q1), (0, .ref b)] [] h := by
  obtain ⟨am, S, σ, τ, hX, h9, hD, hA, rfl⟩ := hJ
  have jm := J_drunk (d := d - 1) hE hG (by omega) hX h9 hD hA (xs (6 * k + 1)) (xs (6 * k + 2))
  generalize xH (mH E τ) am S σ = h at jm ⊢
  obtain ⟨c1, n1, KX, hc1, hn1, A1, ⟨fs, f1⟩, jm⟩ := jm
  refine r_aload_n d_law_225 rfl ?_
  refine r_aload_n d_law_226 rfl ?_
  refine r_iload_n d_law_227 rfl ?_
  refine r_iconst (v := 1) d_law_228 (by decide) ?_
  refine r_iadd d_law_229 ?_
  refine r_scr (j := 6 * k + 1) hb hL d_law_230 (nI_add (6 * k) 1) (by omega) ?_
  refine r_aload_n d_law_231 rfl ?_
  refine r_iload_n d_law_232 rfl ?_
  refine r_iconst (v := 2) d_law_233 (by decide) ?_
  refine r_iadd d_law_234 ?_
  refine r_scr (j := 6 * k + 2) hb hL d_law_235 (nI_add (6 * k) 2) (by omega) ?_
  refine r_callV (d1 := d - 1) (c1 := c1) (n1 := n1) (ci := 9) (As := [.int (xs (6 * k + 1)), .int (xs (6 * k + 2))]) (rest := []) d_law_236 mf_X9_drunk ml_law_18 A1 f1 rfl rfl rfl rfl (Nat.le_of_ble_eq_true rfl) (by omega) (by omega) (by omega) (fun v h' kx => ?_)
  obtain ⟨r, KM, rfl, ⟨x, rfl⟩, A2, ⟨fs2, f2⟩, jm⟩ := jm v h' kx
  refine r_aload_n d_law_239 rfl ?_
  refine r_aload_n d_law_240 rfl ?_
  refine r_iload_n d_law_241 rfl ?_
  refine r_iconst (v := 1) d_law_242 (by decide) ?_
  refine r_iadd d_law_243 ?_
  refine r_scr (j := 6 * k + 1) hb hL d_law_244 (nI_add (6 * k) 1) (by omega) ?_
  refine r_aload_n d_law_245 rfl ?_
  refine r_iload_n d_law_246 rfl ?_
  refine r_iconst (v := 2) d_law_247 (by decide) ?_
  refine r_iadd d_law_248 ?_
  refine r_scr (j := 6 * k + 2) hb hL d_law_249 (nI_add (6 * k) 2) (by omega) ?_
  refine r_callV (d1 := d - 1) (c1 := 0) (n1 := 0) (ci := 10) (As := [.int (xs (6 * k + 1)), .int (xs (6 * k + 2))]) (rest := [.int x]) d_law_250 mf_X10_drunk ml_law_22 A2 f2 rfl rfl rfl rfl (Nat.le_of_ble_eq_true rfl) (by omega) (Nat.zero_le _) (Nat.zero_le _) (fun v' h'' km => ?_)
  obtain ⟨rfl, hJ⟩ := jm v' h'' km
  refine r_icmp_eq (tgt := 1278) d_law_253 (by decide) (fun _ => ?_) (fun z => absurd rfl z)
  exact AW.less (by omega) (by omega) (kk h'' hJ)
set_option maxRecDepth 100000 in
set_option maxHeartbeats 2000000 in
theorem lc_book {g : GC} {E : ME} {q1 b Ls d c n k : Nat} {xs : Nat → Int32} {nm : String} {K : Option Value → hH → Prop} {h : hH} (hE : MEok E) (hG : GX g) (hd : 53 ≤ d) (hb : RT g .int b Ls (fun j => .int (xs j))) (hL : Ls ≤ 3072) (hk : 6 * k + 6 ≤ Ls) (hJ : JI E q1 h) (kk : ∀ h', JI E q1 h' → AW g R_law code 4 ret nm d c n K 1278 [(3, .int (nI (6 * k))), (2, .ref E.2.2), (1, .ref q1), (0, .ref b)] [] h') : AW g R_law code 4 ret nm d (c + 2) (n + 1003) K 258 [(3, .int (nI (6 * k))), (2, .ref E.2.2), (1, .ref q1), (0, .ref b)] [] h := by
  obtain ⟨am, S, σ, τ, hX, h9, hD, hA, rfl⟩ := hJ
  have jm := J_book (d := d - 1) hE hG (by omega) hX h9 hD hA (xs (6 * k + 1)) (xs (6 * k + 2)) (xs (6 * k + 3)) (xs (6 * k + 4))
  generalize xH (mH E τ) am S σ = h at jm ⊢
  obtain ⟨c1, n1, KX, hc1, hn1, A1, ⟨fs, f1⟩, jm⟩ := jm
  refine r_aload_n d_law_258 rfl ?_
  refine r_aload_n d_law_259 rfl ?_
  refine r_iload_n d_law_260 rfl ?_
  refine r_iconst (v := 1) d_law_261 (by decide) ?_
  refine r_iadd d_law_262 ?_
  refine r_scr (j := 6 * k + 1) hb hL d_law_263 (nI_add (6 * k) 1) (by omega) ?_
  refine r_aload_n d_law_264 rfl ?_
  refine r_iload_n d_law_265 rfl ?_
  refine r_iconst (v := 2) d_law_266 (by decide) ?_
  refine r_iadd d_law_267 ?_
  refine r_scr (j := 6 * k + 2) hb hL d_law_268 (nI_add (6 * k) 2) (by omega) ?_
  refine r_aload_n d_law_269 rfl ?_
  refine r_iload_n d_law_270 rfl ?_
  refine r_iconst (v := 3) d_law_271 (by decide) ?_
  refine r_iadd d_law_272 ?_
  refine r_scr (j := 6 * k + 3) hb hL d_law_273 (nI_add (6 * k) 3) (by omega) ?_
  refine r_aload_n d_law_274 rfl ?_
  refine r_iload_n d_law_275 rfl ?_
  refine r_iconst (v := 4) d_law_276 (by decide) ?_
  refine r_iadd d_law_277 ?_
  refine r_scr (j := 6 * k + 4) hb hL d_law_278 (nI_add (6 * k) 4) (by omega) ?_
  refine r_callV (d1 := d - 1) (c1 := c1) (n1 := n1) (ci := 9) (As := [.int (xs (6 * k + 1)), .int (xs (6 * k + 2)), .int (xs (6 * k + 3)), .int (xs (6 * k + 4))]) (rest := []) d_law_279 mf_X9_book ml_law_23 A1 f1 rfl rfl rfl rfl (Nat.le_of_ble_eq_true rfl) (by omega) (by omega) (by omega) (fun v h' kx => ?_)
  obtain ⟨r, KM, rfl, ⟨x, rfl⟩, A2, ⟨fs2, f2⟩, jm⟩ := jm v h' kx
  refine r_aload_n d_law_282 rfl ?_
  refine r_aload_n d_law_283 rfl ?_
  refine r_iload_n d_law_284 rfl ?_
  refine r_iconst (v := 1) d_law_285 (by decide) ?_
  refine r_iadd d_law_286 ?_
  refine r_scr (j := 6 * k + 1) hb hL d_law_287 (nI_add (6 * k) 1) (by omega) ?_
  refine r_aload_n d_law_288 rfl ?_
  refine r_iload_n d_law_289 rfl ?_
  refine r_iconst (v := 2) d_law_290 (by decide) ?_
  refine r_iadd d_law_291 ?_
  refine r_scr (j := 6 * k + 2) hb hL d_law_292 (nI_add (6 * k) 2) (by omega) ?_
  refine r_aload_n d_law_293 rfl ?_
  refine r_iload_n d_law_294 rfl ?_
  refine r_iconst (v := 3) d_law_295 (by decide) ?_
  refine r_iadd d_law_296 ?_
  refine r_scr (j := 6 * k + 3) hb hL d_law_297 (nI_add (6 * k) 3) (by omega) ?_
  refine r_aload_n d_law_298 rfl ?_
  refine r_iload_n d_law_299 rfl ?_
  refine r_iconst (v := 4) d_law_300 (by decide) ?_
  refine r_iadd d_law_301 ?_
  refine r_scr (j := 6 * k + 4) hb hL d_law_302 (nI_add (6 * k) 4) (by omega) ?_
  refine r_callV (d1 := d - 1) (c1 := 0) (n1 := 0) (ci := 10) (As := [.int (xs (6 * k + 1)), .int (xs (6 * k + 2)), .int (xs (6 * k + 3)), .int (xs (6 * k + 4))]) (rest := [.int x]) d_law_303 mf_X10_book ml_law_26 A2 f2 rfl rfl rfl rfl (Nat.le_of_ble_eq_true rfl) (by omega) (Nat.zero_le _) (Nat.zero_le _) (fun v' h'' km => ?_)
  obtain ⟨rfl, hJ⟩ := jm v' h'' km
  refine r_icmp_eq (tgt := 1278) d_law_306 (by decide) (fun _ => ?_) (fun z => absurd rfl z)
  exact AW.less (by omega) (by omega) (kk h'' hJ)
set_option maxRecDepth 100000 in
set_option maxHeartbeats 2000000 in
theorem lc_test {g : GC} {E : ME} {q1 b Ls d c n k : Nat} {xs : Nat → Int32} {nm : String} {K : Option Value → hH → Prop} {h : hH} (hE : MEok E) (hG : GX g) (hd : 53 ≤ d) (hb : RT g .int b Ls (fun j => .int (xs j))) (hL : Ls ≤ 3072) (hk : 6 * k + 6 ≤ Ls) (hJ : JI E q1 h) (kk : ∀ h', JI E q1 h' → AW g R_law code 4 ret nm d c n K 1278 [(3, .int (nI (6 * k))), (2, .ref E.2.2), (1, .ref q1), (0, .ref b)] [] h') : AW g R_law code 4 ret nm d (c + 2) (n + 1003) K 311 [(3, .int (nI (6 * k))), (2, .ref E.2.2), (1, .ref q1), (0, .ref b)] [] h := by
  obtain ⟨am, S, σ, τ, hX, h9, hD, hA, rfl⟩ := hJ
  have jm := J_test (d := d - 1) hE hG (by omega) hX h9 hD hA (xs (6 * k + 1)) (xs (6 * k + 2))
  generalize xH (mH E τ) am S σ = h at jm ⊢
  obtain ⟨c1, n1, KX, hc1, hn1, A1, ⟨fs, f1⟩, jm⟩ := jm
  refine r_aload_n d_law_311 rfl ?_
  refine r_aload_n d_law_312 rfl ?_
  refine r_iload_n d_law_313 rfl ?_
  refine r_iconst (v := 1) d_law_314 (by decide) ?_
  refine r_iadd d_law_315 ?_
  refine r_scr (j := 6 * k + 1) hb hL d_law_316 (nI_add (6 * k) 1) (by omega) ?_
  refine r_aload_n d_law_317 rfl ?_
  refine r_iload_n d_law_318 rfl ?_
  refine r_iconst (v := 2) d_law_319 (by decide) ?_
  refine r_iadd d_law_320 ?_
  refine r_scr (j := 6 * k + 2) hb hL d_law_321 (nI_add (6 * k) 2) (by omega) ?_
  refine r_callV (d1 := d - 1) (c1 := c1) (n1 := n1) (ci := 9) (As := [.int (xs (6 * k + 1)), .int (xs (6 * k + 2))]) (rest := []) d_law_322 mf_X9_test ml_law_27 A1 f1 rfl rfl rfl rfl (Nat.le_of_ble_eq_true rfl) (by omega) (by omega) (by omega) (fun v h' kx => ?_)
  obtain ⟨r, KM, rfl, ⟨x, rfl⟩, A2, ⟨fs2, f2⟩, jm⟩ := jm v h' kx
  refine r_aload_n d_law_325 rfl ?_
  refine r_aload_n d_law_326 rfl ?_
  refine r_iload_n d_law_327 rfl ?_
  refine r_iconst (v := 1) d_law_328 (by decide) ?_
  refine r_iadd d_law_329 ?_
  refine r_scr (j := 6 * k + 1) hb hL d_law_330 (nI_add (6 * k) 1) (by omega) ?_
  refine r_aload_n d_law_331 rfl ?_
  refine r_iload_n d_law_332 rfl ?_
  refine r_iconst (v := 2) d_law_333 (by decide) ?_
  refine r_iadd d_law_334 ?_
  refine r_scr (j := 6 * k + 2) hb hL d_law_335 (nI_add (6 * k) 2) (by omega) ?_
  refine r_callV (d1 := d - 1) (c1 := 0) (n1 := 0) (ci := 10) (As := [.int (xs (6 * k + 1)), .int (xs (6 * k + 2))]) (rest := [.int x]) d_law_336 mf_X10_test ml_law_30 A2 f2 rfl rfl rfl rfl (Nat.le_of_ble_eq_true rfl) (by omega) (Nat.zero_le _) (Nat.zero_le _) (fun v' h'' km => ?_)
  obtain ⟨rfl, hJ⟩ := jm v' h'' km
  refine r_icmp_eq (tgt := 1278) d_law_339 (by decide) (fun _ => ?_) (fun z => absurd rfl z)
  exact AW.less (by omega) (by omega) (kk h'' hJ)
set_option maxRecDepth 100000 in
set_option maxHeartbeats 2000000 in
theorem lc_bottle {g : GC} {E : ME} {q1 b Ls d c n k : Nat} {xs : Nat → Int32} {nm : String} {K : Option Value → hH → Prop} {h : hH} (hE : MEok E) (hG : GX g) (hd : 53 ≤ d) (hb : RT g .int b Ls (fun j => .int (xs j))) (hL : Ls ≤ 3072) (hk : 6 * k + 6 ≤ Ls) (hJ : JI E q1 h) (kk : ∀ h', JI E q1 h' → AW g R_law code 4 ret nm d c n K 1278 [(3, .int (nI (6 * k))), (2, .ref E.2.2), (1, .ref q1), (0, .ref b)] [] h') : AW g R_law code 4 ret nm d (c + 2) (n + 1003) K 344 [(3, .int (nI (6 * k))), (2, .ref E.2.2), (1, .ref q1), (0, .ref b)] [] h := by
  obtain ⟨am, S, σ, τ, hX, h9, hD, hA, rfl⟩ := hJ
  have jm := J_bottle (d := d - 1) hE hG (by omega) hX h9 hD hA (xs (6 * k + 1)) (xs (6 * k + 2)) (xs (6 * k + 3))
  generalize xH (mH E τ) am S σ = h at jm ⊢
  obtain ⟨c1, n1, KX, hc1, hn1, A1, ⟨fs, f1⟩, jm⟩ := jm
  refine r_aload_n d_law_344 rfl ?_
  refine r_aload_n d_law_345 rfl ?_
  refine r_iload_n d_law_346 rfl ?_
  refine r_iconst (v := 1) d_law_347 (by decide) ?_
  refine r_iadd d_law_348 ?_
  refine r_scr (j := 6 * k + 1) hb hL d_law_349 (nI_add (6 * k) 1) (by omega) ?_
  refine r_aload_n d_law_350 rfl ?_
  refine r_iload_n d_law_351 rfl ?_
  refine r_iconst (v := 2) d_law_352 (by decide) ?_
  refine r_iadd d_law_353 ?_
  refine r_scr (j := 6 * k + 2) hb hL d_law_354 (nI_add (6 * k) 2) (by omega) ?_
  refine r_aload_n d_law_355 rfl ?_
  refine r_iload_n d_law_356 rfl ?_
  refine r_iconst (v := 3) d_law_357 (by decide) ?_
  refine r_iadd d_law_358 ?_
  refine r_scr (j := 6 * k + 3) hb hL d_law_359 (nI_add (6 * k) 3) (by omega) ?_
  refine r_callV (d1 := d - 1) (c1 := c1) (n1 := n1) (ci := 9) (As := [.int (xs (6 * k + 1)), .int (xs (6 * k + 2)), .int (xs (6 * k + 3))]) (rest := []) d_law_360 mf_X9_bottle ml_law_31 A1 f1 rfl rfl rfl rfl (Nat.le_of_ble_eq_true rfl) (by omega) (by omega) (by omega) (fun v h' kx => ?_)
  obtain ⟨r, KM, rfl, ⟨x, rfl⟩, A2, ⟨fs2, f2⟩, jm⟩ := jm v h' kx
  refine r_aload_n d_law_363 rfl ?_
  refine r_aload_n d_law_364 rfl ?_
  refine r_iload_n d_law_365 rfl ?_
  refine r_iconst (v := 1) d_law_366 (by decide) ?_
  refine r_iadd d_law_367 ?_
  refine r_scr (j := 6 * k + 1) hb hL d_law_368 (nI_add (6 * k) 1) (by omega) ?_
  refine r_aload_n d_law_369 rfl ?_
  refine r_iload_n d_law_370 rfl ?_
  refine r_iconst (v := 2) d_law_371 (by decide) ?_
  refine r_iadd d_law_372 ?_
  refine r_scr (j := 6 * k + 2) hb hL d_law_373 (nI_add (6 * k) 2) (by omega) ?_
  refine r_aload_n d_law_374 rfl ?_
  refine r_iload_n d_law_375 rfl ?_
  refine r_iconst (v := 3) d_law_376 (by decide) ?_
  refine r_iadd d_law_377 ?_
  refine r_scr (j := 6 * k + 3) hb hL d_law_378 (nI_add (6 * k) 3) (by omega) ?_
  refine r_callV (d1 := d - 1) (c1 := 0) (n1 := 0) (ci := 10) (As := [.int (xs (6 * k + 1)), .int (xs (6 * k + 2)), .int (xs (6 * k + 3))]) (rest := [.int x]) d_law_379 mf_X10_bottle ml_law_35 A2 f2 rfl rfl rfl rfl (Nat.le_of_ble_eq_true rfl) (by omega) (Nat.zero_le _) (Nat.zero_le _) (fun v' h'' km => ?_)
  obtain ⟨rfl, hJ⟩ := jm v' h'' km
  refine r_icmp_eq (tgt := 1278) d_law_382 (by decide) (fun _ => ?_) (fun z => absurd rfl z)
  exact AW.less (by omega) (by omega) (kk h'' hJ)
set_option maxRecDepth 100000 in
set_option maxHeartbeats 2000000 in
theorem lc_told {g : GC} {E : ME} {q1 b Ls d c n k : Nat} {xs : Nat → Int32} {nm : String} {K : Option Value → hH → Prop} {h : hH} (hE : MEok E) (hG : GX g) (hd : 53 ≤ d) (hb : RT g .int b Ls (fun j => .int (xs j))) (hL : Ls ≤ 3072) (hk : 6 * k + 6 ≤ Ls) (hJ : JI E q1 h) (kk : ∀ h', JI E q1 h' → AW g R_law code 4 ret nm d c n K 1278 [(3, .int (nI (6 * k))), (2, .ref E.2.2), (1, .ref q1), (0, .ref b)] [] h') : AW g R_law code 4 ret nm d (c + 2) (n + 1003) K 387 [(3, .int (nI (6 * k))), (2, .ref E.2.2), (1, .ref q1), (0, .ref b)] [] h := by
  obtain ⟨am, S, σ, τ, hX, h9, hD, hA, rfl⟩ := hJ
  have jm := J_told (d := d - 1) hE hG (by omega) hX h9 hD hA (xs (6 * k + 1)) (xs (6 * k + 2))
  generalize xH (mH E τ) am S σ = h at jm ⊢
  obtain ⟨c1, n1, KX, hc1, hn1, A1, ⟨fs, f1⟩, jm⟩ := jm
  refine r_aload_n d_law_387 rfl ?_
  refine r_aload_n d_law_388 rfl ?_
  refine r_iload_n d_law_389 rfl ?_
  refine r_iconst (v := 1) d_law_390 (by decide) ?_
  refine r_iadd d_law_391 ?_
  refine r_scr (j := 6 * k + 1) hb hL d_law_392 (nI_add (6 * k) 1) (by omega) ?_
  refine r_aload_n d_law_393 rfl ?_
  refine r_iload_n d_law_394 rfl ?_
  refine r_iconst (v := 2) d_law_395 (by decide) ?_
  refine r_iadd d_law_396 ?_
  refine r_scr (j := 6 * k + 2) hb hL d_law_397 (nI_add (6 * k) 2) (by omega) ?_
  refine r_callV (d1 := d - 1) (c1 := c1) (n1 := n1) (ci := 9) (As := [.int (xs (6 * k + 1)), .int (xs (6 * k + 2))]) (rest := []) d_law_398 mf_X9_told ml_law_36 A1 f1 rfl rfl rfl rfl (Nat.le_of_ble_eq_true rfl) (by omega) (by omega) (by omega) (fun v h' kx => ?_)
  obtain ⟨r, KM, rfl, ⟨x, rfl⟩, A2, ⟨fs2, f2⟩, jm⟩ := jm v h' kx
  refine r_aload_n d_law_401 rfl ?_
  refine r_aload_n d_law_402 rfl ?_
  refine r_iload_n d_law_403 rfl ?_
  refine r_iconst (v := 1) d_law_404 (by decide) ?_
  refine r_iadd d_law_405 ?_
  refine r_scr (j := 6 * k + 1) hb hL d_law_406 (nI_add (6 * k) 1) (by omega) ?_
  refine r_aload_n d_law_407 rfl ?_
  refine r_iload_n d_law_408 rfl ?_
  refine r_iconst (v := 2) d_law_409 (by decide) ?_
  refine r_iadd d_law_410 ?_
  refine r_scr (j := 6 * k + 2) hb hL d_law_411 (nI_add (6 * k) 2) (by omega) ?_
  refine r_callV (d1 := d - 1) (c1 := 0) (n1 := 0) (ci := 10) (As := [.int (xs (6 * k + 1)), .int (xs (6 * k + 2))]) (rest := [.int x]) d_law_412 mf_X10_told ml_law_39 A2 f2 rfl rfl rfl rfl (Nat.le_of_ble_eq_true rfl) (by omega) (Nat.zero_le _) (Nat.zero_le _) (fun v' h'' km => ?_)
  obtain ⟨rfl, hJ⟩ := jm v' h'' km
  refine r_icmp_eq (tgt := 1278) d_law_415 (by decide) (fun _ => ?_) (fun z => absurd rfl z)
  exact AW.less (by omega) (by omega) (kk h'' hJ)
set_option maxRecDepth 100000 in
set_option maxHeartbeats 2000000 in
theorem lc_shows {g : GC} {E : ME} {q1 b Ls d c n k : Nat} {xs : Nat → Int32} {nm : String} {K : Option Value → hH → Prop} {h : hH} (hE : MEok E) (hG : GX g) (hd : 53 ≤ d) (hb : RT g .int b Ls (fun j => .int (xs j))) (hL : Ls ≤ 3072) (hk : 6 * k + 6 ≤ Ls) (hJ : JI E q1 h) (kk : ∀ h', JI E q1 h' → AW g R_law code 4 ret nm d c n K 1278 [(3, .int (nI (6 * k))), (2, .ref E.2.2), (1, .ref q1), (0, .ref b)] [] h') : AW g R_law code 4 ret nm d (c + 2) (n + 1003) K 420 [(3, .int (nI (6 * k))), (2, .ref E.2.2), (1, .ref q1), (0, .ref b)] [] h := by
  obtain ⟨am, S, σ, τ, hX, h9, hD, hA, rfl⟩ := hJ
  have jm := J_shows (d := d - 1) hE hG (by omega) hX h9 hD hA (xs (6 * k + 1)) (xs (6 * k + 2))
  generalize xH (mH E τ) am S σ = h at jm ⊢
  obtain ⟨c1, n1, KX, hc1, hn1, A1, ⟨fs, f1⟩, jm⟩ := jm
  refine r_aload_n d_law_420 rfl ?_
  refine r_aload_n d_law_421 rfl ?_
  refine r_iload_n d_law_422 rfl ?_
  refine r_iconst (v := 1) d_law_423 (by decide) ?_
  refine r_iadd d_law_424 ?_
  refine r_scr (j := 6 * k + 1) hb hL d_law_425 (nI_add (6 * k) 1) (by omega) ?_
  refine r_aload_n d_law_426 rfl ?_
  refine r_iload_n d_law_427 rfl ?_
  refine r_iconst (v := 2) d_law_428 (by decide) ?_
  refine r_iadd d_law_429 ?_
  refine r_scr (j := 6 * k + 2) hb hL d_law_430 (nI_add (6 * k) 2) (by omega) ?_
  refine r_callV (d1 := d - 1) (c1 := c1) (n1 := n1) (ci := 9) (As := [.int (xs (6 * k + 1)), .int (xs (6 * k + 2))]) (rest := []) d_law_431 mf_X9_shows ml_law_40 A1 f1 rfl rfl rfl rfl (Nat.le_of_ble_eq_true rfl) (by omega) (by omega) (by omega) (fun v h' kx => ?_)
  obtain ⟨r, KM, rfl, ⟨x, rfl⟩, A2, ⟨fs2, f2⟩, jm⟩ := jm v h' kx
  refine r_aload_n d_law_434 rfl ?_
  refine r_aload_n d_law_435 rfl ?_
  refine r_iload_n d_law_436 rfl ?_
  refine r_iconst (v := 1) d_law_437 (by decide) ?_
  refine r_iadd d_law_438 ?_
  refine r_scr (j := 6 * k + 1) hb hL d_law_439 (nI_add (6 * k) 1) (by omega) ?_
  refine r_aload_n d_law_440 rfl ?_
  refine r_iload_n d_law_441 rfl ?_
  refine r_iconst (v := 2) d_law_442 (by decide) ?_
  refine r_iadd d_law_443 ?_
  refine r_scr (j := 6 * k + 2) hb hL d_law_444 (nI_add (6 * k) 2) (by omega) ?_
  refine r_callV (d1 := d - 1) (c1 := 0) (n1 := 0) (ci := 10) (As := [.int (xs (6 * k + 1)), .int (xs (6 * k + 2))]) (rest := [.int x]) d_law_445 mf_X10_shows ml_law_43 A2 f2 rfl rfl rfl rfl (Nat.le_of_ble_eq_true rfl) (by omega) (Nat.zero_le _) (Nat.zero_le _) (fun v' h'' km => ?_)
  obtain ⟨rfl, hJ⟩ := jm v' h'' km
  refine r_icmp_eq (tgt := 1278) d_law_448 (by decide) (fun _ => ?_) (fun z => absurd rfl z)
  exact AW.less (by omega) (by omega) (kk h'' hJ)
set_option maxRecDepth 100000 in
set_option maxHeartbeats 2000000 in
theorem lc_sale {g : GC} {E : ME} {q1 b Ls d c n k : Nat} {xs : Nat → Int32} {nm : String} {K : Option Value → hH → Prop} {h : hH} (hE : MEok E) (hG : GX g) (hd : 53 ≤ d) (hb : RT g .int b Ls (fun j => .int (xs j))) (hL : Ls ≤ 3072) (hk : 6 * k + 6 ≤ Ls) (hJ : JI E q1 h) (kk : ∀ h', JI E q1 h' → AW g R_law code 4 ret nm d c n K 1278 [(3, .int (nI (6 * k))), (2, .ref E.2.2), (1, .ref q1), (0, .ref b)] [] h') : AW g R_law code 4 ret nm d (c + 2) (n + 1003) K 453 [(3, .int (nI (6 * k))), (2, .ref E.2.2), (1, .ref q1), (0, .ref b)] [] h := by
  obtain ⟨am, S, σ, τ, hX, h9, hD, hA, rfl⟩ := hJ
  have jm := J_sale (d := d - 1) hE hG (by omega) hX h9 hD hA (xs (6 * k + 1)) (xs (6 * k + 2)) (xs (6 * k + 3)) (xs (6 * k + 4))
  generalize xH (mH E τ) am S σ = h at jm ⊢
  obtain ⟨c1, n1, KX, hc1, hn1, A1, ⟨fs, f1⟩, jm⟩ := jm
  refine r_aload_n d_law_453 rfl ?_
  refine r_aload_n d_law_454 rfl ?_
  refine r_iload_n d_law_455 rfl ?_
  refine r_iconst (v := 1) d_law_456 (by decide) ?_
  refine r_iadd d_law_457 ?_
  refine r_scr (j := 6 * k + 1) hb hL d_law_458 (nI_add (6 * k) 1) (by omega) ?_
  refine r_aload_n d_law_459 rfl ?_
  refine r_iload_n d_law_460 rfl ?_
  refine r_iconst (v := 2) d_law_461 (by decide) ?_
  refine r_iadd d_law_462 ?_
  refine r_scr (j := 6 * k + 2) hb hL d_law_463 (nI_add (6 * k) 2) (by omega) ?_
  refine r_aload_n d_law_464 rfl ?_
  refine r_iload_n d_law_465 rfl ?_
  refine r_iconst (v := 3) d_law_466 (by decide) ?_
  refine r_iadd d_law_467 ?_
  refine r_scr (j := 6 * k + 3) hb hL d_law_468 (nI_add (6 * k) 3) (by omega) ?_
  refine r_aload_n d_law_469 rfl ?_
  refine r_iload_n d_law_470 rfl ?_
  refine r_iconst (v := 4) d_law_471 (by decide) ?_
  refine r_iadd d_law_472 ?_
  refine r_scr (j := 6 * k + 4) hb hL d_law_473 (nI_add (6 * k) 4) (by omega) ?_
  refine r_callV (d1 := d - 1) (c1 := c1) (n1 := n1) (ci := 9) (As := [.int (xs (6 * k + 1)), .int (xs (6 * k + 2)), .int (xs (6 * k + 3)), .int (xs (6 * k + 4))]) (rest := []) d_law_474 mf_X9_sale ml_law_44 A1 f1 rfl rfl rfl rfl (Nat.le_of_ble_eq_true rfl) (by omega) (by omega) (by omega) (fun v h' kx => ?_)
  obtain ⟨r, KM, rfl, ⟨x, rfl⟩, A2, ⟨fs2, f2⟩, jm⟩ := jm v h' kx
  refine r_aload_n d_law_477 rfl ?_
  refine r_aload_n d_law_478 rfl ?_
  refine r_iload_n d_law_479 rfl ?_
  refine r_iconst (v := 1) d_law_480 (by decide) ?_
  refine r_iadd d_law_481 ?_
  refine r_scr (j := 6 * k + 1) hb hL d_law_482 (nI_add (6 * k) 1) (by omega) ?_
  refine r_aload_n d_law_483 rfl ?_
  refine r_iload_n d_law_484 rfl ?_
  refine r_iconst (v := 2) d_law_485 (by decide) ?_
  refine r_iadd d_law_486 ?_
  refine r_scr (j := 6 * k + 2) hb hL d_law_487 (nI_add (6 * k) 2) (by omega) ?_
  refine r_aload_n d_law_488 rfl ?_
  refine r_iload_n d_law_489 rfl ?_
  refine r_iconst (v := 3) d_law_490 (by decide) ?_
  refine r_iadd d_law_491 ?_
  refine r_scr (j := 6 * k + 3) hb hL d_law_492 (nI_add (6 * k) 3) (by omega) ?_
  refine r_aload_n d_law_493 rfl ?_
  refine r_iload_n d_law_494 rfl ?_
  refine r_iconst (v := 4) d_law_495 (by decide) ?_
  refine r_iadd d_law_496 ?_
  refine r_scr (j := 6 * k + 4) hb hL d_law_497 (nI_add (6 * k) 4) (by omega) ?_
  refine r_callV (d1 := d - 1) (c1 := 0) (n1 := 0) (ci := 10) (As := [.int (xs (6 * k + 1)), .int (xs (6 * k + 2)), .int (xs (6 * k + 3)), .int (xs (6 * k + 4))]) (rest := [.int x]) d_law_498 mf_X10_sale ml_law_47 A2 f2 rfl rfl rfl rfl (Nat.le_of_ble_eq_true rfl) (by omega) (Nat.zero_le _) (Nat.zero_le _) (fun v' h'' km => ?_)
  obtain ⟨rfl, hJ⟩ := jm v' h'' km
  refine r_icmp_eq (tgt := 1278) d_law_501 (by decide) (fun _ => ?_) (fun z => absurd rfl z)
  exact AW.less (by omega) (by omega) (kk h'' hJ)
set_option maxRecDepth 100000 in
set_option maxHeartbeats 2000000 in
theorem lc_feed {g : GC} {E : ME} {q1 b Ls d c n k : Nat} {xs : Nat → Int32} {nm : String} {K : Option Value → hH → Prop} {h : hH} (hE : MEok E) (hG : GX g) (hd : 53 ≤ d) (hb : RT g .int b Ls (fun j => .int (xs j))) (hL : Ls ≤ 3072) (hk : 6 * k + 6 ≤ Ls) (hJ : JI E q1 h) (kk : ∀ h', JI E q1 h' → AW g R_law code 4 ret nm d c n K 1278 [(3, .int (nI (6 * k))), (2, .ref E.2.2), (1, .ref q1), (0, .ref b)] [] h') : AW g R_law code 4 ret nm d (c + 2) (n + 1003) K 506 [(3, .int (nI (6 * k))), (2, .ref E.2.2), (1, .ref q1), (0, .ref b)] [] h := by
  obtain ⟨am, S, σ, τ, hX, h9, hD, hA, rfl⟩ := hJ
  have jm := J_feed (d := d - 1) hE hG (by omega) hX h9 hD hA (xs (6 * k + 1)) ((Int32.toInt64 (xs (6 * k + 2)) <<< (Int32.toInt64 (32 : Int32) &&& 63)) ||| (Int32.toInt64 (xs (6 * k + 3)) &&& (4294967295 : Int64)))
  generalize xH (mH E τ) am S σ = h at jm ⊢
  obtain ⟨c1, n1, KX, hc1, hn1, A1, ⟨fs, f1⟩, jm⟩ := jm
  refine r_aload_n d_law_506 rfl ?_
  refine r_aload_n d_law_507 rfl ?_
  refine r_iload_n d_law_508 rfl ?_
  refine r_iconst (v := 1) d_law_509 (by decide) ?_
  refine r_iadd d_law_510 ?_
  refine r_scr (j := 6 * k + 1) hb hL d_law_511 (nI_add (6 * k) 1) (by omega) ?_
  refine r_aload_n d_law_512 rfl ?_
  refine r_iload_n d_law_513 rfl ?_
  refine r_iconst (v := 2) d_law_514 (by decide) ?_
  refine r_iadd d_law_515 ?_
  refine r_scr (j := 6 * k + 2) hb hL d_law_516 (nI_add (6 * k) 2) (by omega) ?_
  refine r_i2l d_law_517 ?_
  refine r_bipush (v := 32) d_law_518 (by decide) ?_
  refine r_lshl d_law_520 ?_
  refine r_aload_n d_law_521 rfl ?_
  refine r_iload_n d_law_522 rfl ?_
  refine r_iconst (v := 3) d_law_523 (by decide) ?_
  refine r_iadd d_law_524 ?_
  refine r_scr (j := 6 * k + 3) hb hL d_law_525 (nI_add (6 * k) 3) (by omega) ?_
  refine r_i2l d_law_526 ?_
  refine r_ldc2 d_law_527 kc_law_48 ?_
  refine r_land d_law_530 ?_
  refine r_lor d_law_531 ?_
  refine r_callV (d1 := d - 1) (c1 := c1) (n1 := n1) (ci := 9) (As := [.int (xs (6 * k + 1)), .long ((Int32.toInt64 (xs (6 * k + 2)) <<< (Int32.toInt64 (32 : Int32) &&& 63)) ||| (Int32.toInt64 (xs (6 * k + 3)) &&& (4294967295 : Int64)))]) (rest := []) d_law_532 mf_X9_feed ml_law_50 A1 f1 rfl rfl rfl rfl (Nat.le_of_ble_eq_true rfl) (by omega) (by omega) (by omega) (fun v h' kx => ?_)
  obtain ⟨r, KM, rfl, ⟨x, rfl⟩, A2, ⟨fs2, f2⟩, jm⟩ := jm v h' kx
  refine r_aload_n d_law_535 rfl ?_
  refine r_aload_n d_law_536 rfl ?_
  refine r_iload_n d_law_537 rfl ?_
  refine r_iconst (v := 1) d_law_538 (by decide) ?_
  refine r_iadd d_law_539 ?_
  refine r_scr (j := 6 * k + 1) hb hL d_law_540 (nI_add (6 * k) 1) (by omega) ?_
  refine r_aload_n d_law_541 rfl ?_
  refine r_iload_n d_law_542 rfl ?_
  refine r_iconst (v := 2) d_law_543 (by decide) ?_
  refine r_iadd d_law_544 ?_
  refine r_scr (j := 6 * k + 2) hb hL d_law_545 (nI_add (6 * k) 2) (by omega) ?_
  refine r_i2l d_law_546 ?_
  refine r_bipush (v := 32) d_law_547 (by decide) ?_
  refine r_lshl d_law_549 ?_
  refine r_aload_n d_law_550 rfl ?_
  refine r_iload_n d_law_551 rfl ?_
  refine r_iconst (v := 3) d_law_552 (by decide) ?_
  refine r_iadd d_law_553 ?_
  refine r_scr (j := 6 * k + 3) hb hL d_law_554 (nI_add (6 * k) 3) (by omega) ?_
  refine r_i2l d_law_555 ?_
  refine r_ldc2 d_law_556 kc_law_48 ?_
  refine r_land d_law_559 ?_
  refine r_lor d_law_560 ?_
  refine r_callV (d1 := d - 1) (c1 := 0) (n1 := 0) (ci := 10) (As := [.int (xs (6 * k + 1)), .long ((Int32.toInt64 (xs (6 * k + 2)) <<< (Int32.toInt64 (32 : Int32) &&& 63)) ||| (Int32.toInt64 (xs (6 * k + 3)) &&& (4294967295 : Int64)))]) (rest := [.int x]) d_law_561 mf_X10_feed ml_law_54 A2 f2 rfl rfl rfl rfl (Nat.le_of_ble_eq_true rfl) (by omega) (Nat.zero_le _) (Nat.zero_le _) (fun v' h'' km => ?_)
  obtain ⟨rfl, hJ⟩ := jm v' h'' km
  refine r_icmp_eq (tgt := 1278) d_law_564 (by decide) (fun _ => ?_) (fun z => absurd rfl z)
  exact AW.less (by omega) (by omega) (kk h'' hJ)
set_option maxRecDepth 100000 in
set_option maxHeartbeats 2000000 in
theorem lc_text {g : GC} {E : ME} {q1 b Ls d c n k : Nat} {xs : Nat → Int32} {nm : String} {K : Option Value → hH → Prop} {h : hH} (hE : MEok E) (hG : GX g) (hd : 53 ≤ d) (hb : RT g .int b Ls (fun j => .int (xs j))) (hL : Ls ≤ 3072) (hk : 6 * k + 6 ≤ Ls) (hJ : JI E q1 h) (kk : ∀ h', JI E q1 h' → AW g R_law code 4 ret nm d c n K 1278 [(3, .int (nI (6 * k))), (2, .ref E.2.2), (1, .ref q1), (0, .ref b)] [] h') : AW g R_law code 4 ret nm d (c + 2) (n + 1003) K 569 [(3, .int (nI (6 * k))), (2, .ref E.2.2), (1, .ref q1), (0, .ref b)] [] h := by
  obtain ⟨am, S, σ, τ, hX, h9, hD, hA, rfl⟩ := hJ
  have jm := J_text (d := d - 1) hE hG (by omega) hX h9 hD hA
  generalize xH (mH E τ) am S σ = h at jm ⊢
  obtain ⟨c1, n1, KX, hc1, hn1, A1, ⟨fs, f1⟩, jm⟩ := jm
  refine r_aload_n d_law_569 rfl ?_
  refine r_callV (d1 := d - 1) (c1 := c1) (n1 := n1) (ci := 9) (As := []) (rest := []) d_law_570 mf_X9_text ml_law_55 A1 f1 rfl rfl rfl rfl (Nat.le_of_ble_eq_true rfl) (by omega) (by omega) (by omega) (fun v h' kx => ?_)
  obtain ⟨r, KM, rfl, ⟨x, rfl⟩, A2, ⟨fs2, f2⟩, jm⟩ := jm v h' kx
  refine r_aload_n d_law_573 rfl ?_
  refine r_callV (d1 := d - 1) (c1 := 0) (n1 := 0) (ci := 10) (As := []) (rest := [.int x]) d_law_574 mf_X10_text ml_law_59 A2 f2 rfl rfl rfl rfl (Nat.le_of_ble_eq_true rfl) (by omega) (Nat.zero_le _) (Nat.zero_le _) (fun v' h'' km => ?_)
  obtain ⟨rfl, hJ⟩ := jm v' h'' km
  refine r_icmp_eq (tgt := 1278) d_law_577 (by decide) (fun _ => ?_) (fun z => absurd rfl z)
  exact AW.less (by omega) (by omega) (kk h'' hJ)
set_option maxRecDepth 100000 in
set_option maxHeartbeats 2000000 in
theorem lc_force {g : GC} {E : ME} {q1 b Ls d c n k : Nat} {xs : Nat → Int32} {nm : String} {K : Option Value → hH → Prop} {h : hH} (hE : MEok E) (hG : GX g) (hd : 53 ≤ d) (hb : RT g .int b Ls (fun j => .int (xs j))) (hL : Ls ≤ 3072) (hk : 6 * k + 6 ≤ Ls) (hJ : JI E q1 h) (kk : ∀ h', JI E q1 h' → AW g R_law code 4 ret nm d c n K 1278 [(3, .int (nI (6 * k))), (2, .ref E.2.2), (1, .ref q1), (0, .ref b)] [] h') : AW g R_law code 4 ret nm d (c + 2) (n + 1003) K 582 [(3, .int (nI (6 * k))), (2, .ref E.2.2), (1, .ref q1), (0, .ref b)] [] h := by
  obtain ⟨am, S, σ, τ, hX, h9, hD, hA, rfl⟩ := hJ
  have jm := J_force (d := d - 1) hE hG (by omega) hX h9 hD hA (xs (6 * k + 1))
  generalize xH (mH E τ) am S σ = h at jm ⊢
  obtain ⟨c1, n1, KX, hc1, hn1, A1, ⟨fs, f1⟩, jm⟩ := jm
  refine r_aload_n d_law_582 rfl ?_
  refine r_aload_n d_law_583 rfl ?_
  refine r_iload_n d_law_584 rfl ?_
  refine r_iconst (v := 1) d_law_585 (by decide) ?_
  refine r_iadd d_law_586 ?_
  refine r_scr (j := 6 * k + 1) hb hL d_law_587 (nI_add (6 * k) 1) (by omega) ?_
  refine r_callV (d1 := d - 1) (c1 := c1) (n1 := n1) (ci := 9) (As := [.int (xs (6 * k + 1))]) (rest := []) d_law_588 mf_X9_force ml_law_60 A1 f1 rfl rfl rfl rfl (Nat.le_of_ble_eq_true rfl) (by omega) (by omega) (by omega) (fun v h' kx => ?_)
  obtain ⟨r, KM, rfl, ⟨x, rfl⟩, A2, ⟨fs2, f2⟩, jm⟩ := jm v h' kx
  refine r_aload_n d_law_591 rfl ?_
  refine r_aload_n d_law_592 rfl ?_
  refine r_iload_n d_law_593 rfl ?_
  refine r_iconst (v := 1) d_law_594 (by decide) ?_
  refine r_iadd d_law_595 ?_
  refine r_scr (j := 6 * k + 1) hb hL d_law_596 (nI_add (6 * k) 1) (by omega) ?_
  refine r_callV (d1 := d - 1) (c1 := 0) (n1 := 0) (ci := 10) (As := [.int (xs (6 * k + 1))]) (rest := [.int x]) d_law_597 mf_X10_force ml_law_64 A2 f2 rfl rfl rfl rfl (Nat.le_of_ble_eq_true rfl) (by omega) (Nat.zero_le _) (Nat.zero_le _) (fun v' h'' km => ?_)
  obtain ⟨rfl, hJ⟩ := jm v' h'' km
  refine r_icmp_eq (tgt := 1278) d_law_600 (by decide) (fun _ => ?_) (fun z => absurd rfl z)
  exact AW.less (by omega) (by omega) (kk h'' hJ)
set_option maxRecDepth 100000 in
set_option maxHeartbeats 2000000 in
theorem lc_left {g : GC} {E : ME} {q1 b Ls d c n k : Nat} {xs : Nat → Int32} {nm : String} {K : Option Value → hH → Prop} {h : hH} (hE : MEok E) (hG : GX g) (hd : 53 ≤ d) (hb : RT g .int b Ls (fun j => .int (xs j))) (hL : Ls ≤ 3072) (hk : 6 * k + 6 ≤ Ls) (hJ : JI E q1 h) (kk : ∀ h', JI E q1 h' → AW g R_law code 4 ret nm d c n K 1278 [(3, .int (nI (6 * k))), (2, .ref E.2.2), (1, .ref q1), (0, .ref b)] [] h') : AW g R_law code 4 ret nm d (c + 2) (n + 1003) K 605 [(3, .int (nI (6 * k))), (2, .ref E.2.2), (1, .ref q1), (0, .ref b)] [] h := by
  obtain ⟨am, S, σ, τ, hX, h9, hD, hA, rfl⟩ := hJ
  have jm := J_left (d := d - 1) hE hG (by omega) hX h9 hD hA (xs (6 * k + 1)) (xs (6 * k + 2))
  generalize xH (mH E τ) am S σ = h at jm ⊢
  obtain ⟨c1, n1, KX, hc1, hn1, A1, ⟨fs, f1⟩, jm⟩ := jm
  refine r_aload_n d_law_605 rfl ?_
  refine r_aload_n d_law_606 rfl ?_
  refine r_iload_n d_law_607 rfl ?_
  refine r_iconst (v := 1) d_law_608 (by decide) ?_
  refine r_iadd d_law_609 ?_
  refine r_scr (j := 6 * k + 1) hb hL d_law_610 (nI_add (6 * k) 1) (by omega) ?_
  refine r_aload_n d_law_611 rfl ?_
  refine r_iload_n d_law_612 rfl ?_
  refine r_iconst (v := 2) d_law_613 (by decide) ?_
  refine r_iadd d_law_614 ?_
  refine r_scr (j := 6 * k + 2) hb hL d_law_615 (nI_add (6 * k) 2) (by omega) ?_
  refine r_callV (d1 := d - 1) (c1 := c1) (n1 := n1) (ci := 9) (As := [.int (xs (6 * k + 1)), .int (xs (6 * k + 2))]) (rest := []) d_law_616 mf_X9_left ml_law_65 A1 f1 rfl rfl rfl rfl (Nat.le_of_ble_eq_true rfl) (by omega) (by omega) (by omega) (fun v h' kx => ?_)
  obtain ⟨r, KM, rfl, ⟨x, rfl⟩, A2, ⟨fs2, f2⟩, jm⟩ := jm v h' kx
  refine r_aload_n d_law_619 rfl ?_
  refine r_aload_n d_law_620 rfl ?_
  refine r_iload_n d_law_621 rfl ?_
  refine r_iconst (v := 1) d_law_622 (by decide) ?_
  refine r_iadd d_law_623 ?_
  refine r_scr (j := 6 * k + 1) hb hL d_law_624 (nI_add (6 * k) 1) (by omega) ?_
  refine r_aload_n d_law_625 rfl ?_
  refine r_iload_n d_law_626 rfl ?_
  refine r_iconst (v := 2) d_law_627 (by decide) ?_
  refine r_iadd d_law_628 ?_
  refine r_scr (j := 6 * k + 2) hb hL d_law_629 (nI_add (6 * k) 2) (by omega) ?_
  refine r_callV (d1 := d - 1) (c1 := 0) (n1 := 0) (ci := 10) (As := [.int (xs (6 * k + 1)), .int (xs (6 * k + 2))]) (rest := [.int x]) d_law_630 mf_X10_left ml_law_68 A2 f2 rfl rfl rfl rfl (Nat.le_of_ble_eq_true rfl) (by omega) (Nat.zero_le _) (Nat.zero_le _) (fun v' h'' km => ?_)
  obtain ⟨rfl, hJ⟩ := jm v' h'' km
  refine r_icmp_eq (tgt := 1278) d_law_633 (by decide) (fun _ => ?_) (fun z => absurd rfl z)
  exact AW.less (by omega) (by omega) (kk h'' hJ)
set_option maxRecDepth 100000 in
set_option maxHeartbeats 2000000 in
theorem lc_odds {g : GC} {E : ME} {q1 b Ls d c n k : Nat} {xs : Nat → Int32} {nm : String} {K : Option Value → hH → Prop} {h : hH} (hE : MEok E) (hG : GX g) (hd : 53 ≤ d) (hb : RT g .int b Ls (fun j => .int (xs j))) (hL : Ls ≤ 3072) (hk : 6 * k + 6 ≤ Ls) (hJ : JI E q1 h) (kk : ∀ h', JI E q1 h' → AW g R_law code 4 ret nm d c n K 1278 [(3, .int (nI (6 * k))), (2, .ref E.2.2), (1, .ref q1), (0, .ref b)] [] h') : AW g R_law code 4 ret nm d (c + 2) (n + 1003) K 638 [(3, .int (nI (6 * k))), (2, .ref E.2.2), (1, .ref q1), (0, .ref b)] [] h := by
  obtain ⟨am, S, σ, τ, hX, h9, hD, hA, rfl⟩ := hJ
  have jm := J_odds (d := d - 1) hE hG (by omega) hX h9 hD hA (xs (6 * k + 1)) (xs (6 * k + 2))
  generalize xH (mH E τ) am S σ = h at jm ⊢
  obtain ⟨c1, n1, KX, hc1, hn1, A1, ⟨fs, f1⟩, jm⟩ := jm
  refine r_aload_n d_law_638 rfl ?_
  refine r_aload_n d_law_639 rfl ?_
  refine r_iload_n d_law_640 rfl ?_
  refine r_iconst (v := 1) d_law_641 (by decide) ?_
  refine r_iadd d_law_642 ?_
  refine r_scr (j := 6 * k + 1) hb hL d_law_643 (nI_add (6 * k) 1) (by omega) ?_
  refine r_aload_n d_law_644 rfl ?_
  refine r_iload_n d_law_645 rfl ?_
  refine r_iconst (v := 2) d_law_646 (by decide) ?_
  refine r_iadd d_law_647 ?_
  refine r_scr (j := 6 * k + 2) hb hL d_law_648 (nI_add (6 * k) 2) (by omega) ?_
  refine r_callV (d1 := d - 1) (c1 := c1) (n1 := n1) (ci := 9) (As := [.int (xs (6 * k + 1)), .int (xs (6 * k + 2))]) (rest := []) d_law_649 mf_X9_odds ml_law_69 A1 f1 rfl rfl rfl rfl (Nat.le_of_ble_eq_true rfl) (by omega) (by omega) (by omega) (fun v h' kx => ?_)
  obtain ⟨r, KM, rfl, ⟨x, rfl⟩, A2, ⟨fs2, f2⟩, jm⟩ := jm v h' kx
  refine r_aload_n d_law_652 rfl ?_
  refine r_aload_n d_law_653 rfl ?_
  refine r_iload_n d_law_654 rfl ?_
  refine r_iconst (v := 1) d_law_655 (by decide) ?_
  refine r_iadd d_law_656 ?_
  refine r_scr (j := 6 * k + 1) hb hL d_law_657 (nI_add (6 * k) 1) (by omega) ?_
  refine r_aload_n d_law_658 rfl ?_
  refine r_iload_n d_law_659 rfl ?_
  refine r_iconst (v := 2) d_law_660 (by decide) ?_
  refine r_iadd d_law_661 ?_
  refine r_scr (j := 6 * k + 2) hb hL d_law_662 (nI_add (6 * k) 2) (by omega) ?_
  refine r_callV (d1 := d - 1) (c1 := 0) (n1 := 0) (ci := 10) (As := [.int (xs (6 * k + 1)), .int (xs (6 * k + 2))]) (rest := [.long x]) d_law_663 mf_X10_odds ml_law_73 A2 f2 rfl rfl rfl rfl (Nat.le_of_ble_eq_true rfl) (by omega) (Nat.zero_le _) (Nat.zero_le _) (fun v' h'' km => ?_)
  obtain ⟨rfl, hJ⟩ := jm v' h'' km
  refine r_lcmp d_law_666 ?_
  refine r_if_eq (tgt := 1278) d_law_667 (by decide) (fun _ => ?_) (fun z => absurd ((lg_eq x x).mpr rfl) z)
  exact AW.less (by omega) (by omega) (kk h'' hJ)
set_option maxRecDepth 100000 in
set_option maxHeartbeats 2000000 in
theorem lc_source {g : GC} {E : ME} {q1 b Ls d c n k : Nat} {xs : Nat → Int32} {nm : String} {K : Option Value → hH → Prop} {h : hH} (hE : MEok E) (hG : GX g) (hd : 53 ≤ d) (hb : RT g .int b Ls (fun j => .int (xs j))) (hL : Ls ≤ 3072) (hk : 6 * k + 6 ≤ Ls) (hJ : JI E q1 h) (kk : ∀ h', JI E q1 h' → AW g R_law code 4 ret nm d c n K 1278 [(3, .int (nI (6 * k))), (2, .ref E.2.2), (1, .ref q1), (0, .ref b)] [] h') : AW g R_law code 4 ret nm d (c + 2) (n + 1003) K 672 [(3, .int (nI (6 * k))), (2, .ref E.2.2), (1, .ref q1), (0, .ref b)] [] h := by
  obtain ⟨am, S, σ, τ, hX, h9, hD, hA, rfl⟩ := hJ
  have jm := J_source (d := d - 1) hE hG (by omega) hX h9 hD hA (xs (6 * k + 1)) (xs (6 * k + 2))
  generalize xH (mH E τ) am S σ = h at jm ⊢
  obtain ⟨c1, n1, KX, hc1, hn1, A1, ⟨fs, f1⟩, jm⟩ := jm
  refine r_aload_n d_law_672 rfl ?_
  refine r_aload_n d_law_673 rfl ?_
  refine r_iload_n d_law_674 rfl ?_
  refine r_iconst (v := 1) d_law_675 (by decide) ?_
  refine r_iadd d_law_676 ?_
  refine r_scr (j := 6 * k + 1) hb hL d_law_677 (nI_add (6 * k) 1) (by omega) ?_
  refine r_aload_n d_law_678 rfl ?_
  refine r_iload_n d_law_679 rfl ?_
  refine r_iconst (v := 2) d_law_680 (by decide) ?_
  refine r_iadd d_law_681 ?_
  refine r_scr (j := 6 * k + 2) hb hL d_law_682 (nI_add (6 * k) 2) (by omega) ?_
  refine r_callV (d1 := d - 1) (c1 := c1) (n1 := n1) (ci := 9) (As := [.int (xs (6 * k + 1)), .int (xs (6 * k + 2))]) (rest := []) d_law_683 mf_X9_source ml_law_74 A1 f1 rfl rfl rfl rfl (Nat.le_of_ble_eq_true rfl) (by omega) (by omega) (by omega) (fun v h' kx => ?_)
  obtain ⟨r, KM, rfl, ⟨x, rfl⟩, A2, ⟨fs2, f2⟩, jm⟩ := jm v h' kx
  refine r_aload_n d_law_686 rfl ?_
  refine r_aload_n d_law_687 rfl ?_
  refine r_iload_n d_law_688 rfl ?_
  refine r_iconst (v := 1) d_law_689 (by decide) ?_
  refine r_iadd d_law_690 ?_
  refine r_scr (j := 6 * k + 1) hb hL d_law_691 (nI_add (6 * k) 1) (by omega) ?_
  refine r_aload_n d_law_692 rfl ?_
  refine r_iload_n d_law_693 rfl ?_
  refine r_iconst (v := 2) d_law_694 (by decide) ?_
  refine r_iadd d_law_695 ?_
  refine r_scr (j := 6 * k + 2) hb hL d_law_696 (nI_add (6 * k) 2) (by omega) ?_
  refine r_callV (d1 := d - 1) (c1 := 0) (n1 := 0) (ci := 10) (As := [.int (xs (6 * k + 1)), .int (xs (6 * k + 2))]) (rest := [.int x]) d_law_697 mf_X10_source ml_law_77 A2 f2 rfl rfl rfl rfl (Nat.le_of_ble_eq_true rfl) (by omega) (Nat.zero_le _) (Nat.zero_le _) (fun v' h'' km => ?_)
  obtain ⟨rfl, hJ⟩ := jm v' h'' km
  refine r_icmp_eq (tgt := 1278) d_law_700 (by decide) (fun _ => ?_) (fun z => absurd rfl z)
  exact AW.less (by omega) (by omega) (kk h'' hJ)
set_option maxRecDepth 100000 in
set_option maxHeartbeats 2000000 in
theorem lc_worst {g : GC} {E : ME} {q1 b Ls d c n k : Nat} {xs : Nat → Int32} {nm : String} {K : Option Value → hH → Prop} {h : hH} (hE : MEok E) (hG : GX g) (hd : 53 ≤ d) (hb : RT g .int b Ls (fun j => .int (xs j))) (hL : Ls ≤ 3072) (hk : 6 * k + 6 ≤ Ls) (hJ : JI E q1 h) (kk : ∀ h', JI E q1 h' → AW g R_law code 4 ret nm d c n K 1278 [(3, .int (nI (6 * k))), (2, .ref E.2.2), (1, .ref q1), (0, .ref b)] [] h') : AW g R_law code 4 ret nm d (c + 2) (n + 1003) K 705 [(3, .int (nI (6 * k))), (2, .ref E.2.2), (1, .ref q1), (0, .ref b)] [] h := by
  obtain ⟨am, S, σ, τ, hX, h9, hD, hA, rfl⟩ := hJ
  have jm := J_worst (d := d - 1) hE hG (by omega) hX h9 hD hA
  generalize xH (mH E τ) am S σ = h at jm ⊢
  obtain ⟨c1, n1, KX, hc1, hn1, A1, ⟨fs, f1⟩, jm⟩ := jm
  refine r_aload_n d_law_705 rfl ?_
  refine r_callV (d1 := d - 1) (c1 := c1) (n1 := n1) (ci := 9) (As := []) (rest := []) d_law_706 mf_X9_worst ml_law_78 A1 f1 rfl rfl rfl rfl (Nat.le_of_ble_eq_true rfl) (by omega) (by omega) (by omega) (fun v h' kx => ?_)
  obtain ⟨r, KM, rfl, ⟨x, rfl⟩, A2, ⟨fs2, f2⟩, jm⟩ := jm v h' kx
  refine r_aload_n d_law_709 rfl ?_
  refine r_callV (d1 := d - 1) (c1 := 0) (n1 := 0) (ci := 10) (As := []) (rest := [.int x]) d_law_710 mf_X10_worst ml_law_81 A2 f2 rfl rfl rfl rfl (Nat.le_of_ble_eq_true rfl) (by omega) (Nat.zero_le _) (Nat.zero_le _) (fun v' h'' km => ?_)
  obtain ⟨rfl, hJ⟩ := jm v' h'' km
  refine r_icmp_eq (tgt := 1278) d_law_713 (by decide) (fun _ => ?_) (fun z => absurd rfl z)
  exact AW.less (by omega) (by omega) (kk h'' hJ)
set_option maxRecDepth 100000 in
set_option maxHeartbeats 2000000 in
theorem lc_mix {g : GC} {E : ME} {q1 b Ls d c n k : Nat} {xs : Nat → Int32} {nm : String} {K : Option Value → hH → Prop} {h : hH} (hE : MEok E) (hG : GX g) (hd : 53 ≤ d) (hb : RT g .int b Ls (fun j => .int (xs j))) (hL : Ls ≤ 3072) (hk : 6 * k + 6 ≤ Ls) (hJ : JI E q1 h) (kk : ∀ h', JI E q1 h' → AW g R_law code 4 ret nm d c n K 1278 [(3, .int (nI (6 * k))), (2, .ref E.2.2), (1, .ref q1), (0, .ref b)] [] h') : AW g R_law code 4 ret nm d (c + 2) (n + 1003) K 718 [(3, .int (nI (6 * k))), (2, .ref E.2.2), (1, .ref q1), (0, .ref b)] [] h := by
  obtain ⟨am, S, σ, τ, hX, h9, hD, hA, rfl⟩ := hJ
  have jm := J_mix (d := d - 1) hE hG (by omega) hX h9 hD hA (xs (6 * k + 1)) (xs (6 * k + 2)) (xs (6 * k + 3)) (xs (6 * k + 4))
  generalize xH (mH E τ) am S σ = h at jm ⊢
  obtain ⟨c1, n1, KX, hc1, hn1, A1, ⟨fs, f1⟩, jm⟩ := jm
  refine r_aload_n d_law_718 rfl ?_
  refine r_aload_n d_law_719 rfl ?_
  refine r_iload_n d_law_720 rfl ?_
  refine r_iconst (v := 1) d_law_721 (by decide) ?_
  refine r_iadd d_law_722 ?_
  refine r_scr (j := 6 * k + 1) hb hL d_law_723 (nI_add (6 * k) 1) (by omega) ?_
  refine r_aload_n d_law_724 rfl ?_
  refine r_iload_n d_law_725 rfl ?_
  refine r_iconst (v := 2) d_law_726 (by decide) ?_
  refine r_iadd d_law_727 ?_
  refine r_scr (j := 6 * k + 2) hb hL d_law_728 (nI_add (6 * k) 2) (by omega) ?_
  refine r_aload_n d_law_729 rfl ?_
  refine r_iload_n d_law_730 rfl ?_
  refine r_iconst (v := 3) d_law_731 (by decide) ?_
  refine r_iadd d_law_732 ?_
  refine r_scr (j := 6 * k + 3) hb hL d_law_733 (nI_add (6 * k) 3) (by omega) ?_
  refine r_aload_n d_law_734 rfl ?_
  refine r_iload_n d_law_735 rfl ?_
  refine r_iconst (v := 4) d_law_736 (by decide) ?_
  refine r_iadd d_law_737 ?_
  refine r_scr (j := 6 * k + 4) hb hL d_law_738 (nI_add (6 * k) 4) (by omega) ?_
  refine r_callV (d1 := d - 1) (c1 := c1) (n1 := n1) (ci := 9) (As := [.int (xs (6 * k + 1)), .int (xs (6 * k + 2)), .int (xs (6 * k + 3)), .int (xs (6 * k + 4))]) (rest := []) d_law_739 mf_X9_mix ml_law_82 A1 f1 rfl rfl rfl rfl (Nat.le_of_ble_eq_true rfl) (by omega) (by omega) (by omega) (fun v h' kx => ?_)
  obtain ⟨r, KM, rfl, ⟨x, rfl⟩, A2, ⟨fs2, f2⟩, jm⟩ := jm v h' kx
  refine r_aload_n d_law_742 rfl ?_
  refine r_aload_n d_law_743 rfl ?_
  refine r_iload_n d_law_744 rfl ?_
  refine r_iconst (v := 1) d_law_745 (by decide) ?_
  refine r_iadd d_law_746 ?_
  refine r_scr (j := 6 * k + 1) hb hL d_law_747 (nI_add (6 * k) 1) (by omega) ?_
  refine r_aload_n d_law_748 rfl ?_
  refine r_iload_n d_law_749 rfl ?_
  refine r_iconst (v := 2) d_law_750 (by decide) ?_
  refine r_iadd d_law_751 ?_
  refine r_scr (j := 6 * k + 2) hb hL d_law_752 (nI_add (6 * k) 2) (by omega) ?_
  refine r_aload_n d_law_753 rfl ?_
  refine r_iload_n d_law_754 rfl ?_
  refine r_iconst (v := 3) d_law_755 (by decide) ?_
  refine r_iadd d_law_756 ?_
  refine r_scr (j := 6 * k + 3) hb hL d_law_757 (nI_add (6 * k) 3) (by omega) ?_
  refine r_aload_n d_law_758 rfl ?_
  refine r_iload_n d_law_759 rfl ?_
  refine r_iconst (v := 4) d_law_760 (by decide) ?_
  refine r_iadd d_law_761 ?_
  refine r_scr (j := 6 * k + 4) hb hL d_law_762 (nI_add (6 * k) 4) (by omega) ?_
  refine r_callV (d1 := d - 1) (c1 := 0) (n1 := 0) (ci := 10) (As := [.int (xs (6 * k + 1)), .int (xs (6 * k + 2)), .int (xs (6 * k + 3)), .int (xs (6 * k + 4))]) (rest := [.int x]) d_law_763 mf_X10_mix ml_law_85 A2 f2 rfl rfl rfl rfl (Nat.le_of_ble_eq_true rfl) (by omega) (Nat.zero_le _) (Nat.zero_le _) (fun v' h'' km => ?_)
  obtain ⟨rfl, hJ⟩ := jm v' h'' km
  refine r_icmp_eq (tgt := 1278) d_law_766 (by decide) (fun _ => ?_) (fun z => absurd rfl z)
  exact AW.less (by omega) (by omega) (kk h'' hJ)
set_option maxRecDepth 100000 in
set_option maxHeartbeats 2000000 in
theorem lc_said {g : GC} {E : ME} {q1 b Ls d c n k : Nat} {xs : Nat → Int32} {nm : String} {K : Option Value → hH → Prop} {h : hH} (hE : MEok E) (hG : GX g) (hd : 53 ≤ d) (hb : RT g .int b Ls (fun j => .int (xs j))) (hL : Ls ≤ 3072) (hk : 6 * k + 6 ≤ Ls) (hJ : JI E q1 h) (kk : ∀ h', JI E q1 h' → AW g R_law code 4 ret nm d c n K 1278 [(3, .int (nI (6 * k))), (2, .ref E.2.2), (1, .ref q1), (0, .ref b)] [] h') : AW g R_law code 4 ret nm d (c + 2) (n + 1003) K 771 [(3, .int (nI (6 * k))), (2, .ref E.2.2), (1, .ref q1), (0, .ref b)] [] h := by
  obtain ⟨am, S, σ, τ, hX, h9, hD, hA, rfl⟩ := hJ
  have jm := J_said (d := d - 1) hE hG (by omega) hX h9 hD hA (xs (6 * k + 1)) (xs (6 * k + 2)) (xs (6 * k + 3)) (xs (6 * k + 4))
  generalize xH (mH E τ) am S σ = h at jm ⊢
  obtain ⟨c1, n1, KX, hc1, hn1, A1, ⟨fs, f1⟩, jm⟩ := jm
  refine r_aload_n d_law_771 rfl ?_
  refine r_aload_n d_law_772 rfl ?_
  refine r_iload_n d_law_773 rfl ?_
  refine r_iconst (v := 1) d_law_774 (by decide) ?_
  refine r_iadd d_law_775 ?_
  refine r_scr (j := 6 * k + 1) hb hL d_law_776 (nI_add (6 * k) 1) (by omega) ?_
  refine r_aload_n d_law_777 rfl ?_
  refine r_iload_n d_law_778 rfl ?_
  refine r_iconst (v := 2) d_law_779 (by decide) ?_
  refine r_iadd d_law_780 ?_
  refine r_scr (j := 6 * k + 2) hb hL d_law_781 (nI_add (6 * k) 2) (by omega) ?_
  refine r_aload_n d_law_782 rfl ?_
  refine r_iload_n d_law_783 rfl ?_
  refine r_iconst (v := 3) d_law_784 (by decide) ?_
  refine r_iadd d_law_785 ?_
  refine r_scr (j := 6 * k + 3) hb hL d_law_786 (nI_add (6 * k) 3) (by omega) ?_
  refine r_aload_n d_law_787 rfl ?_
  refine r_iload_n d_law_788 rfl ?_
  refine r_iconst (v := 4) d_law_789 (by decide) ?_
  refine r_iadd d_law_790 ?_
  refine r_scr (j := 6 * k + 4) hb hL d_law_791 (nI_add (6 * k) 4) (by omega) ?_
  refine r_callV (d1 := d - 1) (c1 := c1) (n1 := n1) (ci := 9) (As := [.int (xs (6 * k + 1)), .int (xs (6 * k + 2)), .int (xs (6 * k + 3)), .int (xs (6 * k + 4))]) (rest := []) d_law_792 mf_X9_said ml_law_86 A1 f1 rfl rfl rfl rfl (Nat.le_of_ble_eq_true rfl) (by omega) (by omega) (by omega) (fun v h' kx => ?_)
  obtain ⟨r, KM, rfl, ⟨x, rfl⟩, A2, ⟨fs2, f2⟩, jm⟩ := jm v h' kx
  refine r_aload_n d_law_795 rfl ?_
  refine r_aload_n d_law_796 rfl ?_
  refine r_iload_n d_law_797 rfl ?_
  refine r_iconst (v := 1) d_law_798 (by decide) ?_
  refine r_iadd d_law_799 ?_
  refine r_scr (j := 6 * k + 1) hb hL d_law_800 (nI_add (6 * k) 1) (by omega) ?_
  refine r_aload_n d_law_801 rfl ?_
  refine r_iload_n d_law_802 rfl ?_
  refine r_iconst (v := 2) d_law_803 (by decide) ?_
  refine r_iadd d_law_804 ?_
  refine r_scr (j := 6 * k + 2) hb hL d_law_805 (nI_add (6 * k) 2) (by omega) ?_
  refine r_aload_n d_law_806 rfl ?_
  refine r_iload_n d_law_807 rfl ?_
  refine r_iconst (v := 3) d_law_808 (by decide) ?_
  refine r_iadd d_law_809 ?_
  refine r_scr (j := 6 * k + 3) hb hL d_law_810 (nI_add (6 * k) 3) (by omega) ?_
  refine r_aload_n d_law_811 rfl ?_
  refine r_iload_n d_law_812 rfl ?_
  refine r_iconst (v := 4) d_law_813 (by decide) ?_
  refine r_iadd d_law_814 ?_
  refine r_scr (j := 6 * k + 4) hb hL d_law_815 (nI_add (6 * k) 4) (by omega) ?_
  refine r_callV (d1 := d - 1) (c1 := 0) (n1 := 0) (ci := 10) (As := [.int (xs (6 * k + 1)), .int (xs (6 * k + 2)), .int (xs (6 * k + 3)), .int (xs (6 * k + 4))]) (rest := [.int x]) d_law_816 mf_X10_said ml_law_89 A2 f2 rfl rfl rfl rfl (Nat.le_of_ble_eq_true rfl) (by omega) (Nat.zero_le _) (Nat.zero_le _) (fun v' h'' km => ?_)
  obtain ⟨rfl, hJ⟩ := jm v' h'' km
  refine r_icmp_eq (tgt := 1278) d_law_819 (by decide) (fun _ => ?_) (fun z => absurd rfl z)
  exact AW.less (by omega) (by omega) (kk h'' hJ)
set_option maxRecDepth 100000 in
set_option maxHeartbeats 2000000 in
theorem lc_tongue {g : GC} {E : ME} {q1 b Ls d c n k : Nat} {xs : Nat → Int32} {nm : String} {K : Option Value → hH → Prop} {h : hH} (hE : MEok E) (hG : GX g) (hd : 53 ≤ d) (hb : RT g .int b Ls (fun j => .int (xs j))) (hL : Ls ≤ 3072) (hk : 6 * k + 6 ≤ Ls) (hJ : JI E q1 h) (kk : ∀ h', JI E q1 h' → AW g R_law code 4 ret nm d c n K 1278 [(3, .int (nI (6 * k))), (2, .ref E.2.2), (1, .ref q1), (0, .ref b)] [] h') : AW g R_law code 4 ret nm d (c + 2) (n + 1003) K 824 [(3, .int (nI (6 * k))), (2, .ref E.2.2), (1, .ref q1), (0, .ref b)] [] h := by
  obtain ⟨am, S, σ, τ, hX, h9, hD, hA, rfl⟩ := hJ
  have jm := J_tongue (d := d - 1) hE hG (by omega) hX h9 hD hA (xs (6 * k + 1)) (xs (6 * k + 2))
  generalize xH (mH E τ) am S σ = h at jm ⊢
  obtain ⟨c1, n1, KX, hc1, hn1, A1, ⟨fs, f1⟩, jm⟩ := jm
  refine r_aload_n d_law_824 rfl ?_
  refine r_aload_n d_law_825 rfl ?_
  refine r_iload_n d_law_826 rfl ?_
  refine r_iconst (v := 1) d_law_827 (by decide) ?_
  refine r_iadd d_law_828 ?_
  refine r_scr (j := 6 * k + 1) hb hL d_law_829 (nI_add (6 * k) 1) (by omega) ?_
  refine r_aload_n d_law_830 rfl ?_
  refine r_iload_n d_law_831 rfl ?_
  refine r_iconst (v := 2) d_law_832 (by decide) ?_
  refine r_iadd d_law_833 ?_
  refine r_scr (j := 6 * k + 2) hb hL d_law_834 (nI_add (6 * k) 2) (by omega) ?_
  refine r_callV (d1 := d - 1) (c1 := c1) (n1 := n1) (ci := 9) (As := [.int (xs (6 * k + 1)), .int (xs (6 * k + 2))]) (rest := []) d_law_835 mf_X9_tongue ml_law_90 A1 f1 rfl rfl rfl rfl (Nat.le_of_ble_eq_true rfl) (by omega) (by omega) (by omega) (fun v h' kx => ?_)
  obtain ⟨r, KM, rfl, ⟨x, rfl⟩, A2, ⟨fs2, f2⟩, jm⟩ := jm v h' kx
  refine r_aload_n d_law_838 rfl ?_
  refine r_aload_n d_law_839 rfl ?_
  refine r_iload_n d_law_840 rfl ?_
  refine r_iconst (v := 1) d_law_841 (by decide) ?_
  refine r_iadd d_law_842 ?_
  refine r_scr (j := 6 * k + 1) hb hL d_law_843 (nI_add (6 * k) 1) (by omega) ?_
  refine r_aload_n d_law_844 rfl ?_
  refine r_iload_n d_law_845 rfl ?_
  refine r_iconst (v := 2) d_law_846 (by decide) ?_
  refine r_iadd d_law_847 ?_
  refine r_scr (j := 6 * k + 2) hb hL d_law_848 (nI_add (6 * k) 2) (by omega) ?_
  refine r_callV (d1 := d - 1) (c1 := 0) (n1 := 0) (ci := 10) (As := [.int (xs (6 * k + 1)), .int (xs (6 * k + 2))]) (rest := [.int x]) d_law_849 mf_X10_tongue ml_law_93 A2 f2 rfl rfl rfl rfl (Nat.le_of_ble_eq_true rfl) (by omega) (Nat.zero_le _) (Nat.zero_le _) (fun v' h'' km => ?_)
  obtain ⟨rfl, hJ⟩ := jm v' h'' km
  refine r_icmp_eq (tgt := 1278) d_law_852 (by decide) (fun _ => ?_) (fun z => absurd rfl z)
  exact AW.less (by omega) (by omega) (kk h'' hJ)
set_option maxRecDepth 100000 in
set_option maxHeartbeats 2000000 in
theorem lc_opened {g : GC} {E : ME} {q1 b Ls d c n k : Nat} {xs : Nat → Int32} {nm : String} {K : Option Value → hH → Prop} {h : hH} (hE : MEok E) (hG : GX g) (hd : 53 ≤ d) (hb : RT g .int b Ls (fun j => .int (xs j))) (hL : Ls ≤ 3072) (hk : 6 * k + 6 ≤ Ls) (hJ : JI E q1 h) (kk : ∀ h', JI E q1 h' → AW g R_law code 4 ret nm d c n K 1278 [(3, .int (nI (6 * k))), (2, .ref E.2.2), (1, .ref q1), (0, .ref b)] [] h') : AW g R_law code 4 ret nm d (c + 2) (n + 1003) K 857 [(3, .int (nI (6 * k))), (2, .ref E.2.2), (1, .ref q1), (0, .ref b)] [] h := by
  obtain ⟨am, S, σ, τ, hX, h9, hD, hA, rfl⟩ := hJ
  have jm := J_opened (d := d - 1) hE hG (by omega) hX h9 hD hA (xs (6 * k + 1)) (xs (6 * k + 2))
  generalize xH (mH E τ) am S σ = h at jm ⊢
  obtain ⟨c1, n1, KX, hc1, hn1, A1, ⟨fs, f1⟩, jm⟩ := jm
  refine r_aload_n d_law_857 rfl ?_
  refine r_aload_n d_law_858 rfl ?_
  refine r_iload_n d_law_859 rfl ?_
  refine r_iconst (v := 1) d_law_860 (by decide) ?_
  refine r_iadd d_law_861 ?_
  refine r_scr (j := 6 * k + 1) hb hL d_law_862 (nI_add (6 * k) 1) (by omega) ?_
  refine r_aload_n d_law_863 rfl ?_
  refine r_iload_n d_law_864 rfl ?_
  refine r_iconst (v := 2) d_law_865 (by decide) ?_
  refine r_iadd d_law_866 ?_
  refine r_scr (j := 6 * k + 2) hb hL d_law_867 (nI_add (6 * k) 2) (by omega) ?_
  refine r_callV (d1 := d - 1) (c1 := c1) (n1 := n1) (ci := 9) (As := [.int (xs (6 * k + 1)), .int (xs (6 * k + 2))]) (rest := []) d_law_868 mf_X9_opened ml_law_94 A1 f1 rfl rfl rfl rfl (Nat.le_of_ble_eq_true rfl) (by omega) (by omega) (by omega) (fun v h' kx => ?_)
  obtain ⟨r, KM, rfl, ⟨x, rfl⟩, A2, ⟨fs2, f2⟩, jm⟩ := jm v h' kx
  refine r_aload_n d_law_871 rfl ?_
  refine r_aload_n d_law_872 rfl ?_
  refine r_iload_n d_law_873 rfl ?_
  refine r_iconst (v := 1) d_law_874 (by decide) ?_
  refine r_iadd d_law_875 ?_
  refine r_scr (j := 6 * k + 1) hb hL d_law_876 (nI_add (6 * k) 1) (by omega) ?_
  refine r_aload_n d_law_877 rfl ?_
  refine r_iload_n d_law_878 rfl ?_
  refine r_iconst (v := 2) d_law_879 (by decide) ?_
  refine r_iadd d_law_880 ?_
  refine r_scr (j := 6 * k + 2) hb hL d_law_881 (nI_add (6 * k) 2) (by omega) ?_
  refine r_callV (d1 := d - 1) (c1 := 0) (n1 := 0) (ci := 10) (As := [.int (xs (6 * k + 1)), .int (xs (6 * k + 2))]) (rest := [.int x]) d_law_882 mf_X10_opened ml_law_97 A2 f2 rfl rfl rfl rfl (Nat.le_of_ble_eq_true rfl) (by omega) (Nat.zero_le _) (Nat.zero_le _) (fun v' h'' km => ?_)
  obtain ⟨rfl, hJ⟩ := jm v' h'' km
  refine r_icmp_eq (tgt := 1278) d_law_885 (by decide) (fun _ => ?_) (fun z => absurd rfl z)
  exact AW.less (by omega) (by omega) (kk h'' hJ)
set_option maxRecDepth 100000 in
set_option maxHeartbeats 2000000 in
theorem lc_owed {g : GC} {E : ME} {q1 b Ls d c n k : Nat} {xs : Nat → Int32} {nm : String} {K : Option Value → hH → Prop} {h : hH} (hE : MEok E) (hG : GX g) (hd : 53 ≤ d) (hb : RT g .int b Ls (fun j => .int (xs j))) (hL : Ls ≤ 3072) (hk : 6 * k + 6 ≤ Ls) (hJ : JI E q1 h) (kk : ∀ h', JI E q1 h' → AW g R_law code 4 ret nm d c n K 1278 [(3, .int (nI (6 * k))), (2, .ref E.2.2), (1, .ref q1), (0, .ref b)] [] h') : AW g R_law code 4 ret nm d (c + 2) (n + 1003) K 890 [(3, .int (nI (6 * k))), (2, .ref E.2.2), (1, .ref q1), (0, .ref b)] [] h := by
  obtain ⟨am, S, σ, τ, hX, h9, hD, hA, rfl⟩ := hJ
  have jm := J_owed (d := d - 1) hE hG (by omega) hX h9 hD hA (xs (6 * k + 1))
  generalize xH (mH E τ) am S σ = h at jm ⊢
  obtain ⟨c1, n1, KX, hc1, hn1, A1, ⟨fs, f1⟩, jm⟩ := jm
  refine r_aload_n d_law_890 rfl ?_
  refine r_aload_n d_law_891 rfl ?_
  refine r_iload_n d_law_892 rfl ?_
  refine r_iconst (v := 1) d_law_893 (by decide) ?_
  refine r_iadd d_law_894 ?_
  refine r_scr (j := 6 * k + 1) hb hL d_law_895 (nI_add (6 * k) 1) (by omega) ?_
  refine r_callV (d1 := d - 1) (c1 := c1) (n1 := n1) (ci := 9) (As := [.int (xs (6 * k + 1))]) (rest := []) d_law_896 mf_X9_owed ml_law_98 A1 f1 rfl rfl rfl rfl (Nat.le_of_ble_eq_true rfl) (by omega) (by omega) (by omega) (fun v h' kx => ?_)
  obtain ⟨r, KM, rfl, ⟨x, rfl⟩, A2, ⟨fs2, f2⟩, jm⟩ := jm v h' kx
  refine r_aload_n d_law_899 rfl ?_
  refine r_aload_n d_law_900 rfl ?_
  refine r_iload_n d_law_901 rfl ?_
  refine r_iconst (v := 1) d_law_902 (by decide) ?_
  refine r_iadd d_law_903 ?_
  refine r_scr (j := 6 * k + 1) hb hL d_law_904 (nI_add (6 * k) 1) (by omega) ?_
  refine r_callV (d1 := d - 1) (c1 := 0) (n1 := 0) (ci := 10) (As := [.int (xs (6 * k + 1))]) (rest := [.long x]) d_law_905 mf_X10_owed ml_law_102 A2 f2 rfl rfl rfl rfl (Nat.le_of_ble_eq_true rfl) (by omega) (Nat.zero_le _) (Nat.zero_le _) (fun v' h'' km => ?_)
  obtain ⟨rfl, hJ⟩ := jm v' h'' km
  refine r_lcmp d_law_908 ?_
  refine r_if_eq (tgt := 1278) d_law_909 (by decide) (fun _ => ?_) (fun z => absurd ((lg_eq x x).mpr rfl) z)
  exact AW.less (by omega) (by omega) (kk h'' hJ)
set_option maxRecDepth 100000 in
set_option maxHeartbeats 2000000 in
theorem lc_chain {g : GC} {E : ME} {q1 b Ls d c n k : Nat} {xs : Nat → Int32} {nm : String} {K : Option Value → hH → Prop} {h : hH} (hE : MEok E) (hG : GX g) (hd : 53 ≤ d) (hb : RT g .int b Ls (fun j => .int (xs j))) (hL : Ls ≤ 3072) (hk : 6 * k + 6 ≤ Ls) (hJ : JI E q1 h) (kk : ∀ h', JI E q1 h' → AW g R_law code 4 ret nm d c n K 1278 [(3, .int (nI (6 * k))), (2, .ref E.2.2), (1, .ref q1), (0, .ref b)] [] h') : AW g R_law code 4 ret nm d (c + 2) (n + 1003) K 914 [(3, .int (nI (6 * k))), (2, .ref E.2.2), (1, .ref q1), (0, .ref b)] [] h := by
  obtain ⟨am, S, σ, τ, hX, h9, hD, hA, rfl⟩ := hJ
  have jm := J_chain (d := d - 1) hE hG (by omega) hX h9 hD hA (xs (6 * k + 1))
  generalize xH (mH E τ) am S σ = h at jm ⊢
  obtain ⟨c1, n1, KX, hc1, hn1, A1, ⟨fs, f1⟩, jm⟩ := jm
  refine r_aload_n d_law_914 rfl ?_
  refine r_aload_n d_law_915 rfl ?_
  refine r_iload_n d_law_916 rfl ?_
  refine r_iconst (v := 1) d_law_917 (by decide) ?_
  refine r_iadd d_law_918 ?_
  refine r_scr (j := 6 * k + 1) hb hL d_law_919 (nI_add (6 * k) 1) (by omega) ?_
  refine r_callV (d1 := d - 1) (c1 := c1) (n1 := n1) (ci := 9) (As := [.int (xs (6 * k + 1))]) (rest := []) d_law_920 mf_X9_chain ml_law_103 A1 f1 rfl rfl rfl rfl (Nat.le_of_ble_eq_true rfl) (by omega) (by omega) (by omega) (fun v h' kx => ?_)
  obtain ⟨r, KM, rfl, ⟨x, rfl⟩, A2, ⟨fs2, f2⟩, jm⟩ := jm v h' kx
  refine r_aload_n d_law_923 rfl ?_
  refine r_aload_n d_law_924 rfl ?_
  refine r_iload_n d_law_925 rfl ?_
  refine r_iconst (v := 1) d_law_926 (by decide) ?_
  refine r_iadd d_law_927 ?_
  refine r_scr (j := 6 * k + 1) hb hL d_law_928 (nI_add (6 * k) 1) (by omega) ?_
  refine r_callV (d1 := d - 1) (c1 := 0) (n1 := 0) (ci := 10) (As := [.int (xs (6 * k + 1))]) (rest := [.int x]) d_law_929 mf_X10_chain ml_law_106 A2 f2 rfl rfl rfl rfl (Nat.le_of_ble_eq_true rfl) (by omega) (Nat.zero_le _) (Nat.zero_le _) (fun v' h'' km => ?_)
  obtain ⟨rfl, hJ⟩ := jm v' h'' km
  refine r_icmp_eq (tgt := 1278) d_law_932 (by decide) (fun _ => ?_) (fun z => absurd rfl z)
  exact AW.less (by omega) (by omega) (kk h'' hJ)
set_option maxRecDepth 100000 in
set_option maxHeartbeats 2000000 in
theorem lc_falls {g : GC} {E : ME} {q1 b Ls d c n k : Nat} {xs : Nat → Int32} {nm : String} {K : Option Value → hH → Prop} {h : hH} (hE : MEok E) (hG : GX g) (hd : 53 ≤ d) (hb : RT g .int b Ls (fun j => .int (xs j))) (hL : Ls ≤ 3072) (hk : 6 * k + 6 ≤ Ls) (hJ : JI E q1 h) (kk : ∀ h', JI E q1 h' → AW g R_law code 4 ret nm d c n K 1278 [(3, .int (nI (6 * k))), (2, .ref E.2.2), (1, .ref q1), (0, .ref b)] [] h') : AW g R_law code 4 ret nm d (c + 2) (n + 1003) K 937 [(3, .int (nI (6 * k))), (2, .ref E.2.2), (1, .ref q1), (0, .ref b)] [] h := by
  obtain ⟨am, S, σ, τ, hX, h9, hD, hA, rfl⟩ := hJ
  have jm := J_falls (d := d - 1) hE hG (by omega) hX h9 hD hA (xs (6 * k + 1)) (xs (6 * k + 2))
  generalize xH (mH E τ) am S σ = h at jm ⊢
  obtain ⟨c1, n1, KX, hc1, hn1, A1, ⟨fs, f1⟩, jm⟩ := jm
  refine r_aload_n d_law_937 rfl ?_
  refine r_aload_n d_law_938 rfl ?_
  refine r_iload_n d_law_939 rfl ?_
  refine r_iconst (v := 1) d_law_940 (by decide) ?_
  refine r_iadd d_law_941 ?_
  refine r_scr (j := 6 * k + 1) hb hL d_law_942 (nI_add (6 * k) 1) (by omega) ?_
  refine r_aload_n d_law_943 rfl ?_
  refine r_iload_n d_law_944 rfl ?_
  refine r_iconst (v := 2) d_law_945 (by decide) ?_
  refine r_iadd d_law_946 ?_
  refine r_scr (j := 6 * k + 2) hb hL d_law_947 (nI_add (6 * k) 2) (by omega) ?_
  refine r_callV (d1 := d - 1) (c1 := c1) (n1 := n1) (ci := 9) (As := [.int (xs (6 * k + 1)), .int (xs (6 * k + 2))]) (rest := []) d_law_948 mf_X9_falls ml_law_107 A1 f1 rfl rfl rfl rfl (Nat.le_of_ble_eq_true rfl) (by omega) (by omega) (by omega) (fun v h' kx => ?_)
  obtain ⟨r, KM, rfl, ⟨x, rfl⟩, A2, ⟨fs2, f2⟩, jm⟩ := jm v h' kx
  refine r_aload_n d_law_951 rfl ?_
  refine r_aload_n d_law_952 rfl ?_
  refine r_iload_n d_law_953 rfl ?_
  refine r_iconst (v := 1) d_law_954 (by decide) ?_
  refine r_iadd d_law_955 ?_
  refine r_scr (j := 6 * k + 1) hb hL d_law_956 (nI_add (6 * k) 1) (by omega) ?_
  refine r_aload_n d_law_957 rfl ?_
  refine r_iload_n d_law_958 rfl ?_
  refine r_iconst (v := 2) d_law_959 (by decide) ?_
  refine r_iadd d_law_960 ?_
  refine r_scr (j := 6 * k + 2) hb hL d_law_961 (nI_add (6 * k) 2) (by omega) ?_
  refine r_callV (d1 := d - 1) (c1 := 0) (n1 := 0) (ci := 10) (As := [.int (xs (6 * k + 1)), .int (xs (6 * k + 2))]) (rest := [.long x]) d_law_962 mf_X10_falls ml_law_110 A2 f2 rfl rfl rfl rfl (Nat.le_of_ble_eq_true rfl) (by omega) (Nat.zero_le _) (Nat.zero_le _) (fun v' h'' km => ?_)
  obtain ⟨rfl, hJ⟩ := jm v' h'' km
  refine r_lcmp d_law_965 ?_
  refine r_if_eq (tgt := 1278) d_law_966 (by decide) (fun _ => ?_) (fun z => absurd ((lg_eq x x).mpr rfl) z)
  exact AW.less (by omega) (by omega) (kk h'' hJ)
set_option maxRecDepth 100000 in
set_option maxHeartbeats 2000000 in
theorem lc_saw {g : GC} {E : ME} {q1 b Ls d c n k : Nat} {xs : Nat → Int32} {nm : String} {K : Option Value → hH → Prop} {h : hH} (hE : MEok E) (hG : GX g) (hd : 53 ≤ d) (hb : RT g .int b Ls (fun j => .int (xs j))) (hL : Ls ≤ 3072) (hk : 6 * k + 6 ≤ Ls) (hJ : JI E q1 h) (kk : ∀ h', JI E q1 h' → AW g R_law code 4 ret nm d c n K 1278 [(3, .int (nI (6 * k))), (2, .ref E.2.2), (1, .ref q1), (0, .ref b)] [] h') : AW g R_law code 4 ret nm d (c + 2) (n + 1003) K 971 [(3, .int (nI (6 * k))), (2, .ref E.2.2), (1, .ref q1), (0, .ref b)] [] h := by
  obtain ⟨am, S, σ, τ, hX, h9, hD, hA, rfl⟩ := hJ
  have jm := J_saw (d := d - 1) hE hG (by omega) hX h9 hD hA (xs (6 * k + 1))
  generalize xH (mH E τ) am S σ = h at jm ⊢
  obtain ⟨c1, n1, KX, hc1, hn1, A1, ⟨fs, f1⟩, jm⟩ := jm
  refine r_aload_n d_law_971 rfl ?_
  refine r_aload_n d_law_972 rfl ?_
  refine r_iload_n d_law_973 rfl ?_
  refine r_iconst (v := 1) d_law_974 (by decide) ?_
  refine r_iadd d_law_975 ?_
  refine r_scr (j := 6 * k + 1) hb hL d_law_976 (nI_add (6 * k) 1) (by omega) ?_
  refine r_callV (d1 := d - 1) (c1 := c1) (n1 := n1) (ci := 9) (As := [.int (xs (6 * k + 1))]) (rest := []) d_law_977 mf_X9_saw ml_law_111 A1 f1 rfl rfl rfl rfl (Nat.le_of_ble_eq_true rfl) (by omega) (by omega) (by omega) (fun v h' kx => ?_)
  obtain ⟨r, KM, rfl, ⟨x, rfl⟩, A2, ⟨fs2, f2⟩, jm⟩ := jm v h' kx
  refine r_aload_n d_law_980 rfl ?_
  refine r_aload_n d_law_981 rfl ?_
  refine r_iload_n d_law_982 rfl ?_
  refine r_iconst (v := 1) d_law_983 (by decide) ?_
  refine r_iadd d_law_984 ?_
  refine r_scr (j := 6 * k + 1) hb hL d_law_985 (nI_add (6 * k) 1) (by omega) ?_
  refine r_callV (d1 := d - 1) (c1 := 0) (n1 := 0) (ci := 10) (As := [.int (xs (6 * k + 1))]) (rest := [.int x]) d_law_986 mf_X10_saw ml_law_114 A2 f2 rfl rfl rfl rfl (Nat.le_of_ble_eq_true rfl) (by omega) (Nat.zero_le _) (Nat.zero_le _) (fun v' h'' km => ?_)
  obtain ⟨rfl, hJ⟩ := jm v' h'' km
  refine r_icmp_eq (tgt := 1278) d_law_989 (by decide) (fun _ => ?_) (fun z => absurd rfl z)
  exact AW.less (by omega) (by omega) (kk h'' hJ)
set_option maxRecDepth 100000 in
set_option maxHeartbeats 2000000 in
theorem lc_image {g : GC} {E : ME} {q1 b Ls d c n k : Nat} {xs : Nat → Int32} {nm : String} {K : Option Value → hH → Prop} {h : hH} (hE : MEok E) (hG : GX g) (hd : 53 ≤ d) (hb : RT g .int b Ls (fun j => .int (xs j))) (hL : Ls ≤ 3072) (hk : 6 * k + 6 ≤ Ls) (hJ : JI E q1 h) (kk : ∀ h', JI E q1 h' → AW g R_law code 4 ret nm d c n K 1278 [(3, .int (nI (6 * k))), (2, .ref E.2.2), (1, .ref q1), (0, .ref b)] [] h') : AW g R_law code 4 ret nm d (c + 2) (n + 1003) K 994 [(3, .int (nI (6 * k))), (2, .ref E.2.2), (1, .ref q1), (0, .ref b)] [] h := by
  obtain ⟨am, S, σ, τ, hX, h9, hD, hA, rfl⟩ := hJ
  have jm := J_image (d := d - 1) hE hG (by omega) hX h9 hD hA
  generalize xH (mH E τ) am S σ = h at jm ⊢
  obtain ⟨c1, n1, KX, hc1, hn1, A1, ⟨fs, f1⟩, jm⟩ := jm
  refine r_aload_n d_law_994 rfl ?_
  refine r_callV (d1 := d - 1) (c1 := c1) (n1 := n1) (ci := 9) (As := []) (rest := []) d_law_995 mf_X9_image ml_law_115 A1 f1 rfl rfl rfl rfl (Nat.le_of_ble_eq_true rfl) (by omega) (by omega) (by omega) (fun v h' kx => ?_)
  obtain ⟨r, KM, rfl, ⟨x, rfl⟩, A2, ⟨fs2, f2⟩, jm⟩ := jm v h' kx
  refine r_aload_n d_law_998 rfl ?_
  refine r_callV (d1 := d - 1) (c1 := 0) (n1 := 0) (ci := 10) (As := []) (rest := [.int x]) d_law_999 mf_X10_image ml_law_118 A2 f2 rfl rfl rfl rfl (Nat.le_of_ble_eq_true rfl) (by omega) (Nat.zero_le _) (Nat.zero_le _) (fun v' h'' km => ?_)
  obtain ⟨rfl, hJ⟩ := jm v' h'' km
  refine r_icmp_eq (tgt := 1278) d_law_1002 (by decide) (fun _ => ?_) (fun z => absurd rfl z)
  exact AW.less (by omega) (by omega) (kk h'' hJ)
set_option maxRecDepth 100000 in
set_option maxHeartbeats 2000000 in
theorem lc_back {g : GC} {E : ME} {q1 b Ls d c n k : Nat} {xs : Nat → Int32} {nm : String} {K : Option Value → hH → Prop} {h : hH} (hE : MEok E) (hG : GX g) (hd : 53 ≤ d) (hb : RT g .int b Ls (fun j => .int (xs j))) (hL : Ls ≤ 3072) (hk : 6 * k + 6 ≤ Ls) (hJ : JI E q1 h) (kk : ∀ h', JI E q1 h' → AW g R_law code 4 ret nm d c n K 1278 [(3, .int (nI (6 * k))), (2, .ref E.2.2), (1, .ref q1), (0, .ref b)] [] h') : AW g R_law code 4 ret nm d (c + 2) (n + 1003) K 1007 [(3, .int (nI (6 * k))), (2, .ref E.2.2), (1, .ref q1), (0, .ref b)] [] h := by
  obtain ⟨am, S, σ, τ, hX, h9, hD, hA, rfl⟩ := hJ
  have jm := J_back (d := d - 1) hE hG (by omega) hX h9 hD hA
  generalize xH (mH E τ) am S σ = h at jm ⊢
  obtain ⟨c1, n1, KX, hc1, hn1, A1, ⟨fs, f1⟩, jm⟩ := jm
  refine r_aload_n d_law_1007 rfl ?_
  refine r_callV (d1 := d - 1) (c1 := c1) (n1 := n1) (ci := 9) (As := []) (rest := []) d_law_1008 mf_X9_back ml_law_119 A1 f1 rfl rfl rfl rfl (Nat.le_of_ble_eq_true rfl) (by omega) (by omega) (by omega) (fun v h' kx => ?_)
  obtain ⟨r, KM, rfl, ⟨x, rfl⟩, A2, ⟨fs2, f2⟩, jm⟩ := jm v h' kx
  refine r_aload_n d_law_1011 rfl ?_
  refine r_callV (d1 := d - 1) (c1 := 0) (n1 := 0) (ci := 10) (As := []) (rest := [.int x]) d_law_1012 mf_X10_back ml_law_122 A2 f2 rfl rfl rfl rfl (Nat.le_of_ble_eq_true rfl) (by omega) (Nat.zero_le _) (Nat.zero_le _) (fun v' h'' km => ?_)
  obtain ⟨rfl, hJ⟩ := jm v' h'' km
  refine r_icmp_eq (tgt := 1278) d_law_1015 (by decide) (fun _ => ?_) (fun z => absurd rfl z)
  exact AW.less (by omega) (by omega) (kk h'' hJ)
set_option maxRecDepth 100000 in
set_option maxHeartbeats 2000000 in
theorem lc_count {g : GC} {E : ME} {q1 b Ls d c n k : Nat} {xs : Nat → Int32} {nm : String} {K : Option Value → hH → Prop} {h : hH} (hE : MEok E) (hG : GX g) (hd : 53 ≤ d) (hb : RT g .int b Ls (fun j => .int (xs j))) (hL : Ls ≤ 3072) (hk : 6 * k + 6 ≤ Ls) (hJ : JI E q1 h) (kk : ∀ h', JI E q1 h' → AW g R_law code 4 ret nm d c n K 1278 [(3, .int (nI (6 * k))), (2, .ref E.2.2), (1, .ref q1), (0, .ref b)] [] h') : AW g R_law code 4 ret nm d (c + 2) (n + 1003) K 1020 [(3, .int (nI (6 * k))), (2, .ref E.2.2), (1, .ref q1), (0, .ref b)] [] h := by
  obtain ⟨am, S, σ, τ, hX, h9, hD, hA, rfl⟩ := hJ
  have jm := J_count (d := d - 1) hE hG (by omega) hX h9 hD hA (xs (6 * k + 1))
  generalize xH (mH E τ) am S σ = h at jm ⊢
  obtain ⟨c1, n1, KX, hc1, hn1, A1, ⟨fs, f1⟩, jm⟩ := jm
  refine r_aload_n d_law_1020 rfl ?_
  refine r_aload_n d_law_1021 rfl ?_
  refine r_iload_n d_law_1022 rfl ?_
  refine r_iconst (v := 1) d_law_1023 (by decide) ?_
  refine r_iadd d_law_1024 ?_
  refine r_scr (j := 6 * k + 1) hb hL d_law_1025 (nI_add (6 * k) 1) (by omega) ?_
  refine r_callV (d1 := d - 1) (c1 := c1) (n1 := n1) (ci := 9) (As := [.int (xs (6 * k + 1))]) (rest := []) d_law_1026 mf_X9_count ml_law_123 A1 f1 rfl rfl rfl rfl (Nat.le_of_ble_eq_true rfl) (by omega) (by omega) (by omega) (fun v h' kx => ?_)
  obtain ⟨r, KM, rfl, ⟨x, rfl⟩, A2, ⟨fs2, f2⟩, jm⟩ := jm v h' kx
  refine r_aload_n d_law_1029 rfl ?_
  refine r_aload_n d_law_1030 rfl ?_
  refine r_iload_n d_law_1031 rfl ?_
  refine r_iconst (v := 1) d_law_1032 (by decide) ?_
  refine r_iadd d_law_1033 ?_
  refine r_scr (j := 6 * k + 1) hb hL d_law_1034 (nI_add (6 * k) 1) (by omega) ?_
  refine r_callV (d1 := d - 1) (c1 := 0) (n1 := 0) (ci := 10) (As := [.int (xs (6 * k + 1))]) (rest := [.int x]) d_law_1035 mf_X10_count ml_law_126 A2 f2 rfl rfl rfl rfl (Nat.le_of_ble_eq_true rfl) (by omega) (Nat.zero_le _) (Nat.zero_le _) (fun v' h'' km => ?_)
  obtain ⟨rfl, hJ⟩ := jm v' h'' km
  refine r_icmp_eq (tgt := 1278) d_law_1038 (by decide) (fun _ => ?_) (fun z => absurd rfl z)
  exact AW.less (by omega) (by omega) (kk h'' hJ)
set_option maxRecDepth 100000 in
set_option maxHeartbeats 2000000 in
theorem lc_sheet {g : GC} {E : ME} {q1 b Ls d c n k : Nat} {xs : Nat → Int32} {nm : String} {K : Option Value → hH → Prop} {h : hH} (hE : MEok E) (hG : GX g) (hd : 53 ≤ d) (hb : RT g .int b Ls (fun j => .int (xs j))) (hL : Ls ≤ 3072) (hk : 6 * k + 6 ≤ Ls) (hJ : JI E q1 h) (kk : ∀ h', JI E q1 h' → AW g R_law code 4 ret nm d c n K 1278 [(3, .int (nI (6 * k))), (2, .ref E.2.2), (1, .ref q1), (0, .ref b)] [] h') : AW g R_law code 4 ret nm d (c + 2) (n + 1003) K 1043 [(3, .int (nI (6 * k))), (2, .ref E.2.2), (1, .ref q1), (0, .ref b)] [] h := by
  obtain ⟨am, S, σ, τ, hX, h9, hD, hA, rfl⟩ := hJ
  have jm := J_sheet (d := d - 1) hE hG (by omega) hX h9 hD hA (xs (6 * k + 1)) (xs (6 * k + 2)) (xs (6 * k + 3))
  generalize xH (mH E τ) am S σ = h at jm ⊢
  obtain ⟨c1, n1, KX, hc1, hn1, A1, ⟨fs, f1⟩, jm⟩ := jm
  refine r_aload_n d_law_1043 rfl ?_
  refine r_aload_n d_law_1044 rfl ?_
  refine r_iload_n d_law_1045 rfl ?_
  refine r_iconst (v := 1) d_law_1046 (by decide) ?_
  refine r_iadd d_law_1047 ?_
  refine r_scr (j := 6 * k + 1) hb hL d_law_1048 (nI_add (6 * k) 1) (by omega) ?_
  refine r_aload_n d_law_1049 rfl ?_
  refine r_iload_n d_law_1050 rfl ?_
  refine r_iconst (v := 2) d_law_1051 (by decide) ?_
  refine r_iadd d_law_1052 ?_
  refine r_scr (j := 6 * k + 2) hb hL d_law_1053 (nI_add (6 * k) 2) (by omega) ?_
  refine r_aload_n d_law_1054 rfl ?_
  refine r_iload_n d_law_1055 rfl ?_
  refine r_iconst (v := 3) d_law_1056 (by decide) ?_
  refine r_iadd d_law_1057 ?_
  refine r_scr (j := 6 * k + 3) hb hL d_law_1058 (nI_add (6 * k) 3) (by omega) ?_
  refine r_callV (d1 := d - 1) (c1 := c1) (n1 := n1) (ci := 9) (As := [.int (xs (6 * k + 1)), .int (xs (6 * k + 2)), .int (xs (6 * k + 3))]) (rest := []) d_law_1059 mf_X9_sheet ml_law_127 A1 f1 rfl rfl rfl rfl (Nat.le_of_ble_eq_true rfl) (by omega) (by omega) (by omega) (fun v h' kx => ?_)
  obtain ⟨r, KM, rfl, ⟨x, rfl⟩, A2, ⟨fs2, f2⟩, jm⟩ := jm v h' kx
  refine r_aload_n d_law_1062 rfl ?_
  refine r_aload_n d_law_1063 rfl ?_
  refine r_iload_n d_law_1064 rfl ?_
  refine r_iconst (v := 1) d_law_1065 (by decide) ?_
  refine r_iadd d_law_1066 ?_
  refine r_scr (j := 6 * k + 1) hb hL d_law_1067 (nI_add (6 * k) 1) (by omega) ?_
  refine r_aload_n d_law_1068 rfl ?_
  refine r_iload_n d_law_1069 rfl ?_
  refine r_iconst (v := 2) d_law_1070 (by decide) ?_
  refine r_iadd d_law_1071 ?_
  refine r_scr (j := 6 * k + 2) hb hL d_law_1072 (nI_add (6 * k) 2) (by omega) ?_
  refine r_aload_n d_law_1073 rfl ?_
  refine r_iload_n d_law_1074 rfl ?_
  refine r_iconst (v := 3) d_law_1075 (by decide) ?_
  refine r_iadd d_law_1076 ?_
  refine r_scr (j := 6 * k + 3) hb hL d_law_1077 (nI_add (6 * k) 3) (by omega) ?_
  refine r_callV (d1 := d - 1) (c1 := 0) (n1 := 0) (ci := 10) (As := [.int (xs (6 * k + 1)), .int (xs (6 * k + 2)), .int (xs (6 * k + 3))]) (rest := [.int x]) d_law_1078 mf_X10_sheet ml_law_130 A2 f2 rfl rfl rfl rfl (Nat.le_of_ble_eq_true rfl) (by omega) (Nat.zero_le _) (Nat.zero_le _) (fun v' h'' km => ?_)
  obtain ⟨rfl, hJ⟩ := jm v' h'' km
  refine r_icmp_eq (tgt := 1278) d_law_1081 (by decide) (fun _ => ?_) (fun z => absurd rfl z)
  exact AW.less (by omega) (by omega) (kk h'' hJ)
set_option maxRecDepth 100000 in
set_option maxHeartbeats 2000000 in
theorem lc_cell {g : GC} {E : ME} {q1 b Ls d c n k : Nat} {xs : Nat → Int32} {nm : String} {K : Option Value → hH → Prop} {h : hH} (hE : MEok E) (hG : GX g) (hd : 53 ≤ d) (hb : RT g .int b Ls (fun j => .int (xs j))) (hL : Ls ≤ 3072) (hk : 6 * k + 6 ≤ Ls) (hJ : JI E q1 h) (kk : ∀ h', JI E q1 h' → AW g R_law code 4 ret nm d c n K 1278 [(3, .int (nI (6 * k))), (2, .ref E.2.2), (1, .ref q1), (0, .ref b)] [] h') : AW g R_law code 4 ret nm d (c + 2) (n + 1003) K 1086 [(3, .int (nI (6 * k))), (2, .ref E.2.2), (1, .ref q1), (0, .ref b)] [] h := by
  obtain ⟨am, S, σ, τ, hX, h9, hD, hA, rfl⟩ := hJ
  have jm := J_cell (d := d - 1) hE hG (by omega) hX h9 hD hA (xs (6 * k + 1)) (xs (6 * k + 2)) (xs (6 * k + 3))
  generalize xH (mH E τ) am S σ = h at jm ⊢
  obtain ⟨c1, n1, KX, hc1, hn1, A1, ⟨fs, f1⟩, jm⟩ := jm
  refine r_aload_n d_law_1086 rfl ?_
  refine r_aload_n d_law_1087 rfl ?_
  refine r_iload_n d_law_1088 rfl ?_
  refine r_iconst (v := 1) d_law_1089 (by decide) ?_
  refine r_iadd d_law_1090 ?_
  refine r_scr (j := 6 * k + 1) hb hL d_law_1091 (nI_add (6 * k) 1) (by omega) ?_
  refine r_aload_n d_law_1092 rfl ?_
  refine r_iload_n d_law_1093 rfl ?_
  refine r_iconst (v := 2) d_law_1094 (by decide) ?_
  refine r_iadd d_law_1095 ?_
  refine r_scr (j := 6 * k + 2) hb hL d_law_1096 (nI_add (6 * k) 2) (by omega) ?_
  refine r_aload_n d_law_1097 rfl ?_
  refine r_iload_n d_law_1098 rfl ?_
  refine r_iconst (v := 3) d_law_1099 (by decide) ?_
  refine r_iadd d_law_1100 ?_
  refine r_scr (j := 6 * k + 3) hb hL d_law_1101 (nI_add (6 * k) 3) (by omega) ?_
  refine r_callV (d1 := d - 1) (c1 := c1) (n1 := n1) (ci := 9) (As := [.int (xs (6 * k + 1)), .int (xs (6 * k + 2)), .int (xs (6 * k + 3))]) (rest := []) d_law_1102 mf_X9_cell ml_law_131 A1 f1 rfl rfl rfl rfl (Nat.le_of_ble_eq_true rfl) (by omega) (by omega) (by omega) (fun v h' kx => ?_)
  obtain ⟨r, KM, rfl, ⟨x, rfl⟩, A2, ⟨fs2, f2⟩, jm⟩ := jm v h' kx
  refine r_aload_n d_law_1105 rfl ?_
  refine r_aload_n d_law_1106 rfl ?_
  refine r_iload_n d_law_1107 rfl ?_
  refine r_iconst (v := 1) d_law_1108 (by decide) ?_
  refine r_iadd d_law_1109 ?_
  refine r_scr (j := 6 * k + 1) hb hL d_law_1110 (nI_add (6 * k) 1) (by omega) ?_
  refine r_aload_n d_law_1111 rfl ?_
  refine r_iload_n d_law_1112 rfl ?_
  refine r_iconst (v := 2) d_law_1113 (by decide) ?_
  refine r_iadd d_law_1114 ?_
  refine r_scr (j := 6 * k + 2) hb hL d_law_1115 (nI_add (6 * k) 2) (by omega) ?_
  refine r_aload_n d_law_1116 rfl ?_
  refine r_iload_n d_law_1117 rfl ?_
  refine r_iconst (v := 3) d_law_1118 (by decide) ?_
  refine r_iadd d_law_1119 ?_
  refine r_scr (j := 6 * k + 3) hb hL d_law_1120 (nI_add (6 * k) 3) (by omega) ?_
  refine r_callV (d1 := d - 1) (c1 := 0) (n1 := 0) (ci := 10) (As := [.int (xs (6 * k + 1)), .int (xs (6 * k + 2)), .int (xs (6 * k + 3))]) (rest := [.int x]) d_law_1121 mf_X10_cell ml_law_134 A2 f2 rfl rfl rfl rfl (Nat.le_of_ble_eq_true rfl) (by omega) (Nat.zero_le _) (Nat.zero_le _) (fun v' h'' km => ?_)
  obtain ⟨rfl, hJ⟩ := jm v' h'' km
  refine r_icmp_eq (tgt := 1278) d_law_1124 (by decide) (fun _ => ?_) (fun z => absurd rfl z)
  exact AW.less (by omega) (by omega) (kk h'' hJ)
set_option maxRecDepth 100000 in
set_option maxHeartbeats 2000000 in
theorem lc_copy {g : GC} {E : ME} {q1 b Ls d c n k : Nat} {xs : Nat → Int32} {nm : String} {K : Option Value → hH → Prop} {h : hH} (hE : MEok E) (hG : GX g) (hd : 53 ≤ d) (hb : RT g .int b Ls (fun j => .int (xs j))) (hL : Ls ≤ 3072) (hk : 6 * k + 6 ≤ Ls) (hJ : JI E q1 h) (kk : ∀ h', JI E q1 h' → AW g R_law code 4 ret nm d c n K 1278 [(3, .int (nI (6 * k))), (2, .ref E.2.2), (1, .ref q1), (0, .ref b)] [] h') : AW g R_law code 4 ret nm d (c + 2) (n + 1003) K 1129 [(3, .int (nI (6 * k))), (2, .ref E.2.2), (1, .ref q1), (0, .ref b)] [] h := by
  obtain ⟨am, S, σ, τ, hX, h9, hD, hA, rfl⟩ := hJ
  have jm := J_copy (d := d - 1) hE hG (by omega) hX h9 hD hA (xs (6 * k + 1)) (xs (6 * k + 2)) (xs (6 * k + 3)) (xs (6 * k + 4)) (xs (6 * k + 5))
  generalize xH (mH E τ) am S σ = h at jm ⊢
  obtain ⟨c1, n1, KX, hc1, hn1, A1, ⟨fs, f1⟩, jm⟩ := jm
  refine r_aload_n d_law_1129 rfl ?_
  refine r_aload_n d_law_1130 rfl ?_
  refine r_iload_n d_law_1131 rfl ?_
  refine r_iconst (v := 1) d_law_1132 (by decide) ?_
  refine r_iadd d_law_1133 ?_
  refine r_scr (j := 6 * k + 1) hb hL d_law_1134 (nI_add (6 * k) 1) (by omega) ?_
  refine r_aload_n d_law_1135 rfl ?_
  refine r_iload_n d_law_1136 rfl ?_
  refine r_iconst (v := 2) d_law_1137 (by decide) ?_
  refine r_iadd d_law_1138 ?_
  refine r_scr (j := 6 * k + 2) hb hL d_law_1139 (nI_add (6 * k) 2) (by omega) ?_
  refine r_aload_n d_law_1140 rfl ?_
  refine r_iload_n d_law_1141 rfl ?_
  refine r_iconst (v := 3) d_law_1142 (by decide) ?_
  refine r_iadd d_law_1143 ?_
  refine r_scr (j := 6 * k + 3) hb hL d_law_1144 (nI_add (6 * k) 3) (by omega) ?_
  refine r_aload_n d_law_1145 rfl ?_
  refine r_iload_n d_law_1146 rfl ?_
  refine r_iconst (v := 4) d_law_1147 (by decide) ?_
  refine r_iadd d_law_1148 ?_
  refine r_scr (j := 6 * k + 4) hb hL d_law_1149 (nI_add (6 * k) 4) (by omega) ?_
  refine r_aload_n d_law_1150 rfl ?_
  refine r_iload_n d_law_1151 rfl ?_
  refine r_iconst (v := 5) d_law_1152 (by decide) ?_
  refine r_iadd d_law_1153 ?_
  refine r_scr (j := 6 * k + 5) hb hL d_law_1154 (nI_add (6 * k) 5) (by omega) ?_
  refine r_callV (d1 := d - 1) (c1 := c1) (n1 := n1) (ci := 9) (As := [.int (xs (6 * k + 1)), .int (xs (6 * k + 2)), .int (xs (6 * k + 3)), .int (xs (6 * k + 4)), .int (xs (6 * k + 5))]) (rest := []) d_law_1155 mf_X9_copy ml_law_135 A1 f1 rfl rfl rfl rfl (Nat.le_of_ble_eq_true rfl) (by omega) (by omega) (by omega) (fun v h' kx => ?_)
  obtain ⟨r, KM, rfl, ⟨x, rfl⟩, A2, ⟨fs2, f2⟩, jm⟩ := jm v h' kx
  refine r_aload_n d_law_1158 rfl ?_
  refine r_aload_n d_law_1159 rfl ?_
  refine r_iload_n d_law_1160 rfl ?_
  refine r_iconst (v := 1) d_law_1161 (by decide) ?_
  refine r_iadd d_law_1162 ?_
  refine r_scr (j := 6 * k + 1) hb hL d_law_1163 (nI_add (6 * k) 1) (by omega) ?_
  refine r_aload_n d_law_1164 rfl ?_
  refine r_iload_n d_law_1165 rfl ?_
  refine r_iconst (v := 2) d_law_1166 (by decide) ?_
  refine r_iadd d_law_1167 ?_
  refine r_scr (j := 6 * k + 2) hb hL d_law_1168 (nI_add (6 * k) 2) (by omega) ?_
  refine r_aload_n d_law_1169 rfl ?_
  refine r_iload_n d_law_1170 rfl ?_
  refine r_iconst (v := 3) d_law_1171 (by decide) ?_
  refine r_iadd d_law_1172 ?_
  refine r_scr (j := 6 * k + 3) hb hL d_law_1173 (nI_add (6 * k) 3) (by omega) ?_
  refine r_aload_n d_law_1174 rfl ?_
  refine r_iload_n d_law_1175 rfl ?_
  refine r_iconst (v := 4) d_law_1176 (by decide) ?_
  refine r_iadd d_law_1177 ?_
  refine r_scr (j := 6 * k + 4) hb hL d_law_1178 (nI_add (6 * k) 4) (by omega) ?_
  refine r_aload_n d_law_1179 rfl ?_
  refine r_iload_n d_law_1180 rfl ?_
  refine r_iconst (v := 5) d_law_1181 (by decide) ?_
  refine r_iadd d_law_1182 ?_
  refine r_scr (j := 6 * k + 5) hb hL d_law_1183 (nI_add (6 * k) 5) (by omega) ?_
  refine r_callV (d1 := d - 1) (c1 := 0) (n1 := 0) (ci := 10) (As := [.int (xs (6 * k + 1)), .int (xs (6 * k + 2)), .int (xs (6 * k + 3)), .int (xs (6 * k + 4)), .int (xs (6 * k + 5))]) (rest := [.int x]) d_law_1184 mf_X10_copy ml_law_139 A2 f2 rfl rfl rfl rfl (Nat.le_of_ble_eq_true rfl) (by omega) (Nat.zero_le _) (Nat.zero_le _) (fun v' h'' km => ?_)
  obtain ⟨rfl, hJ⟩ := jm v' h'' km
  refine r_icmp_eq (tgt := 1278) d_law_1187 (by decide) (fun _ => ?_) (fun z => absurd rfl z)
  exact AW.less (by omega) (by omega) (kk h'' hJ)
set_option maxRecDepth 100000 in
set_option maxHeartbeats 2000000 in
theorem lc_sales {g : GC} {E : ME} {q1 b Ls d c n k : Nat} {xs : Nat → Int32} {nm : String} {K : Option Value → hH → Prop} {h : hH} (hE : MEok E) (hG : GX g) (hd : 53 ≤ d) (hb : RT g .int b Ls (fun j => .int (xs j))) (hL : Ls ≤ 3072) (hk : 6 * k + 6 ≤ Ls) (hJ : JI E q1 h) (kk : ∀ h', JI E q1 h' → AW g R_law code 4 ret nm d c n K 1278 [(3, .int (nI (6 * k))), (2, .ref E.2.2), (1, .ref q1), (0, .ref b)] [] h') : AW g R_law code 4 ret nm d (c + 2) (n + 1003) K 1192 [(3, .int (nI (6 * k))), (2, .ref E.2.2), (1, .ref q1), (0, .ref b)] [] h := by
  obtain ⟨am, S, σ, τ, hX, h9, hD, hA, rfl⟩ := hJ
  have jm := J_sales (d := d - 1) hE hG (by omega) hX h9 hD hA (xs (6 * k + 1)) (xs (6 * k + 2)) (xs (6 * k + 3)) (xs (6 * k + 4))
  generalize xH (mH E τ) am S σ = h at jm ⊢
  obtain ⟨c1, n1, KX, hc1, hn1, A1, ⟨fs, f1⟩, jm⟩ := jm
  refine r_aload_n d_law_1192 rfl ?_
  refine r_aload_n d_law_1193 rfl ?_
  refine r_iload_n d_law_1194 rfl ?_
  refine r_iconst (v := 1) d_law_1195 (by decide) ?_
  refine r_iadd d_law_1196 ?_
  refine r_scr (j := 6 * k + 1) hb hL d_law_1197 (nI_add (6 * k) 1) (by omega) ?_
  refine r_aload_n d_law_1198 rfl ?_
  refine r_iload_n d_law_1199 rfl ?_
  refine r_iconst (v := 2) d_law_1200 (by decide) ?_
  refine r_iadd d_law_1201 ?_
  refine r_scr (j := 6 * k + 2) hb hL d_law_1202 (nI_add (6 * k) 2) (by omega) ?_
  refine r_aload_n d_law_1203 rfl ?_
  refine r_iload_n d_law_1204 rfl ?_
  refine r_iconst (v := 3) d_law_1205 (by decide) ?_
  refine r_iadd d_law_1206 ?_
  refine r_scr (j := 6 * k + 3) hb hL d_law_1207 (nI_add (6 * k) 3) (by omega) ?_
  refine r_aload_n d_law_1208 rfl ?_
  refine r_iload_n d_law_1209 rfl ?_
  refine r_iconst (v := 4) d_law_1210 (by decide) ?_
  refine r_iadd d_law_1211 ?_
  refine r_scr (j := 6 * k + 4) hb hL d_law_1212 (nI_add (6 * k) 4) (by omega) ?_
  refine r_callV (d1 := d - 1) (c1 := c1) (n1 := n1) (ci := 9) (As := [.int (xs (6 * k + 1)), .int (xs (6 * k + 2)), .int (xs (6 * k + 3)), .int (xs (6 * k + 4))]) (rest := []) d_law_1213 mf_X9_sales ml_law_140 A1 f1 rfl rfl rfl rfl (Nat.le_of_ble_eq_true rfl) (by omega) (by omega) (by omega) (fun v h' kx => ?_)
  obtain ⟨r, KM, rfl, ⟨x, rfl⟩, A2, ⟨fs2, f2⟩, jm⟩ := jm v h' kx
  refine r_aload_n d_law_1216 rfl ?_
  refine r_aload_n d_law_1217 rfl ?_
  refine r_iload_n d_law_1218 rfl ?_
  refine r_iconst (v := 1) d_law_1219 (by decide) ?_
  refine r_iadd d_law_1220 ?_
  refine r_scr (j := 6 * k + 1) hb hL d_law_1221 (nI_add (6 * k) 1) (by omega) ?_
  refine r_aload_n d_law_1222 rfl ?_
  refine r_iload_n d_law_1223 rfl ?_
  refine r_iconst (v := 2) d_law_1224 (by decide) ?_
  refine r_iadd d_law_1225 ?_
  refine r_scr (j := 6 * k + 2) hb hL d_law_1226 (nI_add (6 * k) 2) (by omega) ?_
  refine r_aload_n d_law_1227 rfl ?_
  refine r_iload_n d_law_1228 rfl ?_
  refine r_iconst (v := 3) d_law_1229 (by decide) ?_
  refine r_iadd d_law_1230 ?_
  refine r_scr (j := 6 * k + 3) hb hL d_law_1231 (nI_add (6 * k) 3) (by omega) ?_
  refine r_aload_n d_law_1232 rfl ?_
  refine r_iload_n d_law_1233 rfl ?_
  refine r_iconst (v := 4) d_law_1234 (by decide) ?_
  refine r_iadd d_law_1235 ?_
  refine r_scr (j := 6 * k + 4) hb hL d_law_1236 (nI_add (6 * k) 4) (by omega) ?_
  refine r_callV (d1 := d - 1) (c1 := 0) (n1 := 0) (ci := 10) (As := [.int (xs (6 * k + 1)), .int (xs (6 * k + 2)), .int (xs (6 * k + 3)), .int (xs (6 * k + 4))]) (rest := [.int x]) d_law_1237 mf_X10_sales ml_law_143 A2 f2 rfl rfl rfl rfl (Nat.le_of_ble_eq_true rfl) (by omega) (Nat.zero_le _) (Nat.zero_le _) (fun v' h'' km => ?_)
  obtain ⟨rfl, hJ⟩ := jm v' h'' km
  refine r_icmp_eq (tgt := 1278) d_law_1240 (by decide) (fun _ => ?_) (fun z => absurd rfl z)
  exact AW.less (by omega) (by omega) (kk h'' hJ)
set_option maxRecDepth 100000 in
set_option maxHeartbeats 2000000 in
theorem lc_taken {g : GC} {E : ME} {q1 b Ls d c n k : Nat} {xs : Nat → Int32} {nm : String} {K : Option Value → hH → Prop} {h : hH} (hE : MEok E) (hG : GX g) (hd : 53 ≤ d) (hb : RT g .int b Ls (fun j => .int (xs j))) (hL : Ls ≤ 3072) (hk : 6 * k + 6 ≤ Ls) (hJ : JI E q1 h) (kk : ∀ h', JI E q1 h' → AW g R_law code 4 ret nm d c n K 1278 [(3, .int (nI (6 * k))), (2, .ref E.2.2), (1, .ref q1), (0, .ref b)] [] h') : AW g R_law code 4 ret nm d (c + 2) (n + 1003) K 1245 [(3, .int (nI (6 * k))), (2, .ref E.2.2), (1, .ref q1), (0, .ref b)] [] h := by
  obtain ⟨am, S, σ, τ, hX, h9, hD, hA, rfl⟩ := hJ
  have jm := J_taken (d := d - 1) hE hG (by omega) hX h9 hD hA (xs (6 * k + 1)) (xs (6 * k + 2))
  generalize xH (mH E τ) am S σ = h at jm ⊢
  obtain ⟨c1, n1, KX, hc1, hn1, A1, ⟨fs, f1⟩, jm⟩ := jm
  refine r_aload_n d_law_1245 rfl ?_
  refine r_aload_n d_law_1246 rfl ?_
  refine r_iload_n d_law_1247 rfl ?_
  refine r_iconst (v := 1) d_law_1248 (by decide) ?_
  refine r_iadd d_law_1249 ?_
  refine r_scr (j := 6 * k + 1) hb hL d_law_1250 (nI_add (6 * k) 1) (by omega) ?_
  refine r_aload_n d_law_1251 rfl ?_
  refine r_iload_n d_law_1252 rfl ?_
  refine r_iconst (v := 2) d_law_1253 (by decide) ?_
  refine r_iadd d_law_1254 ?_
  refine r_scr (j := 6 * k + 2) hb hL d_law_1255 (nI_add (6 * k) 2) (by omega) ?_
  refine r_callV (d1 := d - 1) (c1 := c1) (n1 := n1) (ci := 9) (As := [.int (xs (6 * k + 1)), .int (xs (6 * k + 2))]) (rest := []) d_law_1256 mf_X9_taken ml_law_144 A1 f1 rfl rfl rfl rfl (Nat.le_of_ble_eq_true rfl) (by omega) (by omega) (by omega) (fun v h' kx => ?_)
  obtain ⟨r, KM, rfl, ⟨x, rfl⟩, A2, ⟨fs2, f2⟩, jm⟩ := jm v h' kx
  refine r_aload_n d_law_1259 rfl ?_
  refine r_aload_n d_law_1260 rfl ?_
  refine r_iload_n d_law_1261 rfl ?_
  refine r_iconst (v := 1) d_law_1262 (by decide) ?_
  refine r_iadd d_law_1263 ?_
  refine r_scr (j := 6 * k + 1) hb hL d_law_1264 (nI_add (6 * k) 1) (by omega) ?_
  refine r_aload_n d_law_1265 rfl ?_
  refine r_iload_n d_law_1266 rfl ?_
  refine r_iconst (v := 2) d_law_1267 (by decide) ?_
  refine r_iadd d_law_1268 ?_
  refine r_scr (j := 6 * k + 2) hb hL d_law_1269 (nI_add (6 * k) 2) (by omega) ?_
  refine r_callV (d1 := d - 1) (c1 := 0) (n1 := 0) (ci := 10) (As := [.int (xs (6 * k + 1)), .int (xs (6 * k + 2))]) (rest := [.int x]) d_law_1270 mf_X10_taken ml_law_147 A2 f2 rfl rfl rfl rfl (Nat.le_of_ble_eq_true rfl) (by omega) (Nat.zero_le _) (Nat.zero_le _) (fun v' h'' km => ?_)
  obtain ⟨rfl, hJ⟩ := jm v' h'' km
  refine r_icmp_eq (tgt := 1278) d_law_1273 (by decide) (fun _ => ?_) (fun z => absurd rfl z)
  exact AW.less (by omega) (by omega) (kk h'' hJ)
