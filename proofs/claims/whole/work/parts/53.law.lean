/-! THE LAW: its script lies outside the region -/
def SX (K : KX) (X : CX) (β : Int) (L : Nat) (xs : Nat → Int32) : Prop := ∃ b : Nat, kad K β = b ∧ va_X b L xs X.2.2.2.1 X.2.2.2.1.heap ∧ b < X.2.2.2.1.heap.size ∧ K.2.2.2 = X.2.2.2.1.heap.size ∧ L ≤ 384
section LAW
variable {K : KX} {X : CX} {nL d : Nat} {Q : State → Prop} {cc : ByteArray} {own : String} {ret : Option FieldType} {pc : Nat} {ls : List (Nat × PV)} {st : List PV} {μ : Int → ME} {β : Int} {L : Nat} {xs : Nat → Int32}
theorem st_b {b : Nat} (h : kad K β = b) (st : List PV) : (vR β :: st).map (eV K) = Value.ref b :: st.map (eV K) := by
  rw [List.map_cons, show eV K (vR β) = Value.ref (kad K β) from rfl, h]
theorem p_slen (C : okX K X cc own nL d ret) (S : SX K X β L xs) (dg : decode cc pc = .ok (.arraylength, 1)) (k : PW K X nL Q (pc + 1) ls (vI (L : Int) :: st) μ) : PW K X nL Q pc ls (vR β :: st) μ := fun H locs la hP hS hl hμ hL hs => by
  obtain ⟨b, hb, hX, hbl, hk, hL4⟩ := S
  have r : rng (L : Int) := by omega
  have h := k H locs la hP hS hl hμ hL (hs.tl.cons (show okV (vI (L : Int)) from r))
  rw [st_b hb]
  refine va_slen C.1 C.2.1 hX hbl (fun hr => by unfold reg at hr; omega) hS dg ?_
  have e : Int32.ofInt (L : Int) = Int32.ofNat L := by
    rw [← Int32.toInt_inj, zi r]
    exact (nI_toInt (by omega)).symm
  rw [List.map_cons, show eV K (vI (L : Int)) = Value.int (Int32.ofInt (L : Int)) from rfl, e] at h
  exact h
theorem p_sld (C : okX K X cc own nL d ret) (S : SX K X β L xs) {i : Int} (dg : decode cc pc = .ok (.iaload, 1)) (hi : 0 ≤ i ∧ i < (L : Int)) (k : PW K X nL Q (pc + 1) ls (vI (xs i.toNat).toInt :: st) μ) : PW K X nL Q pc ls (vI i :: vR β :: st) μ := fun H locs la hP hS hl hμ hL hs => by
  obtain ⟨b, hb, hX, hbl, hk, hL4⟩ := S
  have ri : rng i := hs.hd
  have h := k H locs la hP hS hl hμ hL (hs.tl.tl.cons (show okV (vI (xs i.toNat).toInt) from rng_i _))
  rw [List.map_cons, st_b hb, show eV K (vI i) = Value.int (Int32.ofInt i) from rfl]
  refine va_sld C.1 C.2.1 hX hbl (fun hr => by unfold reg at hr; omega) hS (zi_in hi.1 hi.2 ri) dg ?_
  rw [List.map_cons, show eV K (vI (xs i.toNat).toInt) = Value.int (Int32.ofInt (xs i.toNat).toInt) from rfl, Int32.ofInt_toInt] at h
  rw [zi_cl ri]
  exact h
theorem p_callVX (C : okX K X cc own nL (d + 1) ret) {idx n maxL : Nat} {y : MethodName} {bytes : ByteArray} {retc : Option FieldType} {v : PV} {J : (Int → ME) → Prop} {av rest : List PV} {a : Int} {ci : Nat} {fs : List PV} {q : vw_C} (L : LnkV own idx y bytes maxL retc n) (dg : decode cc pc = .ok (.invokevirtual idx, 3)) (hM : CtE K d y bytes maxL retc (vR a :: av) μ v J) (ha : IR a) (hm : μ a = mO ci fs) (hc : classes[ci]? = some q) (hq : q.1 = y.cls) (hn : av.length = n) (hst : st = av.reverse ++ vR a :: rest) (hsz : (rest.map fun v => if isL v = true then 2 else 1).sum ≤ 8)
    (kk : ∀ μ' : Int → ME, J μ' → PW K X nL Q (pc + 3) ls (v :: rest) μ') : PW K X nL Q pc ls st μ := by
  obtain ⟨Post, h1, h2⟩ := hM
  refine p_callV C L dg h1 ha hm hc hq hn hst hsz (fun r μ' h => ?_)
  obtain ⟨rfl, hJ⟩ := h2 r μ' h
  exact kk μ' hJ
theorem lcp_s (x : Int) : lcp x x = 0 := by
  unfold lcp
  rw [show lg_cmp (Int64.ofInt x) (Int64.ofInt x) = 0 by unfold lg_cmp; simp]
  rfl
end LAW

set_option maxHeartbeats 4000000 in
set_option maxRecDepth 100000 in
theorem l_0 {K : KX} {X : CX} {Q : State → Prop} {μ : Int → ME} {β i : Int} {L : Nat} {xs : Nat → Int32} (C : okX K X cL_law RL 4 8 (some .boolean)) (S : SX K X β L xs) (hL : L ≤ 384) (hi : 0 ≤ i ∧ i + 6 ≤ (L : Int)) (hI : INV μ) (kk : ∀ μ' : Int → ME, INV μ' → PW K X 4 Q 1248 [(3, vI i), (0, vR β), (1, vR 0), (2, vR 42)] [] μ') : PW K X 4 Q 172 [(3, vI i), (0, vR β), (1, vR 0), (2, vR 42)] [] μ := by
  obtain ⟨fs0, hm0⟩ := hI.o
  obtain ⟨ans, J, h1, h2⟩ := s_sea (K := K) (s := (xs (i + 1).toNat).toInt) (l := (xs (i + 2).toNat).toInt) (i := (xs (i + 3).toNat).toInt) (n := (xs (i + 4).toNat).toInt) hI
  refine p_aload_n (pc := 172) C dL_law_172 rfl ?_
  refine p_aload_n (pc := 173) C dL_law_173 rfl ?_
  refine p_iload_n (pc := 174) C dL_law_174 rfl ?_
  refine p_iconst (pc := 175) C dL_law_175 (by decide) ?_
  refine p_iadd (pc := 176) C dL_law_176 ⟨by omega, by omega⟩ ?_
  refine p_sld (pc := 177) C S dL_law_177 (by omega) ?_
  refine p_aload_n (pc := 178) C dL_law_178 rfl ?_
  refine p_iload_n (pc := 179) C dL_law_179 rfl ?_
  refine p_iconst (pc := 180) C dL_law_180 (by decide) ?_
  refine p_iadd (pc := 181) C dL_law_181 ⟨by omega, by omega⟩ ?_
  refine p_sld (pc := 182) C S dL_law_182 (by omega) ?_
  refine p_aload_n (pc := 183) C dL_law_183 rfl ?_
  refine p_iload_n (pc := 184) C dL_law_184 rfl ?_
  refine p_iconst (pc := 185) C dL_law_185 (by decide) ?_
  refine p_iadd (pc := 186) C dL_law_186 ⟨by omega, by omega⟩ ?_
  refine p_sld (pc := 187) C S dL_law_187 (by omega) ?_
  refine p_aload_n (pc := 188) C dL_law_188 rfl ?_
  refine p_iload_n (pc := 189) C dL_law_189 rfl ?_
  refine p_iconst (pc := 190) C dL_law_190 (by decide) ?_
  refine p_iadd (pc := 191) C dL_law_191 ⟨by omega, by omega⟩ ?_
  refine p_sld (pc := 192) C S dL_law_192 (by omega) ?_
  refine p_callVX (pc := 193) C ln_L_13 dL_law_193 (h1) ⟨by omega, by omega⟩ (by exact hm0) rfl rfl rfl rfl (Nat.le_of_ble_eq_true rfl) (fun μ' hpost => ?_)
  obtain ⟨⟨fs1, hm1⟩, h2'⟩ := h2 _ hpost
  refine p_aload_n (pc := 196) C dL_law_196 rfl ?_
  refine p_aload_n (pc := 197) C dL_law_197 rfl ?_
  refine p_iload_n (pc := 198) C dL_law_198 rfl ?_
  refine p_iconst (pc := 199) C dL_law_199 (by decide) ?_
  refine p_iadd (pc := 200) C dL_law_200 ⟨by omega, by omega⟩ ?_
  refine p_sld (pc := 201) C S dL_law_201 (by omega) ?_
  refine p_aload_n (pc := 202) C dL_law_202 rfl ?_
  refine p_iload_n (pc := 203) C dL_law_203 rfl ?_
  refine p_iconst (pc := 204) C dL_law_204 (by decide) ?_
  refine p_iadd (pc := 205) C dL_law_205 ⟨by omega, by omega⟩ ?_
  refine p_sld (pc := 206) C S dL_law_206 (by omega) ?_
  refine p_aload_n (pc := 207) C dL_law_207 rfl ?_
  refine p_iload_n (pc := 208) C dL_law_208 rfl ?_
  refine p_iconst (pc := 209) C dL_law_209 (by decide) ?_
  refine p_iadd (pc := 210) C dL_law_210 ⟨by omega, by omega⟩ ?_
  refine p_sld (pc := 211) C S dL_law_211 (by omega) ?_
  refine p_aload_n (pc := 212) C dL_law_212 rfl ?_
  refine p_iload_n (pc := 213) C dL_law_213 rfl ?_
  refine p_iconst (pc := 214) C dL_law_214 (by decide) ?_
  refine p_iadd (pc := 215) C dL_law_215 ⟨by omega, by omega⟩ ?_
  refine p_sld (pc := 216) C S dL_law_216 (by omega) ?_
  refine p_callVX (pc := 217) C ln_L_17 dL_law_217 (h2') ⟨by omega, by omega⟩ (by exact hm1) rfl rfl rfl rfl (Nat.le_of_ble_eq_true rfl) (fun μ' hpost => ?_)
  refine p_icmp_eq (pc := 220) (tgt := 1248) C dL_law_220 (by decide) (fun c_220 => ?_) (fun h => by exfalso; omega)
  exact kk _ hpost

set_option maxHeartbeats 4000000 in
set_option maxRecDepth 100000 in
theorem l_1 {K : KX} {X : CX} {Q : State → Prop} {μ : Int → ME} {β i : Int} {L : Nat} {xs : Nat → Int32} (C : okX K X cL_law RL 4 8 (some .boolean)) (S : SX K X β L xs) (hL : L ≤ 384) (hi : 0 ≤ i ∧ i + 6 ≤ (L : Int)) (hI : INV μ) (kk : ∀ μ' : Int → ME, INV μ' → PW K X 4 Q 1248 [(3, vI i), (0, vR β), (1, vR 0), (2, vR 42)] [] μ') : PW K X 4 Q 225 [(3, vI i), (0, vR β), (1, vR 0), (2, vR 42)] [] μ := by
  obtain ⟨fs0, hm0⟩ := hI.o
  obtain ⟨ans, J, h1, h2⟩ := s_ofShip (K := K) (k := (xs (i + 1).toNat).toInt) (w := (xs (i + 2).toNat).toInt) hI (rng_i _)
  refine p_aload_n (pc := 225) C dL_law_225 rfl ?_
  refine p_aload_n (pc := 226) C dL_law_226 rfl ?_
  refine p_iload_n (pc := 227) C dL_law_227 rfl ?_
  refine p_iconst (pc := 228) C dL_law_228 (by decide) ?_
  refine p_iadd (pc := 229) C dL_law_229 ⟨by omega, by omega⟩ ?_
  refine p_sld (pc := 230) C S dL_law_230 (by omega) ?_
  refine p_aload_n (pc := 231) C dL_law_231 rfl ?_
  refine p_iload_n (pc := 232) C dL_law_232 rfl ?_
  refine p_iconst (pc := 233) C dL_law_233 (by decide) ?_
  refine p_iadd (pc := 234) C dL_law_234 ⟨by omega, by omega⟩ ?_
  refine p_sld (pc := 235) C S dL_law_235 (by omega) ?_
  refine p_callVX (pc := 236) C ln_L_18 dL_law_236 (h1) ⟨by omega, by omega⟩ (by exact hm0) rfl rfl rfl rfl (Nat.le_of_ble_eq_true rfl) (fun μ' hpost => ?_)
  obtain ⟨⟨fs1, hm1⟩, h2'⟩ := h2 _ hpost
  refine p_aload_n (pc := 239) C dL_law_239 rfl ?_
  refine p_aload_n (pc := 240) C dL_law_240 rfl ?_
  refine p_iload_n (pc := 241) C dL_law_241 rfl ?_
  refine p_iconst (pc := 242) C dL_law_242 (by decide) ?_
  refine p_iadd (pc := 243) C dL_law_243 ⟨by omega, by omega⟩ ?_
  refine p_sld (pc := 244) C S dL_law_244 (by omega) ?_
  refine p_aload_n (pc := 245) C dL_law_245 rfl ?_
  refine p_iload_n (pc := 246) C dL_law_246 rfl ?_
  refine p_iconst (pc := 247) C dL_law_247 (by decide) ?_
  refine p_iadd (pc := 248) C dL_law_248 ⟨by omega, by omega⟩ ?_
  refine p_sld (pc := 249) C S dL_law_249 (by omega) ?_
  refine p_callVX (pc := 250) C ln_L_22 dL_law_250 (h2') ⟨by omega, by omega⟩ (by exact hm1) rfl rfl rfl rfl (Nat.le_of_ble_eq_true rfl) (fun μ' hpost => ?_)
  refine p_icmp_eq (pc := 253) (tgt := 1248) C dL_law_253 (by decide) (fun c_253 => ?_) (fun h => by exfalso; omega)
  exact kk _ hpost

set_option maxHeartbeats 4000000 in
set_option maxRecDepth 100000 in
theorem l_2 {K : KX} {X : CX} {Q : State → Prop} {μ : Int → ME} {β i : Int} {L : Nat} {xs : Nat → Int32} (C : okX K X cL_law RL 4 8 (some .boolean)) (S : SX K X β L xs) (hL : L ≤ 384) (hi : 0 ≤ i ∧ i + 6 ≤ (L : Int)) (hI : INV μ) (kk : ∀ μ' : Int → ME, INV μ' → PW K X 4 Q 1248 [(3, vI i), (0, vR β), (1, vR 0), (2, vR 42)] [] μ') : PW K X 4 Q 258 [(3, vI i), (0, vR β), (1, vR 0), (2, vR 42)] [] μ := by
  obtain ⟨fs0, hm0⟩ := hI.o
  obtain ⟨ans, J, h1, h2⟩ := s_rough (K := K) (p := (xs (i + 1).toNat).toInt) hI
  refine p_aload_n (pc := 258) C dL_law_258 rfl ?_
  refine p_aload_n (pc := 259) C dL_law_259 rfl ?_
  refine p_iload_n (pc := 260) C dL_law_260 rfl ?_
  refine p_iconst (pc := 261) C dL_law_261 (by decide) ?_
  refine p_iadd (pc := 262) C dL_law_262 ⟨by omega, by omega⟩ ?_
  refine p_sld (pc := 263) C S dL_law_263 (by omega) ?_
  refine p_callVX (pc := 264) C ln_L_23 dL_law_264 (h1) ⟨by omega, by omega⟩ (by exact hm0) rfl rfl rfl rfl (Nat.le_of_ble_eq_true rfl) (fun μ' hpost => ?_)
  obtain ⟨⟨fs1, hm1⟩, h2'⟩ := h2 _ hpost
  refine p_aload_n (pc := 267) C dL_law_267 rfl ?_
  refine p_aload_n (pc := 268) C dL_law_268 rfl ?_
  refine p_iload_n (pc := 269) C dL_law_269 rfl ?_
  refine p_iconst (pc := 270) C dL_law_270 (by decide) ?_
  refine p_iadd (pc := 271) C dL_law_271 ⟨by omega, by omega⟩ ?_
  refine p_sld (pc := 272) C S dL_law_272 (by omega) ?_
  refine p_callVX (pc := 273) C ln_L_27 dL_law_273 (h2') ⟨by omega, by omega⟩ (by exact hm1) rfl rfl rfl rfl (Nat.le_of_ble_eq_true rfl) (fun μ' hpost => ?_)
  refine p_icmp_eq (pc := 276) (tgt := 1248) C dL_law_276 (by decide) (fun c_276 => ?_) (fun h => by exfalso; omega)
  exact kk _ hpost

set_option maxHeartbeats 4000000 in
set_option maxRecDepth 100000 in
theorem l_3 {K : KX} {X : CX} {Q : State → Prop} {μ : Int → ME} {β i : Int} {L : Nat} {xs : Nat → Int32} (C : okX K X cL_law RL 4 8 (some .boolean)) (S : SX K X β L xs) (hL : L ≤ 384) (hi : 0 ≤ i ∧ i + 6 ≤ (L : Int)) (hI : INV μ) (kk : ∀ μ' : Int → ME, INV μ' → PW K X 4 Q 1248 [(3, vI i), (0, vR β), (1, vR 0), (2, vR 42)] [] μ') : PW K X 4 Q 281 [(3, vI i), (0, vR β), (1, vR 0), (2, vR 42)] [] μ := by
  obtain ⟨fs0, hm0⟩ := hI.o
  obtain ⟨ans, J, h1, h2⟩ := s_blow (K := K) (p := (xs (i + 1).toNat).toInt) (v := (xs (i + 2).toNat).toInt) hI
  refine p_aload_n (pc := 281) C dL_law_281 rfl ?_
  refine p_aload_n (pc := 282) C dL_law_282 rfl ?_
  refine p_iload_n (pc := 283) C dL_law_283 rfl ?_
  refine p_iconst (pc := 284) C dL_law_284 (by decide) ?_
  refine p_iadd (pc := 285) C dL_law_285 ⟨by omega, by omega⟩ ?_
  refine p_sld (pc := 286) C S dL_law_286 (by omega) ?_
  refine p_aload_n (pc := 287) C dL_law_287 rfl ?_
  refine p_iload_n (pc := 288) C dL_law_288 rfl ?_
  refine p_iconst (pc := 289) C dL_law_289 (by decide) ?_
  refine p_iadd (pc := 290) C dL_law_290 ⟨by omega, by omega⟩ ?_
  refine p_sld (pc := 291) C S dL_law_291 (by omega) ?_
  refine p_callVX (pc := 292) C ln_L_28 dL_law_292 (h1) ⟨by omega, by omega⟩ (by exact hm0) rfl rfl rfl rfl (Nat.le_of_ble_eq_true rfl) (fun μ' hpost => ?_)
  obtain ⟨⟨fs1, hm1⟩, h2'⟩ := h2 _ hpost
  refine p_aload_n (pc := 295) C dL_law_295 rfl ?_
  refine p_aload_n (pc := 296) C dL_law_296 rfl ?_
  refine p_iload_n (pc := 297) C dL_law_297 rfl ?_
  refine p_iconst (pc := 298) C dL_law_298 (by decide) ?_
  refine p_iadd (pc := 299) C dL_law_299 ⟨by omega, by omega⟩ ?_
  refine p_sld (pc := 300) C S dL_law_300 (by omega) ?_
  refine p_aload_n (pc := 301) C dL_law_301 rfl ?_
  refine p_iload_n (pc := 302) C dL_law_302 rfl ?_
  refine p_iconst (pc := 303) C dL_law_303 (by decide) ?_
  refine p_iadd (pc := 304) C dL_law_304 ⟨by omega, by omega⟩ ?_
  refine p_sld (pc := 305) C S dL_law_305 (by omega) ?_
  refine p_callVX (pc := 306) C ln_L_31 dL_law_306 (h2') ⟨by omega, by omega⟩ (by exact hm1) rfl rfl rfl rfl (Nat.le_of_ble_eq_true rfl) (fun μ' hpost => ?_)
  refine p_icmp_eq (pc := 309) (tgt := 1248) C dL_law_309 (by decide) (fun c_309 => ?_) (fun h => by exfalso; omega)
  exact kk _ hpost

set_option maxHeartbeats 4000000 in
set_option maxRecDepth 100000 in
theorem l_4 {K : KX} {X : CX} {Q : State → Prop} {μ : Int → ME} {β i : Int} {L : Nat} {xs : Nat → Int32} (C : okX K X cL_law RL 4 8 (some .boolean)) (S : SX K X β L xs) (hL : L ≤ 384) (hi : 0 ≤ i ∧ i + 6 ≤ (L : Int)) (hI : INV μ) (kk : ∀ μ' : Int → ME, INV μ' → PW K X 4 Q 1248 [(3, vI i), (0, vR β), (1, vR 0), (2, vR 42)] [] μ') : PW K X 4 Q 314 [(3, vI i), (0, vR β), (1, vR 0), (2, vR 42)] [] μ := by
  obtain ⟨fs0, hm0⟩ := hI.o
  obtain ⟨ans, J, h1, h2⟩ := s_name (K := K) (k := (xs (i + 1).toNat).toInt) (g := (xs (i + 2).toNat).toInt) hI
  refine p_aload_n (pc := 314) C dL_law_314 rfl ?_
  refine p_aload_n (pc := 315) C dL_law_315 rfl ?_
  refine p_iload_n (pc := 316) C dL_law_316 rfl ?_
  refine p_iconst (pc := 317) C dL_law_317 (by decide) ?_
  refine p_iadd (pc := 318) C dL_law_318 ⟨by omega, by omega⟩ ?_
  refine p_sld (pc := 319) C S dL_law_319 (by omega) ?_
  refine p_aload_n (pc := 320) C dL_law_320 rfl ?_
  refine p_iload_n (pc := 321) C dL_law_321 rfl ?_
  refine p_iconst (pc := 322) C dL_law_322 (by decide) ?_
  refine p_iadd (pc := 323) C dL_law_323 ⟨by omega, by omega⟩ ?_
  refine p_sld (pc := 324) C S dL_law_324 (by omega) ?_
  refine p_callVX (pc := 325) C ln_L_32 dL_law_325 (h1) ⟨by omega, by omega⟩ (by exact hm0) rfl rfl rfl rfl (Nat.le_of_ble_eq_true rfl) (fun μ' hpost => ?_)
  obtain ⟨⟨fs1, hm1⟩, h2'⟩ := h2 _ hpost
  refine p_aload_n (pc := 328) C dL_law_328 rfl ?_
  refine p_aload_n (pc := 329) C dL_law_329 rfl ?_
  refine p_iload_n (pc := 330) C dL_law_330 rfl ?_
  refine p_iconst (pc := 331) C dL_law_331 (by decide) ?_
  refine p_iadd (pc := 332) C dL_law_332 ⟨by omega, by omega⟩ ?_
  refine p_sld (pc := 333) C S dL_law_333 (by omega) ?_
  refine p_aload_n (pc := 334) C dL_law_334 rfl ?_
  refine p_iload_n (pc := 335) C dL_law_335 rfl ?_
  refine p_iconst (pc := 336) C dL_law_336 (by decide) ?_
  refine p_iadd (pc := 337) C dL_law_337 ⟨by omega, by omega⟩ ?_
  refine p_sld (pc := 338) C S dL_law_338 (by omega) ?_
  refine p_callVX (pc := 339) C ln_L_35 dL_law_339 (h2') ⟨by omega, by omega⟩ (by exact hm1) rfl rfl rfl rfl (Nat.le_of_ble_eq_true rfl) (fun μ' hpost => ?_)
  refine p_icmp_eq (pc := 342) (tgt := 1248) C dL_law_342 (by decide) (fun c_342 => ?_) (fun h => by exfalso; omega)
  exact kk _ hpost

set_option maxHeartbeats 4000000 in
set_option maxRecDepth 100000 in
theorem l_5 {K : KX} {X : CX} {Q : State → Prop} {μ : Int → ME} {β i : Int} {L : Nat} {xs : Nat → Int32} (C : okX K X cL_law RL 4 8 (some .boolean)) (S : SX K X β L xs) (hL : L ≤ 384) (hi : 0 ≤ i ∧ i + 6 ≤ (L : Int)) (hI : INV μ) (kk : ∀ μ' : Int → ME, INV μ' → PW K X 4 Q 1248 [(3, vI i), (0, vR β), (1, vR 0), (2, vR 42)] [] μ') : PW K X 4 Q 347 [(3, vI i), (0, vR β), (1, vR 0), (2, vR 42)] [] μ := by
  obtain ⟨fs0, hm0⟩ := hI.o
  obtain ⟨ans, J, h1, h2⟩ := s_days (K := K) (n := (xs (i + 1).toNat).toInt) hI
  refine p_aload_n (pc := 347) C dL_law_347 rfl ?_
  refine p_aload_n (pc := 348) C dL_law_348 rfl ?_
  refine p_iload_n (pc := 349) C dL_law_349 rfl ?_
  refine p_iconst (pc := 350) C dL_law_350 (by decide) ?_
  refine p_iadd (pc := 351) C dL_law_351 ⟨by omega, by omega⟩ ?_
  refine p_sld (pc := 352) C S dL_law_352 (by omega) ?_
  refine p_callVX (pc := 353) C ln_L_36 dL_law_353 (h1) ⟨by omega, by omega⟩ (by exact hm0) rfl rfl rfl rfl (Nat.le_of_ble_eq_true rfl) (fun μ' hpost => ?_)
  obtain ⟨⟨fs1, hm1⟩, h2'⟩ := h2 _ hpost
  refine p_aload_n (pc := 356) C dL_law_356 rfl ?_
  refine p_aload_n (pc := 357) C dL_law_357 rfl ?_
  refine p_iload_n (pc := 358) C dL_law_358 rfl ?_
  refine p_iconst (pc := 359) C dL_law_359 (by decide) ?_
  refine p_iadd (pc := 360) C dL_law_360 ⟨by omega, by omega⟩ ?_
  refine p_sld (pc := 361) C S dL_law_361 (by omega) ?_
  refine p_callVX (pc := 362) C ln_L_39 dL_law_362 (h2') ⟨by omega, by omega⟩ (by exact hm1) rfl rfl rfl rfl (Nat.le_of_ble_eq_true rfl) (fun μ' hpost => ?_)
  refine p_icmp_eq (pc := 365) (tgt := 1248) C dL_law_365 (by decide) (fun c_365 => ?_) (fun h => by exfalso; omega)
  exact kk _ hpost

set_option maxHeartbeats 4000000 in
set_option maxRecDepth 100000 in
theorem l_6 {K : KX} {X : CX} {Q : State → Prop} {μ : Int → ME} {β i : Int} {L : Nat} {xs : Nat → Int32} (C : okX K X cL_law RL 4 8 (some .boolean)) (S : SX K X β L xs) (hL : L ≤ 384) (hi : 0 ≤ i ∧ i + 6 ≤ (L : Int)) (hI : INV μ) (kk : ∀ μ' : Int → ME, INV μ' → PW K X 4 Q 1248 [(3, vI i), (0, vR β), (1, vR 0), (2, vR 42)] [] μ') : PW K X 4 Q 370 [(3, vI i), (0, vR β), (1, vR 0), (2, vR 42)] [] μ := by
  obtain ⟨fs0, hm0⟩ := hI.o
  obtain ⟨ans, J, h1, h2⟩ := s_load (K := K) (k := (xs (i + 1).toNat).toInt) (g := (xs (i + 2).toNat).toInt) (n := (xs (i + 3).toNat).toInt) hI
  refine p_aload_n (pc := 370) C dL_law_370 rfl ?_
  refine p_aload_n (pc := 371) C dL_law_371 rfl ?_
  refine p_iload_n (pc := 372) C dL_law_372 rfl ?_
  refine p_iconst (pc := 373) C dL_law_373 (by decide) ?_
  refine p_iadd (pc := 374) C dL_law_374 ⟨by omega, by omega⟩ ?_
  refine p_sld (pc := 375) C S dL_law_375 (by omega) ?_
  refine p_aload_n (pc := 376) C dL_law_376 rfl ?_
  refine p_iload_n (pc := 377) C dL_law_377 rfl ?_
  refine p_iconst (pc := 378) C dL_law_378 (by decide) ?_
  refine p_iadd (pc := 379) C dL_law_379 ⟨by omega, by omega⟩ ?_
  refine p_sld (pc := 380) C S dL_law_380 (by omega) ?_
  refine p_aload_n (pc := 381) C dL_law_381 rfl ?_
  refine p_iload_n (pc := 382) C dL_law_382 rfl ?_
  refine p_iconst (pc := 383) C dL_law_383 (by decide) ?_
  refine p_iadd (pc := 384) C dL_law_384 ⟨by omega, by omega⟩ ?_
  refine p_sld (pc := 385) C S dL_law_385 (by omega) ?_
  refine p_callVX (pc := 386) C ln_L_40 dL_law_386 (h1) ⟨by omega, by omega⟩ (by exact hm0) rfl rfl rfl rfl (Nat.le_of_ble_eq_true rfl) (fun μ' hpost => ?_)
  obtain ⟨⟨fs1, hm1⟩, h2'⟩ := h2 _ hpost
  refine p_aload_n (pc := 389) C dL_law_389 rfl ?_
  refine p_aload_n (pc := 390) C dL_law_390 rfl ?_
  refine p_iload_n (pc := 391) C dL_law_391 rfl ?_
  refine p_iconst (pc := 392) C dL_law_392 (by decide) ?_
  refine p_iadd (pc := 393) C dL_law_393 ⟨by omega, by omega⟩ ?_
  refine p_sld (pc := 394) C S dL_law_394 (by omega) ?_
  refine p_aload_n (pc := 395) C dL_law_395 rfl ?_
  refine p_iload_n (pc := 396) C dL_law_396 rfl ?_
  refine p_iconst (pc := 397) C dL_law_397 (by decide) ?_
  refine p_iadd (pc := 398) C dL_law_398 ⟨by omega, by omega⟩ ?_
  refine p_sld (pc := 399) C S dL_law_399 (by omega) ?_
  refine p_aload_n (pc := 400) C dL_law_400 rfl ?_
  refine p_iload_n (pc := 401) C dL_law_401 rfl ?_
  refine p_iconst (pc := 402) C dL_law_402 (by decide) ?_
  refine p_iadd (pc := 403) C dL_law_403 ⟨by omega, by omega⟩ ?_
  refine p_sld (pc := 404) C S dL_law_404 (by omega) ?_
  refine p_callVX (pc := 405) C ln_L_44 dL_law_405 (h2') ⟨by omega, by omega⟩ (by exact hm1) rfl rfl rfl rfl (Nat.le_of_ble_eq_true rfl) (fun μ' hpost => ?_)
  refine p_icmp_eq (pc := 408) (tgt := 1248) C dL_law_408 (by decide) (fun c_408 => ?_) (fun h => by exfalso; omega)
  exact kk _ hpost

set_option maxHeartbeats 4000000 in
set_option maxRecDepth 100000 in
theorem l_7 {K : KX} {X : CX} {Q : State → Prop} {μ : Int → ME} {β i : Int} {L : Nat} {xs : Nat → Int32} (C : okX K X cL_law RL 4 8 (some .boolean)) (S : SX K X β L xs) (hL : L ≤ 384) (hi : 0 ≤ i ∧ i + 6 ≤ (L : Int)) (hI : INV μ) (kk : ∀ μ' : Int → ME, INV μ' → PW K X 4 Q 1248 [(3, vI i), (0, vR β), (1, vR 0), (2, vR 42)] [] μ') : PW K X 4 Q 413 [(3, vI i), (0, vR β), (1, vR 0), (2, vR 42)] [] μ := by
  obtain ⟨fs0, hm0⟩ := hI.o
  obtain ⟨ans, J, h1, h2⟩ := s_off (K := K) (k := (xs (i + 1).toNat).toInt) (g := (xs (i + 2).toNat).toInt) (n := (xs (i + 3).toNat).toInt) hI
  refine p_aload_n (pc := 413) C dL_law_413 rfl ?_
  refine p_aload_n (pc := 414) C dL_law_414 rfl ?_
  refine p_iload_n (pc := 415) C dL_law_415 rfl ?_
  refine p_iconst (pc := 416) C dL_law_416 (by decide) ?_
  refine p_iadd (pc := 417) C dL_law_417 ⟨by omega, by omega⟩ ?_
  refine p_sld (pc := 418) C S dL_law_418 (by omega) ?_
  refine p_aload_n (pc := 419) C dL_law_419 rfl ?_
  refine p_iload_n (pc := 420) C dL_law_420 rfl ?_
  refine p_iconst (pc := 421) C dL_law_421 (by decide) ?_
  refine p_iadd (pc := 422) C dL_law_422 ⟨by omega, by omega⟩ ?_
  refine p_sld (pc := 423) C S dL_law_423 (by omega) ?_
  refine p_aload_n (pc := 424) C dL_law_424 rfl ?_
  refine p_iload_n (pc := 425) C dL_law_425 rfl ?_
  refine p_iconst (pc := 426) C dL_law_426 (by decide) ?_
  refine p_iadd (pc := 427) C dL_law_427 ⟨by omega, by omega⟩ ?_
  refine p_sld (pc := 428) C S dL_law_428 (by omega) ?_
  refine p_callVX (pc := 429) C ln_L_45 dL_law_429 (h1) ⟨by omega, by omega⟩ (by exact hm0) rfl rfl rfl rfl (Nat.le_of_ble_eq_true rfl) (fun μ' hpost => ?_)
  obtain ⟨⟨fs1, hm1⟩, h2'⟩ := h2 _ hpost
  refine p_aload_n (pc := 432) C dL_law_432 rfl ?_
  refine p_aload_n (pc := 433) C dL_law_433 rfl ?_
  refine p_iload_n (pc := 434) C dL_law_434 rfl ?_
  refine p_iconst (pc := 435) C dL_law_435 (by decide) ?_
  refine p_iadd (pc := 436) C dL_law_436 ⟨by omega, by omega⟩ ?_
  refine p_sld (pc := 437) C S dL_law_437 (by omega) ?_
  refine p_aload_n (pc := 438) C dL_law_438 rfl ?_
  refine p_iload_n (pc := 439) C dL_law_439 rfl ?_
  refine p_iconst (pc := 440) C dL_law_440 (by decide) ?_
  refine p_iadd (pc := 441) C dL_law_441 ⟨by omega, by omega⟩ ?_
  refine p_sld (pc := 442) C S dL_law_442 (by omega) ?_
  refine p_aload_n (pc := 443) C dL_law_443 rfl ?_
  refine p_iload_n (pc := 444) C dL_law_444 rfl ?_
  refine p_iconst (pc := 445) C dL_law_445 (by decide) ?_
  refine p_iadd (pc := 446) C dL_law_446 ⟨by omega, by omega⟩ ?_
  refine p_sld (pc := 447) C S dL_law_447 (by omega) ?_
  refine p_callVX (pc := 448) C ln_L_48 dL_law_448 (h2') ⟨by omega, by omega⟩ (by exact hm1) rfl rfl rfl rfl (Nat.le_of_ble_eq_true rfl) (fun μ' hpost => ?_)
  refine p_icmp_eq (pc := 451) (tgt := 1248) C dL_law_451 (by decide) (fun c_451 => ?_) (fun h => by exfalso; omega)
  exact kk _ hpost

set_option maxHeartbeats 4000000 in
set_option maxRecDepth 100000 in
theorem l_8 {K : KX} {X : CX} {Q : State → Prop} {μ : Int → ME} {β i : Int} {L : Nat} {xs : Nat → Int32} (C : okX K X cL_law RL 4 8 (some .boolean)) (S : SX K X β L xs) (hL : L ≤ 384) (hi : 0 ≤ i ∧ i + 6 ≤ (L : Int)) (hI : INV μ) (kk : ∀ μ' : Int → ME, INV μ' → PW K X 4 Q 1248 [(3, vI i), (0, vR β), (1, vR 0), (2, vR 42)] [] μ') : PW K X 4 Q 456 [(3, vI i), (0, vR β), (1, vR 0), (2, vR 42)] [] μ := by
  obtain ⟨fs0, hm0⟩ := hI.o
  obtain ⟨ans, J, h1, h2⟩ := s_voyage (K := K) (s := (xs (i + 1).toNat).toInt) (l := (xs (i + 2).toNat).toInt) (i := (xs (i + 3).toNat).toInt) (n := (xs (i + 4).toNat).toInt) (w := (xs (i + 5).toNat).toInt) hI (rng_i _)
  refine p_aload_n (pc := 456) C dL_law_456 rfl ?_
  refine p_aload_n (pc := 457) C dL_law_457 rfl ?_
  refine p_iload_n (pc := 458) C dL_law_458 rfl ?_
  refine p_iconst (pc := 459) C dL_law_459 (by decide) ?_
  refine p_iadd (pc := 460) C dL_law_460 ⟨by omega, by omega⟩ ?_
  refine p_sld (pc := 461) C S dL_law_461 (by omega) ?_
  refine p_aload_n (pc := 462) C dL_law_462 rfl ?_
  refine p_iload_n (pc := 463) C dL_law_463 rfl ?_
  refine p_iconst (pc := 464) C dL_law_464 (by decide) ?_
  refine p_iadd (pc := 465) C dL_law_465 ⟨by omega, by omega⟩ ?_
  refine p_sld (pc := 466) C S dL_law_466 (by omega) ?_
  refine p_aload_n (pc := 467) C dL_law_467 rfl ?_
  refine p_iload_n (pc := 468) C dL_law_468 rfl ?_
  refine p_iconst (pc := 469) C dL_law_469 (by decide) ?_
  refine p_iadd (pc := 470) C dL_law_470 ⟨by omega, by omega⟩ ?_
  refine p_sld (pc := 471) C S dL_law_471 (by omega) ?_
  refine p_aload_n (pc := 472) C dL_law_472 rfl ?_
  refine p_iload_n (pc := 473) C dL_law_473 rfl ?_
  refine p_iconst (pc := 474) C dL_law_474 (by decide) ?_
  refine p_iadd (pc := 475) C dL_law_475 ⟨by omega, by omega⟩ ?_
  refine p_sld (pc := 476) C S dL_law_476 (by omega) ?_
  refine p_aload_n (pc := 477) C dL_law_477 rfl ?_
  refine p_iload_n (pc := 478) C dL_law_478 rfl ?_
  refine p_iconst (pc := 479) C dL_law_479 (by decide) ?_
  refine p_iadd (pc := 480) C dL_law_480 ⟨by omega, by omega⟩ ?_
  refine p_sld (pc := 481) C S dL_law_481 (by omega) ?_
  refine p_callVX (pc := 482) C ln_L_49 dL_law_482 (h1) ⟨by omega, by omega⟩ (by exact hm0) rfl rfl rfl rfl (Nat.le_of_ble_eq_true rfl) (fun μ' hpost => ?_)
  obtain ⟨⟨fs1, hm1⟩, h2'⟩ := h2 _ hpost
  refine p_aload_n (pc := 485) C dL_law_485 rfl ?_
  refine p_aload_n (pc := 486) C dL_law_486 rfl ?_
  refine p_iload_n (pc := 487) C dL_law_487 rfl ?_
  refine p_iconst (pc := 488) C dL_law_488 (by decide) ?_
  refine p_iadd (pc := 489) C dL_law_489 ⟨by omega, by omega⟩ ?_
  refine p_sld (pc := 490) C S dL_law_490 (by omega) ?_
  refine p_aload_n (pc := 491) C dL_law_491 rfl ?_
  refine p_iload_n (pc := 492) C dL_law_492 rfl ?_
  refine p_iconst (pc := 493) C dL_law_493 (by decide) ?_
  refine p_iadd (pc := 494) C dL_law_494 ⟨by omega, by omega⟩ ?_
  refine p_sld (pc := 495) C S dL_law_495 (by omega) ?_
  refine p_aload_n (pc := 496) C dL_law_496 rfl ?_
  refine p_iload_n (pc := 497) C dL_law_497 rfl ?_
  refine p_iconst (pc := 498) C dL_law_498 (by decide) ?_
  refine p_iadd (pc := 499) C dL_law_499 ⟨by omega, by omega⟩ ?_
  refine p_sld (pc := 500) C S dL_law_500 (by omega) ?_
  refine p_aload_n (pc := 501) C dL_law_501 rfl ?_
  refine p_iload_n (pc := 502) C dL_law_502 rfl ?_
  refine p_iconst (pc := 503) C dL_law_503 (by decide) ?_
  refine p_iadd (pc := 504) C dL_law_504 ⟨by omega, by omega⟩ ?_
  refine p_sld (pc := 505) C S dL_law_505 (by omega) ?_
  refine p_aload_n (pc := 506) C dL_law_506 rfl ?_
  refine p_iload_n (pc := 507) C dL_law_507 rfl ?_
  refine p_iconst (pc := 508) C dL_law_508 (by decide) ?_
  refine p_iadd (pc := 509) C dL_law_509 ⟨by omega, by omega⟩ ?_
  refine p_sld (pc := 510) C S dL_law_510 (by omega) ?_
  refine p_callVX (pc := 511) C ln_L_53 dL_law_511 (h2') ⟨by omega, by omega⟩ (by exact hm1) rfl rfl rfl rfl (Nat.le_of_ble_eq_true rfl) (fun μ' hpost => ?_)
  refine p_icmp_eq (pc := 514) (tgt := 1248) C dL_law_514 (by decide) (fun c_514 => ?_) (fun h => by exfalso; omega)
  exact kk _ hpost

set_option maxHeartbeats 4000000 in
set_option maxRecDepth 100000 in
theorem l_9 {K : KX} {X : CX} {Q : State → Prop} {μ : Int → ME} {β i : Int} {L : Nat} {xs : Nat → Int32} (C : okX K X cL_law RL 4 8 (some .boolean)) (S : SX K X β L xs) (hL : L ≤ 384) (hi : 0 ≤ i ∧ i + 6 ≤ (L : Int)) (hI : INV μ) (kk : ∀ μ' : Int → ME, INV μ' → PW K X 4 Q 1248 [(3, vI i), (0, vR β), (1, vR 0), (2, vR 42)] [] μ') : PW K X 4 Q 519 [(3, vI i), (0, vR β), (1, vR 0), (2, vR 42)] [] μ := by
  obtain ⟨fs0, hm0⟩ := hI.o
  obtain ⟨ans, J, h1, h2⟩ := s_keeps (K := K) (k := (xs (i + 1).toNat).toInt) hI
  refine p_aload_n (pc := 519) C dL_law_519 rfl ?_
  refine p_aload_n (pc := 520) C dL_law_520 rfl ?_
  refine p_iload_n (pc := 521) C dL_law_521 rfl ?_
  refine p_iconst (pc := 522) C dL_law_522 (by decide) ?_
  refine p_iadd (pc := 523) C dL_law_523 ⟨by omega, by omega⟩ ?_
  refine p_sld (pc := 524) C S dL_law_524 (by omega) ?_
  refine p_callVX (pc := 525) C ln_L_54 dL_law_525 (h1) ⟨by omega, by omega⟩ (by exact hm0) rfl rfl rfl rfl (Nat.le_of_ble_eq_true rfl) (fun μ' hpost => ?_)
  obtain ⟨⟨fs1, hm1⟩, h2'⟩ := h2 _ hpost
  refine p_aload_n (pc := 528) C dL_law_528 rfl ?_
  refine p_aload_n (pc := 529) C dL_law_529 rfl ?_
  refine p_iload_n (pc := 530) C dL_law_530 rfl ?_
  refine p_iconst (pc := 531) C dL_law_531 (by decide) ?_
  refine p_iadd (pc := 532) C dL_law_532 ⟨by omega, by omega⟩ ?_
  refine p_sld (pc := 533) C S dL_law_533 (by omega) ?_
  refine p_callVX (pc := 534) C ln_L_57 dL_law_534 (h2') ⟨by omega, by omega⟩ (by exact hm1) rfl rfl rfl rfl (Nat.le_of_ble_eq_true rfl) (fun μ' hpost => ?_)
  refine p_icmp_eq (pc := 537) (tgt := 1248) C dL_law_537 (by decide) (fun c_537 => ?_) (fun h => by exfalso; omega)
  exact kk _ hpost

set_option maxHeartbeats 4000000 in
set_option maxRecDepth 100000 in
theorem l_10 {K : KX} {X : CX} {Q : State → Prop} {μ : Int → ME} {β i : Int} {L : Nat} {xs : Nat → Int32} (C : okX K X cL_law RL 4 8 (some .boolean)) (S : SX K X β L xs) (hL : L ≤ 384) (hi : 0 ≤ i ∧ i + 6 ≤ (L : Int)) (hI : INV μ) (kk : ∀ μ' : Int → ME, INV μ' → PW K X 4 Q 1248 [(3, vI i), (0, vR β), (1, vR 0), (2, vR 42)] [] μ') : PW K X 4 Q 542 [(3, vI i), (0, vR β), (1, vR 0), (2, vR 42)] [] μ := by
  obtain ⟨fs0, hm0⟩ := hI.o
  obtain ⟨ans, J, h1, h2⟩ := s_harbour (K := K) (k := (xs (i + 1).toNat).toInt) (n := (xs (i + 2).toNat).toInt) (w := (xs (i + 3).toNat).toInt) hI
  refine p_aload_n (pc := 542) C dL_law_542 rfl ?_
  refine p_aload_n (pc := 543) C dL_law_543 rfl ?_
  refine p_iload_n (pc := 544) C dL_law_544 rfl ?_
  refine p_iconst (pc := 545) C dL_law_545 (by decide) ?_
  refine p_iadd (pc := 546) C dL_law_546 ⟨by omega, by omega⟩ ?_
  refine p_sld (pc := 547) C S dL_law_547 (by omega) ?_
  refine p_aload_n (pc := 548) C dL_law_548 rfl ?_
  refine p_iload_n (pc := 549) C dL_law_549 rfl ?_
  refine p_iconst (pc := 550) C dL_law_550 (by decide) ?_
  refine p_iadd (pc := 551) C dL_law_551 ⟨by omega, by omega⟩ ?_
  refine p_sld (pc := 552) C S dL_law_552 (by omega) ?_
  refine p_aload_n (pc := 553) C dL_law_553 rfl ?_
  refine p_iload_n (pc := 554) C dL_law_554 rfl ?_
  refine p_iconst (pc := 555) C dL_law_555 (by decide) ?_
  refine p_iadd (pc := 556) C dL_law_556 ⟨by omega, by omega⟩ ?_
  refine p_sld (pc := 557) C S dL_law_557 (by omega) ?_
  refine p_callVX (pc := 558) C ln_L_58 dL_law_558 (h1) ⟨by omega, by omega⟩ (by exact hm0) rfl rfl rfl rfl (Nat.le_of_ble_eq_true rfl) (fun μ' hpost => ?_)
  obtain ⟨⟨fs1, hm1⟩, h2'⟩ := h2 _ hpost
  refine p_aload_n (pc := 561) C dL_law_561 rfl ?_
  refine p_aload_n (pc := 562) C dL_law_562 rfl ?_
  refine p_iload_n (pc := 563) C dL_law_563 rfl ?_
  refine p_iconst (pc := 564) C dL_law_564 (by decide) ?_
  refine p_iadd (pc := 565) C dL_law_565 ⟨by omega, by omega⟩ ?_
  refine p_sld (pc := 566) C S dL_law_566 (by omega) ?_
  refine p_aload_n (pc := 567) C dL_law_567 rfl ?_
  refine p_iload_n (pc := 568) C dL_law_568 rfl ?_
  refine p_iconst (pc := 569) C dL_law_569 (by decide) ?_
  refine p_iadd (pc := 570) C dL_law_570 ⟨by omega, by omega⟩ ?_
  refine p_sld (pc := 571) C S dL_law_571 (by omega) ?_
  refine p_aload_n (pc := 572) C dL_law_572 rfl ?_
  refine p_iload_n (pc := 573) C dL_law_573 rfl ?_
  refine p_iconst (pc := 574) C dL_law_574 (by decide) ?_
  refine p_iadd (pc := 575) C dL_law_575 ⟨by omega, by omega⟩ ?_
  refine p_sld (pc := 576) C S dL_law_576 (by omega) ?_
  refine p_callVX (pc := 577) C ln_L_61 dL_law_577 (h2') ⟨by omega, by omega⟩ (by exact hm1) rfl rfl rfl rfl (Nat.le_of_ble_eq_true rfl) (fun μ' hpost => ?_)
  refine p_icmp_eq (pc := 580) (tgt := 1248) C dL_law_580 (by decide) (fun c_580 => ?_) (fun h => by exfalso; omega)
  exact kk _ hpost

set_option maxHeartbeats 4000000 in
set_option maxRecDepth 100000 in
theorem l_11 {K : KX} {X : CX} {Q : State → Prop} {μ : Int → ME} {β i : Int} {L : Nat} {xs : Nat → Int32} (C : okX K X cL_law RL 4 8 (some .boolean)) (S : SX K X β L xs) (hL : L ≤ 384) (hi : 0 ≤ i ∧ i + 6 ≤ (L : Int)) (hI : INV μ) (kk : ∀ μ' : Int → ME, INV μ' → PW K X 4 Q 1248 [(3, vI i), (0, vR β), (1, vR 0), (2, vR 42)] [] μ') : PW K X 4 Q 585 [(3, vI i), (0, vR β), (1, vR 0), (2, vR 42)] [] μ := by
  obtain ⟨fs0, hm0⟩ := hI.o
  obtain ⟨ans, J, h1, h2⟩ := s_stow (K := K) (k := (xs (i + 1).toNat).toInt) (n := (xs (i + 2).toNat).toInt) (p := (xs (i + 3).toNat).toInt) (w := (xs (i + 4).toNat).toInt) hI (rng_i _)
  refine p_aload_n (pc := 585) C dL_law_585 rfl ?_
  refine p_aload_n (pc := 586) C dL_law_586 rfl ?_
  refine p_iload_n (pc := 587) C dL_law_587 rfl ?_
  refine p_iconst (pc := 588) C dL_law_588 (by decide) ?_
  refine p_iadd (pc := 589) C dL_law_589 ⟨by omega, by omega⟩ ?_
  refine p_sld (pc := 590) C S dL_law_590 (by omega) ?_
  refine p_aload_n (pc := 591) C dL_law_591 rfl ?_
  refine p_iload_n (pc := 592) C dL_law_592 rfl ?_
  refine p_iconst (pc := 593) C dL_law_593 (by decide) ?_
  refine p_iadd (pc := 594) C dL_law_594 ⟨by omega, by omega⟩ ?_
  refine p_sld (pc := 595) C S dL_law_595 (by omega) ?_
  refine p_aload_n (pc := 596) C dL_law_596 rfl ?_
  refine p_iload_n (pc := 597) C dL_law_597 rfl ?_
  refine p_iconst (pc := 598) C dL_law_598 (by decide) ?_
  refine p_iadd (pc := 599) C dL_law_599 ⟨by omega, by omega⟩ ?_
  refine p_sld (pc := 600) C S dL_law_600 (by omega) ?_
  refine p_aload_n (pc := 601) C dL_law_601 rfl ?_
  refine p_iload_n (pc := 602) C dL_law_602 rfl ?_
  refine p_iconst (pc := 603) C dL_law_603 (by decide) ?_
  refine p_iadd (pc := 604) C dL_law_604 ⟨by omega, by omega⟩ ?_
  refine p_sld (pc := 605) C S dL_law_605 (by omega) ?_
  refine p_callVX (pc := 606) C ln_L_62 dL_law_606 (h1) ⟨by omega, by omega⟩ (by exact hm0) rfl rfl rfl rfl (Nat.le_of_ble_eq_true rfl) (fun μ' hpost => ?_)
  obtain ⟨⟨fs1, hm1⟩, h2'⟩ := h2 _ hpost
  refine p_aload_n (pc := 609) C dL_law_609 rfl ?_
  refine p_aload_n (pc := 610) C dL_law_610 rfl ?_
  refine p_iload_n (pc := 611) C dL_law_611 rfl ?_
  refine p_iconst (pc := 612) C dL_law_612 (by decide) ?_
  refine p_iadd (pc := 613) C dL_law_613 ⟨by omega, by omega⟩ ?_
  refine p_sld (pc := 614) C S dL_law_614 (by omega) ?_
  refine p_aload_n (pc := 615) C dL_law_615 rfl ?_
  refine p_iload_n (pc := 616) C dL_law_616 rfl ?_
  refine p_iconst (pc := 617) C dL_law_617 (by decide) ?_
  refine p_iadd (pc := 618) C dL_law_618 ⟨by omega, by omega⟩ ?_
  refine p_sld (pc := 619) C S dL_law_619 (by omega) ?_
  refine p_aload_n (pc := 620) C dL_law_620 rfl ?_
  refine p_iload_n (pc := 621) C dL_law_621 rfl ?_
  refine p_iconst (pc := 622) C dL_law_622 (by decide) ?_
  refine p_iadd (pc := 623) C dL_law_623 ⟨by omega, by omega⟩ ?_
  refine p_sld (pc := 624) C S dL_law_624 (by omega) ?_
  refine p_aload_n (pc := 625) C dL_law_625 rfl ?_
  refine p_iload_n (pc := 626) C dL_law_626 rfl ?_
  refine p_iconst (pc := 627) C dL_law_627 (by decide) ?_
  refine p_iadd (pc := 628) C dL_law_628 ⟨by omega, by omega⟩ ?_
  refine p_sld (pc := 629) C S dL_law_629 (by omega) ?_
  refine p_callVX (pc := 630) C ln_L_65 dL_law_630 (h2') ⟨by omega, by omega⟩ (by exact hm1) rfl rfl rfl rfl (Nat.le_of_ble_eq_true rfl) (fun μ' hpost => ?_)
  refine p_icmp_eq (pc := 633) (tgt := 1248) C dL_law_633 (by decide) (fun c_633 => ?_) (fun h => by exfalso; omega)
  exact kk _ hpost

set_option maxHeartbeats 4000000 in
set_option maxRecDepth 100000 in
theorem l_12 {K : KX} {X : CX} {Q : State → Prop} {μ : Int → ME} {β i : Int} {L : Nat} {xs : Nat → Int32} (C : okX K X cL_law RL 4 8 (some .boolean)) (S : SX K X β L xs) (hL : L ≤ 384) (hi : 0 ≤ i ∧ i + 6 ≤ (L : Int)) (hI : INV μ) (kk : ∀ μ' : Int → ME, INV μ' → PW K X 4 Q 1248 [(3, vI i), (0, vR β), (1, vR 0), (2, vR 42)] [] μ') : PW K X 4 Q 638 [(3, vI i), (0, vR β), (1, vR 0), (2, vR 42)] [] μ := by
  obtain ⟨fs0, hm0⟩ := hI.o
  obtain ⟨ans, J, h1, h2⟩ := s_cover (K := K)  hI
  refine p_aload_n (pc := 638) C dL_law_638 rfl ?_
  refine p_callVX (pc := 639) C ln_L_66 dL_law_639 (h1) ⟨by omega, by omega⟩ (by exact hm0) rfl rfl rfl rfl (Nat.le_of_ble_eq_true rfl) (fun μ' hpost => ?_)
  obtain ⟨⟨fs1, hm1⟩, h2'⟩ := h2 _ hpost
  refine p_aload_n (pc := 642) C dL_law_642 rfl ?_
  refine p_callVX (pc := 643) C ln_L_70 dL_law_643 (h2') ⟨by omega, by omega⟩ (by exact hm1) rfl rfl rfl rfl (Nat.le_of_ble_eq_true rfl) (fun μ' hpost => ?_)
  refine p_icmp_eq (pc := 646) (tgt := 1248) C dL_law_646 (by decide) (fun c_646 => ?_) (fun h => by exfalso; omega)
  exact kk _ hpost

set_option maxHeartbeats 4000000 in
set_option maxRecDepth 100000 in
theorem l_13 {K : KX} {X : CX} {Q : State → Prop} {μ : Int → ME} {β i : Int} {L : Nat} {xs : Nat → Int32} (C : okX K X cL_law RL 4 8 (some .boolean)) (S : SX K X β L xs) (hL : L ≤ 384) (hi : 0 ≤ i ∧ i + 6 ≤ (L : Int)) (hI : INV μ) (kk : ∀ μ' : Int → ME, INV μ' → PW K X 4 Q 1248 [(3, vI i), (0, vR β), (1, vR 0), (2, vR 42)] [] μ') : PW K X 4 Q 651 [(3, vI i), (0, vR β), (1, vR 0), (2, vR 42)] [] μ := by
  obtain ⟨fs0, hm0⟩ := hI.o
  obtain ⟨ans, J, h1, h2⟩ := s_reading (K := K) (k := (xs (i + 1).toNat).toInt) (p := (xs (i + 2).toNat).toInt) (x := (xs (i + 3).toNat).toInt) hI
  refine p_aload_n (pc := 651) C dL_law_651 rfl ?_
  refine p_aload_n (pc := 652) C dL_law_652 rfl ?_
  refine p_iload_n (pc := 653) C dL_law_653 rfl ?_
  refine p_iconst (pc := 654) C dL_law_654 (by decide) ?_
  refine p_iadd (pc := 655) C dL_law_655 ⟨by omega, by omega⟩ ?_
  refine p_sld (pc := 656) C S dL_law_656 (by omega) ?_
  refine p_aload_n (pc := 657) C dL_law_657 rfl ?_
  refine p_iload_n (pc := 658) C dL_law_658 rfl ?_
  refine p_iconst (pc := 659) C dL_law_659 (by decide) ?_
  refine p_iadd (pc := 660) C dL_law_660 ⟨by omega, by omega⟩ ?_
  refine p_sld (pc := 661) C S dL_law_661 (by omega) ?_
  refine p_aload_n (pc := 662) C dL_law_662 rfl ?_
  refine p_iload_n (pc := 663) C dL_law_663 rfl ?_
  refine p_iconst (pc := 664) C dL_law_664 (by decide) ?_
  refine p_iadd (pc := 665) C dL_law_665 ⟨by omega, by omega⟩ ?_
  refine p_sld (pc := 666) C S dL_law_666 (by omega) ?_
  refine p_callVX (pc := 667) C ln_L_71 dL_law_667 (h1) ⟨by omega, by omega⟩ (by exact hm0) rfl rfl rfl rfl (Nat.le_of_ble_eq_true rfl) (fun μ' hpost => ?_)
  obtain ⟨⟨fs1, hm1⟩, h2'⟩ := h2 _ hpost
  refine p_aload_n (pc := 670) C dL_law_670 rfl ?_
  refine p_aload_n (pc := 671) C dL_law_671 rfl ?_
  refine p_iload_n (pc := 672) C dL_law_672 rfl ?_
  refine p_iconst (pc := 673) C dL_law_673 (by decide) ?_
  refine p_iadd (pc := 674) C dL_law_674 ⟨by omega, by omega⟩ ?_
  refine p_sld (pc := 675) C S dL_law_675 (by omega) ?_
  refine p_aload_n (pc := 676) C dL_law_676 rfl ?_
  refine p_iload_n (pc := 677) C dL_law_677 rfl ?_
  refine p_iconst (pc := 678) C dL_law_678 (by decide) ?_
  refine p_iadd (pc := 679) C dL_law_679 ⟨by omega, by omega⟩ ?_
  refine p_sld (pc := 680) C S dL_law_680 (by omega) ?_
  refine p_aload_n (pc := 681) C dL_law_681 rfl ?_
  refine p_iload_n (pc := 682) C dL_law_682 rfl ?_
  refine p_iconst (pc := 683) C dL_law_683 (by decide) ?_
  refine p_iadd (pc := 684) C dL_law_684 ⟨by omega, by omega⟩ ?_
  refine p_sld (pc := 685) C S dL_law_685 (by omega) ?_
  refine p_callVX (pc := 686) C ln_L_74 dL_law_686 (h2') ⟨by omega, by omega⟩ (by exact hm1) rfl rfl rfl rfl (Nat.le_of_ble_eq_true rfl) (fun μ' hpost => ?_)
  refine p_icmp_eq (pc := 689) (tgt := 1248) C dL_law_689 (by decide) (fun c_689 => ?_) (fun h => by exfalso; omega)
  exact kk _ hpost

set_option maxHeartbeats 4000000 in
set_option maxRecDepth 100000 in
theorem l_14 {K : KX} {X : CX} {Q : State → Prop} {μ : Int → ME} {β i : Int} {L : Nat} {xs : Nat → Int32} (C : okX K X cL_law RL 4 8 (some .boolean)) (S : SX K X β L xs) (hL : L ≤ 384) (hi : 0 ≤ i ∧ i + 6 ≤ (L : Int)) (hI : INV μ) (kk : ∀ μ' : Int → ME, INV μ' → PW K X 4 Q 1248 [(3, vI i), (0, vR β), (1, vR 0), (2, vR 42)] [] μ') : PW K X 4 Q 694 [(3, vI i), (0, vR β), (1, vR 0), (2, vR 42)] [] μ := by
  obtain ⟨fs0, hm0⟩ := hI.o
  obtain ⟨ans, J, h1, h2⟩ := s_back (K := K) (k := (xs (i + 1).toNat).toInt) hI
  refine p_aload_n (pc := 694) C dL_law_694 rfl ?_
  refine p_aload_n (pc := 695) C dL_law_695 rfl ?_
  refine p_iload_n (pc := 696) C dL_law_696 rfl ?_
  refine p_iconst (pc := 697) C dL_law_697 (by decide) ?_
  refine p_iadd (pc := 698) C dL_law_698 ⟨by omega, by omega⟩ ?_
  refine p_sld (pc := 699) C S dL_law_699 (by omega) ?_
  refine p_callVX (pc := 700) C ln_L_75 dL_law_700 (h1) ⟨by omega, by omega⟩ (by exact hm0) rfl rfl rfl rfl (Nat.le_of_ble_eq_true rfl) (fun μ' hpost => ?_)
  obtain ⟨⟨fs1, hm1⟩, h2'⟩ := h2 _ hpost
  refine p_aload_n (pc := 703) C dL_law_703 rfl ?_
  refine p_aload_n (pc := 704) C dL_law_704 rfl ?_
  refine p_iload_n (pc := 705) C dL_law_705 rfl ?_
  refine p_iconst (pc := 706) C dL_law_706 (by decide) ?_
  refine p_iadd (pc := 707) C dL_law_707 ⟨by omega, by omega⟩ ?_
  refine p_sld (pc := 708) C S dL_law_708 (by omega) ?_
  refine p_callVX (pc := 709) C ln_L_78 dL_law_709 (h2') ⟨by omega, by omega⟩ (by exact hm1) rfl rfl rfl rfl (Nat.le_of_ble_eq_true rfl) (fun μ' hpost => ?_)
  refine p_icmp_eq (pc := 712) (tgt := 1248) C dL_law_712 (by decide) (fun c_712 => ?_) (fun h => by exfalso; omega)
  exact kk _ hpost

set_option maxHeartbeats 4000000 in
set_option maxRecDepth 100000 in
theorem l_15 {K : KX} {X : CX} {Q : State → Prop} {μ : Int → ME} {β i : Int} {L : Nat} {xs : Nat → Int32} (C : okX K X cL_law RL 4 8 (some .boolean)) (S : SX K X β L xs) (hL : L ≤ 384) (hi : 0 ≤ i ∧ i + 6 ≤ (L : Int)) (hI : INV μ) (kk : ∀ μ' : Int → ME, INV μ' → PW K X 4 Q 1248 [(3, vI i), (0, vR β), (1, vR 0), (2, vR 42)] [] μ') : PW K X 4 Q 717 [(3, vI i), (0, vR β), (1, vR 0), (2, vR 42)] [] μ := by
  obtain ⟨fs0, hm0⟩ := hI.o
  obtain ⟨ans, J, h1, h2⟩ := s_strengths (K := K) (k := (xs (i + 1).toNat).toInt) hI
  refine p_aload_n (pc := 717) C dL_law_717 rfl ?_
  refine p_aload_n (pc := 718) C dL_law_718 rfl ?_
  refine p_iload_n (pc := 719) C dL_law_719 rfl ?_
  refine p_iconst (pc := 720) C dL_law_720 (by decide) ?_
  refine p_iadd (pc := 721) C dL_law_721 ⟨by omega, by omega⟩ ?_
  refine p_sld (pc := 722) C S dL_law_722 (by omega) ?_
  refine p_callVX (pc := 723) C ln_L_79 dL_law_723 (h1) ⟨by omega, by omega⟩ (by exact hm0) rfl rfl rfl rfl (Nat.le_of_ble_eq_true rfl) (fun μ' hpost => ?_)
  obtain ⟨⟨fs1, hm1⟩, h2'⟩ := h2 _ hpost
  refine p_aload_n (pc := 726) C dL_law_726 rfl ?_
  refine p_aload_n (pc := 727) C dL_law_727 rfl ?_
  refine p_iload_n (pc := 728) C dL_law_728 rfl ?_
  refine p_iconst (pc := 729) C dL_law_729 (by decide) ?_
  refine p_iadd (pc := 730) C dL_law_730 ⟨by omega, by omega⟩ ?_
  refine p_sld (pc := 731) C S dL_law_731 (by omega) ?_
  refine p_callVX (pc := 732) C ln_L_82 dL_law_732 (h2') ⟨by omega, by omega⟩ (by exact hm1) rfl rfl rfl rfl (Nat.le_of_ble_eq_true rfl) (fun μ' hpost => ?_)
  refine p_icmp_eq (pc := 735) (tgt := 1248) C dL_law_735 (by decide) (fun c_735 => ?_) (fun h => by exfalso; omega)
  exact kk _ hpost

set_option maxHeartbeats 4000000 in
set_option maxRecDepth 100000 in
theorem l_16 {K : KX} {X : CX} {Q : State → Prop} {μ : Int → ME} {β i : Int} {L : Nat} {xs : Nat → Int32} (C : okX K X cL_law RL 4 8 (some .boolean)) (S : SX K X β L xs) (hL : L ≤ 384) (hi : 0 ≤ i ∧ i + 6 ≤ (L : Int)) (hI : INV μ) (kk : ∀ μ' : Int → ME, INV μ' → PW K X 4 Q 1248 [(3, vI i), (0, vR β), (1, vR 0), (2, vR 42)] [] μ') : PW K X 4 Q 740 [(3, vI i), (0, vR β), (1, vR 0), (2, vR 42)] [] μ := by
  obtain ⟨fs0, hm0⟩ := hI.o
  obtain ⟨ans, J, h1, h2⟩ := s_kinds (K := K) (k := (xs (i + 1).toNat).toInt) hI
  refine p_aload_n (pc := 740) C dL_law_740 rfl ?_
  refine p_aload_n (pc := 741) C dL_law_741 rfl ?_
  refine p_iload_n (pc := 742) C dL_law_742 rfl ?_
  refine p_iconst (pc := 743) C dL_law_743 (by decide) ?_
  refine p_iadd (pc := 744) C dL_law_744 ⟨by omega, by omega⟩ ?_
  refine p_sld (pc := 745) C S dL_law_745 (by omega) ?_
  refine p_callVX (pc := 746) C ln_L_83 dL_law_746 (h1) ⟨by omega, by omega⟩ (by exact hm0) rfl rfl rfl rfl (Nat.le_of_ble_eq_true rfl) (fun μ' hpost => ?_)
  obtain ⟨⟨fs1, hm1⟩, h2'⟩ := h2 _ hpost
  refine p_aload_n (pc := 749) C dL_law_749 rfl ?_
  refine p_aload_n (pc := 750) C dL_law_750 rfl ?_
  refine p_iload_n (pc := 751) C dL_law_751 rfl ?_
  refine p_iconst (pc := 752) C dL_law_752 (by decide) ?_
  refine p_iadd (pc := 753) C dL_law_753 ⟨by omega, by omega⟩ ?_
  refine p_sld (pc := 754) C S dL_law_754 (by omega) ?_
  refine p_callVX (pc := 755) C ln_L_86 dL_law_755 (h2') ⟨by omega, by omega⟩ (by exact hm1) rfl rfl rfl rfl (Nat.le_of_ble_eq_true rfl) (fun μ' hpost => ?_)
  refine p_icmp_eq (pc := 758) (tgt := 1248) C dL_law_758 (by decide) (fun c_758 => ?_) (fun h => by exfalso; omega)
  exact kk _ hpost

set_option maxHeartbeats 4000000 in
set_option maxRecDepth 100000 in
theorem l_17 {K : KX} {X : CX} {Q : State → Prop} {μ : Int → ME} {β i : Int} {L : Nat} {xs : Nat → Int32} (C : okX K X cL_law RL 4 8 (some .boolean)) (S : SX K X β L xs) (hL : L ≤ 384) (hi : 0 ≤ i ∧ i + 6 ≤ (L : Int)) (hI : INV μ) (kk : ∀ μ' : Int → ME, INV μ' → PW K X 4 Q 1248 [(3, vI i), (0, vR β), (1, vR 0), (2, vR 42)] [] μ') : PW K X 4 Q 763 [(3, vI i), (0, vR β), (1, vR 0), (2, vR 42)] [] μ := by
  obtain ⟨fs0, hm0⟩ := hI.o
  obtain ⟨ans, J, h1, h2⟩ := s_names (K := K) (s := (xs (i + 1).toNat).toInt) (l := (xs (i + 2).toNat).toInt) (i := (xs (i + 3).toNat).toInt) (k := (xs (i + 4).toNat).toInt) (n := (xs (i + 5).toNat).toInt) hI
  refine p_aload_n (pc := 763) C dL_law_763 rfl ?_
  refine p_aload_n (pc := 764) C dL_law_764 rfl ?_
  refine p_iload_n (pc := 765) C dL_law_765 rfl ?_
  refine p_iconst (pc := 766) C dL_law_766 (by decide) ?_
  refine p_iadd (pc := 767) C dL_law_767 ⟨by omega, by omega⟩ ?_
  refine p_sld (pc := 768) C S dL_law_768 (by omega) ?_
  refine p_aload_n (pc := 769) C dL_law_769 rfl ?_
  refine p_iload_n (pc := 770) C dL_law_770 rfl ?_
  refine p_iconst (pc := 771) C dL_law_771 (by decide) ?_
  refine p_iadd (pc := 772) C dL_law_772 ⟨by omega, by omega⟩ ?_
  refine p_sld (pc := 773) C S dL_law_773 (by omega) ?_
  refine p_aload_n (pc := 774) C dL_law_774 rfl ?_
  refine p_iload_n (pc := 775) C dL_law_775 rfl ?_
  refine p_iconst (pc := 776) C dL_law_776 (by decide) ?_
  refine p_iadd (pc := 777) C dL_law_777 ⟨by omega, by omega⟩ ?_
  refine p_sld (pc := 778) C S dL_law_778 (by omega) ?_
  refine p_aload_n (pc := 779) C dL_law_779 rfl ?_
  refine p_iload_n (pc := 780) C dL_law_780 rfl ?_
  refine p_iconst (pc := 781) C dL_law_781 (by decide) ?_
  refine p_iadd (pc := 782) C dL_law_782 ⟨by omega, by omega⟩ ?_
  refine p_sld (pc := 783) C S dL_law_783 (by omega) ?_
  refine p_aload_n (pc := 784) C dL_law_784 rfl ?_
  refine p_iload_n (pc := 785) C dL_law_785 rfl ?_
  refine p_iconst (pc := 786) C dL_law_786 (by decide) ?_
  refine p_iadd (pc := 787) C dL_law_787 ⟨by omega, by omega⟩ ?_
  refine p_sld (pc := 788) C S dL_law_788 (by omega) ?_
  refine p_callVX (pc := 789) C ln_L_87 dL_law_789 (h1) ⟨by omega, by omega⟩ (by exact hm0) rfl rfl rfl rfl (Nat.le_of_ble_eq_true rfl) (fun μ' hpost => ?_)
  obtain ⟨⟨fs1, hm1⟩, h2'⟩ := h2 _ hpost
  refine p_aload_n (pc := 792) C dL_law_792 rfl ?_
  refine p_aload_n (pc := 793) C dL_law_793 rfl ?_
  refine p_iload_n (pc := 794) C dL_law_794 rfl ?_
  refine p_iconst (pc := 795) C dL_law_795 (by decide) ?_
  refine p_iadd (pc := 796) C dL_law_796 ⟨by omega, by omega⟩ ?_
  refine p_sld (pc := 797) C S dL_law_797 (by omega) ?_
  refine p_aload_n (pc := 798) C dL_law_798 rfl ?_
  refine p_iload_n (pc := 799) C dL_law_799 rfl ?_
  refine p_iconst (pc := 800) C dL_law_800 (by decide) ?_
  refine p_iadd (pc := 801) C dL_law_801 ⟨by omega, by omega⟩ ?_
  refine p_sld (pc := 802) C S dL_law_802 (by omega) ?_
  refine p_aload_n (pc := 803) C dL_law_803 rfl ?_
  refine p_iload_n (pc := 804) C dL_law_804 rfl ?_
  refine p_iconst (pc := 805) C dL_law_805 (by decide) ?_
  refine p_iadd (pc := 806) C dL_law_806 ⟨by omega, by omega⟩ ?_
  refine p_sld (pc := 807) C S dL_law_807 (by omega) ?_
  refine p_aload_n (pc := 808) C dL_law_808 rfl ?_
  refine p_iload_n (pc := 809) C dL_law_809 rfl ?_
  refine p_iconst (pc := 810) C dL_law_810 (by decide) ?_
  refine p_iadd (pc := 811) C dL_law_811 ⟨by omega, by omega⟩ ?_
  refine p_sld (pc := 812) C S dL_law_812 (by omega) ?_
  refine p_aload_n (pc := 813) C dL_law_813 rfl ?_
  refine p_iload_n (pc := 814) C dL_law_814 rfl ?_
  refine p_iconst (pc := 815) C dL_law_815 (by decide) ?_
  refine p_iadd (pc := 816) C dL_law_816 ⟨by omega, by omega⟩ ?_
  refine p_sld (pc := 817) C S dL_law_817 (by omega) ?_
  refine p_callVX (pc := 818) C ln_L_90 dL_law_818 (h2') ⟨by omega, by omega⟩ (by exact hm1) rfl rfl rfl rfl (Nat.le_of_ble_eq_true rfl) (fun μ' hpost => ?_)
  refine p_icmp_eq (pc := 821) (tgt := 1248) C dL_law_821 (by decide) (fun c_821 => ?_) (fun h => by exfalso; omega)
  exact kk _ hpost

set_option maxHeartbeats 4000000 in
set_option maxRecDepth 100000 in
theorem l_18 {K : KX} {X : CX} {Q : State → Prop} {μ : Int → ME} {β i : Int} {L : Nat} {xs : Nat → Int32} (C : okX K X cL_law RL 4 8 (some .boolean)) (S : SX K X β L xs) (hL : L ≤ 384) (hi : 0 ≤ i ∧ i + 6 ≤ (L : Int)) (hI : INV μ) (kk : ∀ μ' : Int → ME, INV μ' → PW K X 4 Q 1248 [(3, vI i), (0, vR β), (1, vR 0), (2, vR 42)] [] μ') : PW K X 4 Q 826 [(3, vI i), (0, vR β), (1, vR 0), (2, vR 42)] [] μ := by
  obtain ⟨fs0, hm0⟩ := hI.o
  obtain ⟨ans, J, h1, h2⟩ := s_odds (K := K) (k := (xs (i + 1).toNat).toInt) (g := (xs (i + 2).toNat).toInt) (w := (xs (i + 3).toNat).toInt) hI
  refine p_aload_n (pc := 826) C dL_law_826 rfl ?_
  refine p_aload_n (pc := 827) C dL_law_827 rfl ?_
  refine p_iload_n (pc := 828) C dL_law_828 rfl ?_
  refine p_iconst (pc := 829) C dL_law_829 (by decide) ?_
  refine p_iadd (pc := 830) C dL_law_830 ⟨by omega, by omega⟩ ?_
  refine p_sld (pc := 831) C S dL_law_831 (by omega) ?_
  refine p_aload_n (pc := 832) C dL_law_832 rfl ?_
  refine p_iload_n (pc := 833) C dL_law_833 rfl ?_
  refine p_iconst (pc := 834) C dL_law_834 (by decide) ?_
  refine p_iadd (pc := 835) C dL_law_835 ⟨by omega, by omega⟩ ?_
  refine p_sld (pc := 836) C S dL_law_836 (by omega) ?_
  refine p_aload_n (pc := 837) C dL_law_837 rfl ?_
  refine p_iload_n (pc := 838) C dL_law_838 rfl ?_
  refine p_iconst (pc := 839) C dL_law_839 (by decide) ?_
  refine p_iadd (pc := 840) C dL_law_840 ⟨by omega, by omega⟩ ?_
  refine p_sld (pc := 841) C S dL_law_841 (by omega) ?_
  refine p_callVX (pc := 842) C ln_L_91 dL_law_842 (h1) ⟨by omega, by omega⟩ (by exact hm0) rfl rfl rfl rfl (Nat.le_of_ble_eq_true rfl) (fun μ' hpost => ?_)
  obtain ⟨⟨fs1, hm1⟩, h2'⟩ := h2 _ hpost
  refine p_aload_n (pc := 845) C dL_law_845 rfl ?_
  refine p_aload_n (pc := 846) C dL_law_846 rfl ?_
  refine p_iload_n (pc := 847) C dL_law_847 rfl ?_
  refine p_iconst (pc := 848) C dL_law_848 (by decide) ?_
  refine p_iadd (pc := 849) C dL_law_849 ⟨by omega, by omega⟩ ?_
  refine p_sld (pc := 850) C S dL_law_850 (by omega) ?_
  refine p_aload_n (pc := 851) C dL_law_851 rfl ?_
  refine p_iload_n (pc := 852) C dL_law_852 rfl ?_
  refine p_iconst (pc := 853) C dL_law_853 (by decide) ?_
  refine p_iadd (pc := 854) C dL_law_854 ⟨by omega, by omega⟩ ?_
  refine p_sld (pc := 855) C S dL_law_855 (by omega) ?_
  refine p_aload_n (pc := 856) C dL_law_856 rfl ?_
  refine p_iload_n (pc := 857) C dL_law_857 rfl ?_
  refine p_iconst (pc := 858) C dL_law_858 (by decide) ?_
  refine p_iadd (pc := 859) C dL_law_859 ⟨by omega, by omega⟩ ?_
  refine p_sld (pc := 860) C S dL_law_860 (by omega) ?_
  refine p_callVX (pc := 861) C ln_L_95 dL_law_861 (h2') ⟨by omega, by omega⟩ (by exact hm1) rfl rfl rfl rfl (Nat.le_of_ble_eq_true rfl) (fun μ' hpost => ?_)
  refine p_lcmp (pc := 864) C dL_law_864 ?_
  refine p_top (lcp_s _) ?_
  refine p_if_eq (pc := 865) (tgt := 1248) C dL_law_865 (by decide) (fun c_865 => ?_) (fun h => by exfalso; omega)
  exact kk _ hpost

set_option maxHeartbeats 4000000 in
set_option maxRecDepth 100000 in
theorem l_19 {K : KX} {X : CX} {Q : State → Prop} {μ : Int → ME} {β i : Int} {L : Nat} {xs : Nat → Int32} (C : okX K X cL_law RL 4 8 (some .boolean)) (S : SX K X β L xs) (hL : L ≤ 384) (hi : 0 ≤ i ∧ i + 6 ≤ (L : Int)) (hI : INV μ) (kk : ∀ μ' : Int → ME, INV μ' → PW K X 4 Q 1248 [(3, vI i), (0, vR β), (1, vR 0), (2, vR 42)] [] μ') : PW K X 4 Q 870 [(3, vI i), (0, vR β), (1, vR 0), (2, vR 42)] [] μ := by
  obtain ⟨fs0, hm0⟩ := hI.o
  obtain ⟨ans, J, h1, h2⟩ := s_premium (K := K) (k := (xs (i + 1).toNat).toInt) (w := (xs (i + 2).toNat).toInt) hI
  refine p_aload_n (pc := 870) C dL_law_870 rfl ?_
  refine p_aload_n (pc := 871) C dL_law_871 rfl ?_
  refine p_iload_n (pc := 872) C dL_law_872 rfl ?_
  refine p_iconst (pc := 873) C dL_law_873 (by decide) ?_
  refine p_iadd (pc := 874) C dL_law_874 ⟨by omega, by omega⟩ ?_
  refine p_sld (pc := 875) C S dL_law_875 (by omega) ?_
  refine p_aload_n (pc := 876) C dL_law_876 rfl ?_
  refine p_iload_n (pc := 877) C dL_law_877 rfl ?_
  refine p_iconst (pc := 878) C dL_law_878 (by decide) ?_
  refine p_iadd (pc := 879) C dL_law_879 ⟨by omega, by omega⟩ ?_
  refine p_sld (pc := 880) C S dL_law_880 (by omega) ?_
  refine p_callVX (pc := 881) C ln_L_96 dL_law_881 (h1) ⟨by omega, by omega⟩ (by exact hm0) rfl rfl rfl rfl (Nat.le_of_ble_eq_true rfl) (fun μ' hpost => ?_)
  obtain ⟨⟨fs1, hm1⟩, h2'⟩ := h2 _ hpost
  refine p_aload_n (pc := 884) C dL_law_884 rfl ?_
  refine p_aload_n (pc := 885) C dL_law_885 rfl ?_
  refine p_iload_n (pc := 886) C dL_law_886 rfl ?_
  refine p_iconst (pc := 887) C dL_law_887 (by decide) ?_
  refine p_iadd (pc := 888) C dL_law_888 ⟨by omega, by omega⟩ ?_
  refine p_sld (pc := 889) C S dL_law_889 (by omega) ?_
  refine p_aload_n (pc := 890) C dL_law_890 rfl ?_
  refine p_iload_n (pc := 891) C dL_law_891 rfl ?_
  refine p_iconst (pc := 892) C dL_law_892 (by decide) ?_
  refine p_iadd (pc := 893) C dL_law_893 ⟨by omega, by omega⟩ ?_
  refine p_sld (pc := 894) C S dL_law_894 (by omega) ?_
  refine p_callVX (pc := 895) C ln_L_100 dL_law_895 (h2') ⟨by omega, by omega⟩ (by exact hm1) rfl rfl rfl rfl (Nat.le_of_ble_eq_true rfl) (fun μ' hpost => ?_)
  refine p_lcmp (pc := 898) C dL_law_898 ?_
  refine p_top (lcp_s _) ?_
  refine p_if_eq (pc := 899) (tgt := 1248) C dL_law_899 (by decide) (fun c_899 => ?_) (fun h => by exfalso; omega)
  exact kk _ hpost

set_option maxHeartbeats 4000000 in
set_option maxRecDepth 100000 in
theorem l_20 {K : KX} {X : CX} {Q : State → Prop} {μ : Int → ME} {β i : Int} {L : Nat} {xs : Nat → Int32} (C : okX K X cL_law RL 4 8 (some .boolean)) (S : SX K X β L xs) (hL : L ≤ 384) (hi : 0 ≤ i ∧ i + 6 ≤ (L : Int)) (hI : INV μ) (kk : ∀ μ' : Int → ME, INV μ' → PW K X 4 Q 1248 [(3, vI i), (0, vR β), (1, vR 0), (2, vR 42)] [] μ') : PW K X 4 Q 904 [(3, vI i), (0, vR β), (1, vR 0), (2, vR 42)] [] μ := by
  obtain ⟨fs0, hm0⟩ := hI.o
  obtain ⟨ans, J, h1, h2⟩ := s_sheet (K := K) (k := (xs (i + 1).toNat).toInt) (l := (xs (i + 2).toNat).toInt) (n := (xs (i + 3).toNat).toInt) hI
  refine p_aload_n (pc := 904) C dL_law_904 rfl ?_
  refine p_aload_n (pc := 905) C dL_law_905 rfl ?_
  refine p_iload_n (pc := 906) C dL_law_906 rfl ?_
  refine p_iconst (pc := 907) C dL_law_907 (by decide) ?_
  refine p_iadd (pc := 908) C dL_law_908 ⟨by omega, by omega⟩ ?_
  refine p_sld (pc := 909) C S dL_law_909 (by omega) ?_
  refine p_aload_n (pc := 910) C dL_law_910 rfl ?_
  refine p_iload_n (pc := 911) C dL_law_911 rfl ?_
  refine p_iconst (pc := 912) C dL_law_912 (by decide) ?_
  refine p_iadd (pc := 913) C dL_law_913 ⟨by omega, by omega⟩ ?_
  refine p_sld (pc := 914) C S dL_law_914 (by omega) ?_
  refine p_aload_n (pc := 915) C dL_law_915 rfl ?_
  refine p_iload_n (pc := 916) C dL_law_916 rfl ?_
  refine p_iconst (pc := 917) C dL_law_917 (by decide) ?_
  refine p_iadd (pc := 918) C dL_law_918 ⟨by omega, by omega⟩ ?_
  refine p_sld (pc := 919) C S dL_law_919 (by omega) ?_
  refine p_callVX (pc := 920) C ln_L_101 dL_law_920 (h1) ⟨by omega, by omega⟩ (by exact hm0) rfl rfl rfl rfl (Nat.le_of_ble_eq_true rfl) (fun μ' hpost => ?_)
  obtain ⟨⟨fs1, hm1⟩, h2'⟩ := h2 _ hpost
  refine p_aload_n (pc := 923) C dL_law_923 rfl ?_
  refine p_aload_n (pc := 924) C dL_law_924 rfl ?_
  refine p_iload_n (pc := 925) C dL_law_925 rfl ?_
  refine p_iconst (pc := 926) C dL_law_926 (by decide) ?_
  refine p_iadd (pc := 927) C dL_law_927 ⟨by omega, by omega⟩ ?_
  refine p_sld (pc := 928) C S dL_law_928 (by omega) ?_
  refine p_aload_n (pc := 929) C dL_law_929 rfl ?_
  refine p_iload_n (pc := 930) C dL_law_930 rfl ?_
  refine p_iconst (pc := 931) C dL_law_931 (by decide) ?_
  refine p_iadd (pc := 932) C dL_law_932 ⟨by omega, by omega⟩ ?_
  refine p_sld (pc := 933) C S dL_law_933 (by omega) ?_
  refine p_aload_n (pc := 934) C dL_law_934 rfl ?_
  refine p_iload_n (pc := 935) C dL_law_935 rfl ?_
  refine p_iconst (pc := 936) C dL_law_936 (by decide) ?_
  refine p_iadd (pc := 937) C dL_law_937 ⟨by omega, by omega⟩ ?_
  refine p_sld (pc := 938) C S dL_law_938 (by omega) ?_
  refine p_callVX (pc := 939) C ln_L_104 dL_law_939 (h2') ⟨by omega, by omega⟩ (by exact hm1) rfl rfl rfl rfl (Nat.le_of_ble_eq_true rfl) (fun μ' hpost => ?_)
  refine p_icmp_eq (pc := 942) (tgt := 1248) C dL_law_942 (by decide) (fun c_942 => ?_) (fun h => by exfalso; omega)
  exact kk _ hpost

set_option maxHeartbeats 4000000 in
set_option maxRecDepth 100000 in
theorem l_21 {K : KX} {X : CX} {Q : State → Prop} {μ : Int → ME} {β i : Int} {L : Nat} {xs : Nat → Int32} (C : okX K X cL_law RL 4 8 (some .boolean)) (S : SX K X β L xs) (hL : L ≤ 384) (hi : 0 ≤ i ∧ i + 6 ≤ (L : Int)) (hI : INV μ) (kk : ∀ μ' : Int → ME, INV μ' → PW K X 4 Q 1248 [(3, vI i), (0, vR β), (1, vR 0), (2, vR 42)] [] μ') : PW K X 4 Q 947 [(3, vI i), (0, vR β), (1, vR 0), (2, vR 42)] [] μ := by
  obtain ⟨fs0, hm0⟩ := hI.o
  obtain ⟨ans, J, h1, h2⟩ := s_lose (K := K) (k := (xs (i + 1).toNat).toInt) hI
  refine p_aload_n (pc := 947) C dL_law_947 rfl ?_
  refine p_aload_n (pc := 948) C dL_law_948 rfl ?_
  refine p_iload_n (pc := 949) C dL_law_949 rfl ?_
  refine p_iconst (pc := 950) C dL_law_950 (by decide) ?_
  refine p_iadd (pc := 951) C dL_law_951 ⟨by omega, by omega⟩ ?_
  refine p_sld (pc := 952) C S dL_law_952 (by omega) ?_
  refine p_callVX (pc := 953) C ln_L_105 dL_law_953 (h1) ⟨by omega, by omega⟩ (by exact hm0) rfl rfl rfl rfl (Nat.le_of_ble_eq_true rfl) (fun μ' hpost => ?_)
  obtain ⟨⟨fs1, hm1⟩, h2'⟩ := h2 _ hpost
  refine p_aload_n (pc := 956) C dL_law_956 rfl ?_
  refine p_aload_n (pc := 957) C dL_law_957 rfl ?_
  refine p_iload_n (pc := 958) C dL_law_958 rfl ?_
  refine p_iconst (pc := 959) C dL_law_959 (by decide) ?_
  refine p_iadd (pc := 960) C dL_law_960 ⟨by omega, by omega⟩ ?_
  refine p_sld (pc := 961) C S dL_law_961 (by omega) ?_
  refine p_callVX (pc := 962) C ln_L_108 dL_law_962 (h2') ⟨by omega, by omega⟩ (by exact hm1) rfl rfl rfl rfl (Nat.le_of_ble_eq_true rfl) (fun μ' hpost => ?_)
  refine p_icmp_eq (pc := 965) (tgt := 1248) C dL_law_965 (by decide) (fun c_965 => ?_) (fun h => by exfalso; omega)
  exact kk _ hpost

set_option maxHeartbeats 4000000 in
set_option maxRecDepth 100000 in
theorem l_22 {K : KX} {X : CX} {Q : State → Prop} {μ : Int → ME} {β i : Int} {L : Nat} {xs : Nat → Int32} (C : okX K X cL_law RL 4 8 (some .boolean)) (S : SX K X β L xs) (hL : L ≤ 384) (hi : 0 ≤ i ∧ i + 6 ≤ (L : Int)) (hI : INV μ) (kk : ∀ μ' : Int → ME, INV μ' → PW K X 4 Q 1248 [(3, vI i), (0, vR β), (1, vR 0), (2, vR 42)] [] μ') : PW K X 4 Q 970 [(3, vI i), (0, vR β), (1, vR 0), (2, vR 42)] [] μ := by
  obtain ⟨fs0, hm0⟩ := hI.o
  obtain ⟨ans, J, h1, h2⟩ := s_put (K := K) (k := (xs (i + 1).toNat).toInt) (i := (xs (i + 2).toNat).toInt) (v := (xs (i + 3).toNat).toInt) hI
  refine p_aload_n (pc := 970) C dL_law_970 rfl ?_
  refine p_aload_n (pc := 971) C dL_law_971 rfl ?_
  refine p_iload_n (pc := 972) C dL_law_972 rfl ?_
  refine p_iconst (pc := 973) C dL_law_973 (by decide) ?_
  refine p_iadd (pc := 974) C dL_law_974 ⟨by omega, by omega⟩ ?_
  refine p_sld (pc := 975) C S dL_law_975 (by omega) ?_
  refine p_aload_n (pc := 976) C dL_law_976 rfl ?_
  refine p_iload_n (pc := 977) C dL_law_977 rfl ?_
  refine p_iconst (pc := 978) C dL_law_978 (by decide) ?_
  refine p_iadd (pc := 979) C dL_law_979 ⟨by omega, by omega⟩ ?_
  refine p_sld (pc := 980) C S dL_law_980 (by omega) ?_
  refine p_aload_n (pc := 981) C dL_law_981 rfl ?_
  refine p_iload_n (pc := 982) C dL_law_982 rfl ?_
  refine p_iconst (pc := 983) C dL_law_983 (by decide) ?_
  refine p_iadd (pc := 984) C dL_law_984 ⟨by omega, by omega⟩ ?_
  refine p_sld (pc := 985) C S dL_law_985 (by omega) ?_
  refine p_callVX (pc := 986) C ln_L_109 dL_law_986 (h1) ⟨by omega, by omega⟩ (by exact hm0) rfl rfl rfl rfl (Nat.le_of_ble_eq_true rfl) (fun μ' hpost => ?_)
  obtain ⟨⟨fs1, hm1⟩, h2'⟩ := h2 _ hpost
  refine p_aload_n (pc := 989) C dL_law_989 rfl ?_
  refine p_aload_n (pc := 990) C dL_law_990 rfl ?_
  refine p_iload_n (pc := 991) C dL_law_991 rfl ?_
  refine p_iconst (pc := 992) C dL_law_992 (by decide) ?_
  refine p_iadd (pc := 993) C dL_law_993 ⟨by omega, by omega⟩ ?_
  refine p_sld (pc := 994) C S dL_law_994 (by omega) ?_
  refine p_aload_n (pc := 995) C dL_law_995 rfl ?_
  refine p_iload_n (pc := 996) C dL_law_996 rfl ?_
  refine p_iconst (pc := 997) C dL_law_997 (by decide) ?_
  refine p_iadd (pc := 998) C dL_law_998 ⟨by omega, by omega⟩ ?_
  refine p_sld (pc := 999) C S dL_law_999 (by omega) ?_
  refine p_aload_n (pc := 1000) C dL_law_1000 rfl ?_
  refine p_iload_n (pc := 1001) C dL_law_1001 rfl ?_
  refine p_iconst (pc := 1002) C dL_law_1002 (by decide) ?_
  refine p_iadd (pc := 1003) C dL_law_1003 ⟨by omega, by omega⟩ ?_
  refine p_sld (pc := 1004) C S dL_law_1004 (by omega) ?_
  refine p_callVX (pc := 1005) C ln_L_112 dL_law_1005 (h2') ⟨by omega, by omega⟩ (by exact hm1) rfl rfl rfl rfl (Nat.le_of_ble_eq_true rfl) (fun μ' hpost => ?_)
  refine p_icmp_eq (pc := 1008) (tgt := 1248) C dL_law_1008 (by decide) (fun c_1008 => ?_) (fun h => by exfalso; omega)
  exact kk _ hpost

set_option maxHeartbeats 4000000 in
set_option maxRecDepth 100000 in
theorem l_23 {K : KX} {X : CX} {Q : State → Prop} {μ : Int → ME} {β i : Int} {L : Nat} {xs : Nat → Int32} (C : okX K X cL_law RL 4 8 (some .boolean)) (S : SX K X β L xs) (hL : L ≤ 384) (hi : 0 ≤ i ∧ i + 6 ≤ (L : Int)) (hI : INV μ) (kk : ∀ μ' : Int → ME, INV μ' → PW K X 4 Q 1248 [(3, vI i), (0, vR β), (1, vR 0), (2, vR 42)] [] μ') : PW K X 4 Q 1013 [(3, vI i), (0, vR β), (1, vR 0), (2, vR 42)] [] μ := by
  obtain ⟨fs0, hm0⟩ := hI.o
  obtain ⟨ans, J, h1, h2⟩ := s_cell (K := K) (k := (xs (i + 1).toNat).toInt) (i := (xs (i + 2).toNat).toInt) (l := (xs (i + 3).toNat).toInt) hI
  refine p_aload_n (pc := 1013) C dL_law_1013 rfl ?_
  refine p_aload_n (pc := 1014) C dL_law_1014 rfl ?_
  refine p_iload_n (pc := 1015) C dL_law_1015 rfl ?_
  refine p_iconst (pc := 1016) C dL_law_1016 (by decide) ?_
  refine p_iadd (pc := 1017) C dL_law_1017 ⟨by omega, by omega⟩ ?_
  refine p_sld (pc := 1018) C S dL_law_1018 (by omega) ?_
  refine p_aload_n (pc := 1019) C dL_law_1019 rfl ?_
  refine p_iload_n (pc := 1020) C dL_law_1020 rfl ?_
  refine p_iconst (pc := 1021) C dL_law_1021 (by decide) ?_
  refine p_iadd (pc := 1022) C dL_law_1022 ⟨by omega, by omega⟩ ?_
  refine p_sld (pc := 1023) C S dL_law_1023 (by omega) ?_
  refine p_aload_n (pc := 1024) C dL_law_1024 rfl ?_
  refine p_iload_n (pc := 1025) C dL_law_1025 rfl ?_
  refine p_iconst (pc := 1026) C dL_law_1026 (by decide) ?_
  refine p_iadd (pc := 1027) C dL_law_1027 ⟨by omega, by omega⟩ ?_
  refine p_sld (pc := 1028) C S dL_law_1028 (by omega) ?_
  refine p_callVX (pc := 1029) C ln_L_113 dL_law_1029 (h1) ⟨by omega, by omega⟩ (by exact hm0) rfl rfl rfl rfl (Nat.le_of_ble_eq_true rfl) (fun μ' hpost => ?_)
  obtain ⟨⟨fs1, hm1⟩, h2'⟩ := h2 _ hpost
  refine p_aload_n (pc := 1032) C dL_law_1032 rfl ?_
  refine p_aload_n (pc := 1033) C dL_law_1033 rfl ?_
  refine p_iload_n (pc := 1034) C dL_law_1034 rfl ?_
  refine p_iconst (pc := 1035) C dL_law_1035 (by decide) ?_
  refine p_iadd (pc := 1036) C dL_law_1036 ⟨by omega, by omega⟩ ?_
  refine p_sld (pc := 1037) C S dL_law_1037 (by omega) ?_
  refine p_aload_n (pc := 1038) C dL_law_1038 rfl ?_
  refine p_iload_n (pc := 1039) C dL_law_1039 rfl ?_
  refine p_iconst (pc := 1040) C dL_law_1040 (by decide) ?_
  refine p_iadd (pc := 1041) C dL_law_1041 ⟨by omega, by omega⟩ ?_
  refine p_sld (pc := 1042) C S dL_law_1042 (by omega) ?_
  refine p_aload_n (pc := 1043) C dL_law_1043 rfl ?_
  refine p_iload_n (pc := 1044) C dL_law_1044 rfl ?_
  refine p_iconst (pc := 1045) C dL_law_1045 (by decide) ?_
  refine p_iadd (pc := 1046) C dL_law_1046 ⟨by omega, by omega⟩ ?_
  refine p_sld (pc := 1047) C S dL_law_1047 (by omega) ?_
  refine p_callVX (pc := 1048) C ln_L_116 dL_law_1048 (h2') ⟨by omega, by omega⟩ (by exact hm1) rfl rfl rfl rfl (Nat.le_of_ble_eq_true rfl) (fun μ' hpost => ?_)
  refine p_lcmp (pc := 1051) C dL_law_1051 ?_
  refine p_top (lcp_s _) ?_
  refine p_if_eq (pc := 1052) (tgt := 1248) C dL_law_1052 (by decide) (fun c_1052 => ?_) (fun h => by exfalso; omega)
  exact kk _ hpost

set_option maxHeartbeats 4000000 in
set_option maxRecDepth 100000 in
theorem l_24 {K : KX} {X : CX} {Q : State → Prop} {μ : Int → ME} {β i : Int} {L : Nat} {xs : Nat → Int32} (C : okX K X cL_law RL 4 8 (some .boolean)) (S : SX K X β L xs) (hL : L ≤ 384) (hi : 0 ≤ i ∧ i + 6 ≤ (L : Int)) (hI : INV μ) (kk : ∀ μ' : Int → ME, INV μ' → PW K X 4 Q 1248 [(3, vI i), (0, vR β), (1, vR 0), (2, vR 42)] [] μ') : PW K X 4 Q 1057 [(3, vI i), (0, vR β), (1, vR 0), (2, vR 42)] [] μ := by
  obtain ⟨fs0, hm0⟩ := hI.o
  obtain ⟨ans, J, h1, h2⟩ := s_copy (K := K) (k := (xs (i + 1).toNat).toInt) (i := (xs (i + 2).toNat).toInt) (u := (xs (i + 3).toNat).toInt) (j := (xs (i + 4).toNat).toInt) (n := (xs (i + 5).toNat).toInt) hI
  refine p_aload_n (pc := 1057) C dL_law_1057 rfl ?_
  refine p_aload_n (pc := 1058) C dL_law_1058 rfl ?_
  refine p_iload_n (pc := 1059) C dL_law_1059 rfl ?_
  refine p_iconst (pc := 1060) C dL_law_1060 (by decide) ?_
  refine p_iadd (pc := 1061) C dL_law_1061 ⟨by omega, by omega⟩ ?_
  refine p_sld (pc := 1062) C S dL_law_1062 (by omega) ?_
  refine p_aload_n (pc := 1063) C dL_law_1063 rfl ?_
  refine p_iload_n (pc := 1064) C dL_law_1064 rfl ?_
  refine p_iconst (pc := 1065) C dL_law_1065 (by decide) ?_
  refine p_iadd (pc := 1066) C dL_law_1066 ⟨by omega, by omega⟩ ?_
  refine p_sld (pc := 1067) C S dL_law_1067 (by omega) ?_
  refine p_aload_n (pc := 1068) C dL_law_1068 rfl ?_
  refine p_iload_n (pc := 1069) C dL_law_1069 rfl ?_
  refine p_iconst (pc := 1070) C dL_law_1070 (by decide) ?_
  refine p_iadd (pc := 1071) C dL_law_1071 ⟨by omega, by omega⟩ ?_
  refine p_sld (pc := 1072) C S dL_law_1072 (by omega) ?_
  refine p_aload_n (pc := 1073) C dL_law_1073 rfl ?_
  refine p_iload_n (pc := 1074) C dL_law_1074 rfl ?_
  refine p_iconst (pc := 1075) C dL_law_1075 (by decide) ?_
  refine p_iadd (pc := 1076) C dL_law_1076 ⟨by omega, by omega⟩ ?_
  refine p_sld (pc := 1077) C S dL_law_1077 (by omega) ?_
  refine p_aload_n (pc := 1078) C dL_law_1078 rfl ?_
  refine p_iload_n (pc := 1079) C dL_law_1079 rfl ?_
  refine p_iconst (pc := 1080) C dL_law_1080 (by decide) ?_
  refine p_iadd (pc := 1081) C dL_law_1081 ⟨by omega, by omega⟩ ?_
  refine p_sld (pc := 1082) C S dL_law_1082 (by omega) ?_
  refine p_callVX (pc := 1083) C ln_L_117 dL_law_1083 (h1) ⟨by omega, by omega⟩ (by exact hm0) rfl rfl rfl rfl (Nat.le_of_ble_eq_true rfl) (fun μ' hpost => ?_)
  obtain ⟨⟨fs1, hm1⟩, h2'⟩ := h2 _ hpost
  refine p_aload_n (pc := 1086) C dL_law_1086 rfl ?_
  refine p_aload_n (pc := 1087) C dL_law_1087 rfl ?_
  refine p_iload_n (pc := 1088) C dL_law_1088 rfl ?_
  refine p_iconst (pc := 1089) C dL_law_1089 (by decide) ?_
  refine p_iadd (pc := 1090) C dL_law_1090 ⟨by omega, by omega⟩ ?_
  refine p_sld (pc := 1091) C S dL_law_1091 (by omega) ?_
  refine p_aload_n (pc := 1092) C dL_law_1092 rfl ?_
  refine p_iload_n (pc := 1093) C dL_law_1093 rfl ?_
  refine p_iconst (pc := 1094) C dL_law_1094 (by decide) ?_
  refine p_iadd (pc := 1095) C dL_law_1095 ⟨by omega, by omega⟩ ?_
  refine p_sld (pc := 1096) C S dL_law_1096 (by omega) ?_
  refine p_aload_n (pc := 1097) C dL_law_1097 rfl ?_
  refine p_iload_n (pc := 1098) C dL_law_1098 rfl ?_
  refine p_iconst (pc := 1099) C dL_law_1099 (by decide) ?_
  refine p_iadd (pc := 1100) C dL_law_1100 ⟨by omega, by omega⟩ ?_
  refine p_sld (pc := 1101) C S dL_law_1101 (by omega) ?_
  refine p_aload_n (pc := 1102) C dL_law_1102 rfl ?_
  refine p_iload_n (pc := 1103) C dL_law_1103 rfl ?_
  refine p_iconst (pc := 1104) C dL_law_1104 (by decide) ?_
  refine p_iadd (pc := 1105) C dL_law_1105 ⟨by omega, by omega⟩ ?_
  refine p_sld (pc := 1106) C S dL_law_1106 (by omega) ?_
  refine p_aload_n (pc := 1107) C dL_law_1107 rfl ?_
  refine p_iload_n (pc := 1108) C dL_law_1108 rfl ?_
  refine p_iconst (pc := 1109) C dL_law_1109 (by decide) ?_
  refine p_iadd (pc := 1110) C dL_law_1110 ⟨by omega, by omega⟩ ?_
  refine p_sld (pc := 1111) C S dL_law_1111 (by omega) ?_
  refine p_callVX (pc := 1112) C ln_L_120 dL_law_1112 (h2') ⟨by omega, by omega⟩ (by exact hm1) rfl rfl rfl rfl (Nat.le_of_ble_eq_true rfl) (fun μ' hpost => ?_)
  refine p_icmp_eq (pc := 1115) (tgt := 1248) C dL_law_1115 (by decide) (fun c_1115 => ?_) (fun h => by exfalso; omega)
  exact kk _ hpost

set_option maxHeartbeats 4000000 in
set_option maxRecDepth 100000 in
theorem l_25 {K : KX} {X : CX} {Q : State → Prop} {μ : Int → ME} {β i : Int} {L : Nat} {xs : Nat → Int32} (C : okX K X cL_law RL 4 8 (some .boolean)) (S : SX K X β L xs) (hL : L ≤ 384) (hi : 0 ≤ i ∧ i + 6 ≤ (L : Int)) (hI : INV μ) (kk : ∀ μ' : Int → ME, INV μ' → PW K X 4 Q 1248 [(3, vI i), (0, vR β), (1, vR 0), (2, vR 42)] [] μ') : PW K X 4 Q 1120 [(3, vI i), (0, vR β), (1, vR 0), (2, vR 42)] [] μ := by
  obtain ⟨fs0, hm0⟩ := hI.o
  obtain ⟨ans, J, h1, h2⟩ := s_tell (K := K) (k := (xs (i + 1).toNat).toInt) hI
  refine p_aload_n (pc := 1120) C dL_law_1120 rfl ?_
  refine p_aload_n (pc := 1121) C dL_law_1121 rfl ?_
  refine p_iload_n (pc := 1122) C dL_law_1122 rfl ?_
  refine p_iconst (pc := 1123) C dL_law_1123 (by decide) ?_
  refine p_iadd (pc := 1124) C dL_law_1124 ⟨by omega, by omega⟩ ?_
  refine p_sld (pc := 1125) C S dL_law_1125 (by omega) ?_
  refine p_callVX (pc := 1126) C ln_L_121 dL_law_1126 (h1) ⟨by omega, by omega⟩ (by exact hm0) rfl rfl rfl rfl (Nat.le_of_ble_eq_true rfl) (fun μ' hpost => ?_)
  obtain ⟨⟨fs1, hm1⟩, h2'⟩ := h2 _ hpost
  refine p_aload_n (pc := 1129) C dL_law_1129 rfl ?_
  refine p_aload_n (pc := 1130) C dL_law_1130 rfl ?_
  refine p_iload_n (pc := 1131) C dL_law_1131 rfl ?_
  refine p_iconst (pc := 1132) C dL_law_1132 (by decide) ?_
  refine p_iadd (pc := 1133) C dL_law_1133 ⟨by omega, by omega⟩ ?_
  refine p_sld (pc := 1134) C S dL_law_1134 (by omega) ?_
  refine p_callVX (pc := 1135) C ln_L_124 dL_law_1135 (h2') ⟨by omega, by omega⟩ (by exact hm1) rfl rfl rfl rfl (Nat.le_of_ble_eq_true rfl) (fun μ' hpost => ?_)
  refine p_icmp_eq (pc := 1138) (tgt := 1248) C dL_law_1138 (by decide) (fun c_1138 => ?_) (fun h => by exfalso; omega)
  exact kk _ hpost

set_option maxHeartbeats 4000000 in
set_option maxRecDepth 100000 in
theorem l_26 {K : KX} {X : CX} {Q : State → Prop} {μ : Int → ME} {β i : Int} {L : Nat} {xs : Nat → Int32} (C : okX K X cL_law RL 4 8 (some .boolean)) (S : SX K X β L xs) (hL : L ≤ 384) (hi : 0 ≤ i ∧ i + 6 ≤ (L : Int)) (hI : INV μ) (kk : ∀ μ' : Int → ME, INV μ' → PW K X 4 Q 1248 [(3, vI i), (0, vR β), (1, vR 0), (2, vR 42)] [] μ') : PW K X 4 Q 1143 [(3, vI i), (0, vR β), (1, vR 0), (2, vR 42)] [] μ := by
  obtain ⟨fs0, hm0⟩ := hI.o
  obtain ⟨ans, J, h1, h2⟩ := s_hail (K := K) (k := (xs (i + 1).toNat).toInt) hI
  refine p_aload_n (pc := 1143) C dL_law_1143 rfl ?_
  refine p_aload_n (pc := 1144) C dL_law_1144 rfl ?_
  refine p_iload_n (pc := 1145) C dL_law_1145 rfl ?_
  refine p_iconst (pc := 1146) C dL_law_1146 (by decide) ?_
  refine p_iadd (pc := 1147) C dL_law_1147 ⟨by omega, by omega⟩ ?_
  refine p_sld (pc := 1148) C S dL_law_1148 (by omega) ?_
  refine p_callVX (pc := 1149) C ln_L_125 dL_law_1149 (h1) ⟨by omega, by omega⟩ (by exact hm0) rfl rfl rfl rfl (Nat.le_of_ble_eq_true rfl) (fun μ' hpost => ?_)
  obtain ⟨⟨fs1, hm1⟩, h2'⟩ := h2 _ hpost
  refine p_aload_n (pc := 1152) C dL_law_1152 rfl ?_
  refine p_aload_n (pc := 1153) C dL_law_1153 rfl ?_
  refine p_iload_n (pc := 1154) C dL_law_1154 rfl ?_
  refine p_iconst (pc := 1155) C dL_law_1155 (by decide) ?_
  refine p_iadd (pc := 1156) C dL_law_1156 ⟨by omega, by omega⟩ ?_
  refine p_sld (pc := 1157) C S dL_law_1157 (by omega) ?_
  refine p_callVX (pc := 1158) C ln_L_128 dL_law_1158 (h2') ⟨by omega, by omega⟩ (by exact hm1) rfl rfl rfl rfl (Nat.le_of_ble_eq_true rfl) (fun μ' hpost => ?_)
  refine p_icmp_eq (pc := 1161) (tgt := 1248) C dL_law_1161 (by decide) (fun c_1161 => ?_) (fun h => by exfalso; omega)
  exact kk _ hpost

set_option maxHeartbeats 4000000 in
set_option maxRecDepth 100000 in
theorem l_27 {K : KX} {X : CX} {Q : State → Prop} {μ : Int → ME} {β i : Int} {L : Nat} {xs : Nat → Int32} (C : okX K X cL_law RL 4 8 (some .boolean)) (S : SX K X β L xs) (hL : L ≤ 384) (hi : 0 ≤ i ∧ i + 6 ≤ (L : Int)) (hI : INV μ) (kk : ∀ μ' : Int → ME, INV μ' → PW K X 4 Q 1248 [(3, vI i), (0, vR β), (1, vR 0), (2, vR 42)] [] μ') : PW K X 4 Q 1166 [(3, vI i), (0, vR β), (1, vR 0), (2, vR 42)] [] μ := by
  obtain ⟨fs0, hm0⟩ := hI.o
  obtain ⟨ans, J, h1, h2⟩ := s_as (K := K) (k := (xs (i + 1).toNat).toInt) (x := (xs (i + 2).toNat).toInt) hI
  refine p_aload_n (pc := 1166) C dL_law_1166 rfl ?_
  refine p_aload_n (pc := 1167) C dL_law_1167 rfl ?_
  refine p_iload_n (pc := 1168) C dL_law_1168 rfl ?_
  refine p_iconst (pc := 1169) C dL_law_1169 (by decide) ?_
  refine p_iadd (pc := 1170) C dL_law_1170 ⟨by omega, by omega⟩ ?_
  refine p_sld (pc := 1171) C S dL_law_1171 (by omega) ?_
  refine p_aload_n (pc := 1172) C dL_law_1172 rfl ?_
  refine p_iload_n (pc := 1173) C dL_law_1173 rfl ?_
  refine p_iconst (pc := 1174) C dL_law_1174 (by decide) ?_
  refine p_iadd (pc := 1175) C dL_law_1175 ⟨by omega, by omega⟩ ?_
  refine p_sld (pc := 1176) C S dL_law_1176 (by omega) ?_
  refine p_callVX (pc := 1177) C ln_L_129 dL_law_1177 (h1) ⟨by omega, by omega⟩ (by exact hm0) rfl rfl rfl rfl (Nat.le_of_ble_eq_true rfl) (fun μ' hpost => ?_)
  obtain ⟨⟨fs1, hm1⟩, h2'⟩ := h2 _ hpost
  refine p_aload_n (pc := 1180) C dL_law_1180 rfl ?_
  refine p_aload_n (pc := 1181) C dL_law_1181 rfl ?_
  refine p_iload_n (pc := 1182) C dL_law_1182 rfl ?_
  refine p_iconst (pc := 1183) C dL_law_1183 (by decide) ?_
  refine p_iadd (pc := 1184) C dL_law_1184 ⟨by omega, by omega⟩ ?_
  refine p_sld (pc := 1185) C S dL_law_1185 (by omega) ?_
  refine p_aload_n (pc := 1186) C dL_law_1186 rfl ?_
  refine p_iload_n (pc := 1187) C dL_law_1187 rfl ?_
  refine p_iconst (pc := 1188) C dL_law_1188 (by decide) ?_
  refine p_iadd (pc := 1189) C dL_law_1189 ⟨by omega, by omega⟩ ?_
  refine p_sld (pc := 1190) C S dL_law_1190 (by omega) ?_
  refine p_callVX (pc := 1191) C ln_L_132 dL_law_1191 (h2') ⟨by omega, by omega⟩ (by exact hm1) rfl rfl rfl rfl (Nat.le_of_ble_eq_true rfl) (fun μ' hpost => ?_)
  refine p_icmp_eq (pc := 1194) (tgt := 1248) C dL_law_1194 (by decide) (fun c_1194 => ?_) (fun h => by exfalso; omega)
  exact kk _ hpost

set_option maxHeartbeats 4000000 in
set_option maxRecDepth 100000 in
theorem l_28 {K : KX} {X : CX} {Q : State → Prop} {μ : Int → ME} {β i : Int} {L : Nat} {xs : Nat → Int32} (C : okX K X cL_law RL 4 8 (some .boolean)) (S : SX K X β L xs) (hL : L ≤ 384) (hi : 0 ≤ i ∧ i + 6 ≤ (L : Int)) (hI : INV μ) (kk : ∀ μ' : Int → ME, INV μ' → PW K X 4 Q 1248 [(3, vI i), (0, vR β), (1, vR 0), (2, vR 42)] [] μ') : PW K X 4 Q 1199 [(3, vI i), (0, vR β), (1, vR 0), (2, vR 42)] [] μ := by
  obtain ⟨fs0, hm0⟩ := hI.o
  obtain ⟨ans, J, h1, h2⟩ := s_trace (K := K)  hI
  refine p_aload_n (pc := 1199) C dL_law_1199 rfl ?_
  refine p_callVX (pc := 1200) C ln_L_133 dL_law_1200 (h1) ⟨by omega, by omega⟩ (by exact hm0) rfl rfl rfl rfl (Nat.le_of_ble_eq_true rfl) (fun μ' hpost => ?_)
  obtain ⟨⟨fs1, hm1⟩, h2'⟩ := h2 _ hpost
  refine p_aload_n (pc := 1203) C dL_law_1203 rfl ?_
  refine p_callVX (pc := 1204) C ln_L_136 dL_law_1204 (h2') ⟨by omega, by omega⟩ (by exact hm1) rfl rfl rfl rfl (Nat.le_of_ble_eq_true rfl) (fun μ' hpost => ?_)
  refine p_icmp_eq (pc := 1207) (tgt := 1248) C dL_law_1207 (by decide) (fun c_1207 => ?_) (fun h => by exfalso; omega)
  exact kk _ hpost

set_option maxHeartbeats 4000000 in
set_option maxRecDepth 100000 in
theorem l_29 {K : KX} {X : CX} {Q : State → Prop} {μ : Int → ME} {β i : Int} {L : Nat} {xs : Nat → Int32} (C : okX K X cL_law RL 4 8 (some .boolean)) (S : SX K X β L xs) (hL : L ≤ 384) (hi : 0 ≤ i ∧ i + 6 ≤ (L : Int)) (hI : INV μ) (kk : ∀ μ' : Int → ME, INV μ' → PW K X 4 Q 1248 [(3, vI i), (0, vR β), (1, vR 0), (2, vR 42)] [] μ') : PW K X 4 Q 1212 [(3, vI i), (0, vR β), (1, vR 0), (2, vR 42)] [] μ := by
  obtain ⟨fs0, hm0⟩ := hI.o
  obtain ⟨ans, J, h1, h2⟩ := s_fault (K := K)  hI
  refine p_aload_n (pc := 1212) C dL_law_1212 rfl ?_
  refine p_callVX (pc := 1213) C ln_L_137 dL_law_1213 (h1) ⟨by omega, by omega⟩ (by exact hm0) rfl rfl rfl rfl (Nat.le_of_ble_eq_true rfl) (fun μ' hpost => ?_)
  obtain ⟨⟨fs1, hm1⟩, h2'⟩ := h2 _ hpost
  refine p_aload_n (pc := 1216) C dL_law_1216 rfl ?_
  refine p_callVX (pc := 1217) C ln_L_140 dL_law_1217 (h2') ⟨by omega, by omega⟩ (by exact hm1) rfl rfl rfl rfl (Nat.le_of_ble_eq_true rfl) (fun μ' hpost => ?_)
  refine p_icmp_eq (pc := 1220) (tgt := 1248) C dL_law_1220 (by decide) (fun c_1220 => ?_) (fun h => by exfalso; omega)
  exact kk _ hpost

set_option maxHeartbeats 4000000 in
set_option maxRecDepth 100000 in
theorem l_30 {K : KX} {X : CX} {Q : State → Prop} {μ : Int → ME} {β i : Int} {L : Nat} {xs : Nat → Int32} (C : okX K X cL_law RL 4 8 (some .boolean)) (S : SX K X β L xs) (hL : L ≤ 384) (hi : 0 ≤ i ∧ i + 6 ≤ (L : Int)) (hI : INV μ) (kk : ∀ μ' : Int → ME, INV μ' → PW K X 4 Q 1248 [(3, vI i), (0, vR β), (1, vR 0), (2, vR 42)] [] μ') : PW K X 4 Q 1225 [(3, vI i), (0, vR β), (1, vR 0), (2, vR 42)] [] μ := by
  obtain ⟨fs0, hm0⟩ := hI.o
  obtain ⟨ans, J, h1, h2⟩ := s_many (K := K) (w := (xs (i + 1).toNat).toInt) hI
  refine p_aload_n (pc := 1225) C dL_law_1225 rfl ?_
  refine p_aload_n (pc := 1226) C dL_law_1226 rfl ?_
  refine p_iload_n (pc := 1227) C dL_law_1227 rfl ?_
  refine p_iconst (pc := 1228) C dL_law_1228 (by decide) ?_
  refine p_iadd (pc := 1229) C dL_law_1229 ⟨by omega, by omega⟩ ?_
  refine p_sld (pc := 1230) C S dL_law_1230 (by omega) ?_
  refine p_callVX (pc := 1231) C ln_L_141 dL_law_1231 (h1) ⟨by omega, by omega⟩ (by exact hm0) rfl rfl rfl rfl (Nat.le_of_ble_eq_true rfl) (fun μ' hpost => ?_)
  obtain ⟨⟨fs1, hm1⟩, h2'⟩ := h2 _ hpost
  refine p_aload_n (pc := 1234) C dL_law_1234 rfl ?_
  refine p_aload_n (pc := 1235) C dL_law_1235 rfl ?_
  refine p_iload_n (pc := 1236) C dL_law_1236 rfl ?_
  refine p_iconst (pc := 1237) C dL_law_1237 (by decide) ?_
  refine p_iadd (pc := 1238) C dL_law_1238 ⟨by omega, by omega⟩ ?_
  refine p_sld (pc := 1239) C S dL_law_1239 (by omega) ?_
  refine p_callVX (pc := 1240) C ln_L_144 dL_law_1240 (h2') ⟨by omega, by omega⟩ (by exact hm1) rfl rfl rfl rfl (Nat.le_of_ble_eq_true rfl) (fun μ' hpost => ?_)
  refine p_icmp_eq (pc := 1243) (tgt := 1248) C dL_law_1243 (by decide) (fun c_1243 => ?_) (fun h => by exfalso; omega)
  exact kk _ hpost

set_option maxHeartbeats 4000000 in
set_option maxRecDepth 100000 in
theorem law_loop {K : KX} {X : CX} {Q : State → Prop} {β : Int} {L : Nat} {xs : Nat → Int32} (C : okX K X cL_law RL 4 8 (some .boolean)) (S : SX K X β L xs) (hL : L ≤ 384) (kx : ∀ (i : Int) (μ : Int → ME), PW K X 4 Q 1254 [(3, vI i), (0, vR β), (1, vR 0), (2, vR 42)] [] μ) : ∀ (t : Nat) (i : Int) (μ : Int → ME), (0 ≤ i ∧ i ≤ 400) → (L : Int) - i < 6 * (t : Int) → INV μ → PW K X 4 Q 18 [(3, vI i), (0, vR β), (1, vR 0), (2, vR 42)] [] μ := by
  intro t
  induction t with
  | zero =>
    intro i μ h1 h2 hI
    refine p_iload_n (pc := 18) C dL_law_18 rfl ?_
    refine p_aload_n (pc := 19) C dL_law_19 rfl ?_
    refine p_slen (pc := 20) C S dL_law_20 ?_
    refine p_bipush (pc := 21) C dL_law_21 (by decide) ?_
    refine p_isub (pc := 23) C dL_law_23 ⟨by omega, by omega⟩ ?_
    refine p_icmp_gt (pc := 24) (tgt := 1254) C dL_law_24 (by decide) (fun c_24 => kx _ _) (fun c_24 => absurd c_24 (by omega))
  | succ t ih =>
    intro i μ h1 h2 hI
    refine p_iload_n (pc := 18) C dL_law_18 rfl ?_
    refine p_aload_n (pc := 19) C dL_law_19 rfl ?_
    refine p_slen (pc := 20) C S dL_law_20 ?_
    refine p_bipush (pc := 21) C dL_law_21 (by decide) ?_
    refine p_isub (pc := 23) C dL_law_23 ⟨by omega, by omega⟩ ?_
    refine p_icmp_gt (pc := 24) (tgt := 1254) C dL_law_24 (by decide) (fun c_24 => kx _ _) (fun c_24 => ?_)
    have K48 : ∀ μ' : Int → ME, INV μ' → PW K X 4 Q 1248 [(3, vI i), (0, vR β), (1, vR 0), (2, vR 42)] [] μ' := by
      intro μ' hI'
      refine p_iinc (pc := 1248) (ls' := [(3, _), (0, _), (1, _), (2, _)]) C dL_law_1248 (by decide) rfl ⟨by omega, by omega⟩ rfl ?_
      refine p_goto (pc := 1251) (tgt := 18) C dL_law_1251 (by decide) ?_
      exact ih (i + 6) μ' (by omega) (by omega) hI'
    refine p_aload_n (pc := 27) C dL_law_27 rfl ?_
    refine p_iload_n (pc := 28) C dL_law_28 rfl ?_
    refine p_sld (pc := 29) C S dL_law_29 (by omega) ?_
    refine p_bipush (pc := 30) C dL_law_30 (by decide) ?_
    refine p_iand (pc := 32) C dL_law_32 ?_
    by_cases s_33_0 : (iAnd (xs i.toNat).toInt 31) = 0
    · refine p_tin (pc := 33) (off := 139) (tgt := 172) C dL_law_33 (by omega) (by omega) (by rw [s_33_0]; rfl) (by decide) ?_
      exact l_0 C S hL (by omega) hI K48
    by_cases s_33_1 : (iAnd (xs i.toNat).toInt 31) = 1
    · refine p_tin (pc := 33) (off := 192) (tgt := 225) C dL_law_33 (by omega) (by omega) (by rw [s_33_1]; rfl) (by decide) ?_
      exact l_1 C S hL (by omega) hI K48
    by_cases s_33_2 : (iAnd (xs i.toNat).toInt 31) = 2
    · refine p_tin (pc := 33) (off := 225) (tgt := 258) C dL_law_33 (by omega) (by omega) (by rw [s_33_2]; rfl) (by decide) ?_
      exact l_2 C S hL (by omega) hI K48
    by_cases s_33_3 : (iAnd (xs i.toNat).toInt 31) = 3
    · refine p_tin (pc := 33) (off := 248) (tgt := 281) C dL_law_33 (by omega) (by omega) (by rw [s_33_3]; rfl) (by decide) ?_
      exact l_3 C S hL (by omega) hI K48
    by_cases s_33_4 : (iAnd (xs i.toNat).toInt 31) = 4
    · refine p_tin (pc := 33) (off := 281) (tgt := 314) C dL_law_33 (by omega) (by omega) (by rw [s_33_4]; rfl) (by decide) ?_
      exact l_4 C S hL (by omega) hI K48
    by_cases s_33_5 : (iAnd (xs i.toNat).toInt 31) = 5
    · refine p_tin (pc := 33) (off := 314) (tgt := 347) C dL_law_33 (by omega) (by omega) (by rw [s_33_5]; rfl) (by decide) ?_
      exact l_5 C S hL (by omega) hI K48
    by_cases s_33_6 : (iAnd (xs i.toNat).toInt 31) = 6
    · refine p_tin (pc := 33) (off := 337) (tgt := 370) C dL_law_33 (by omega) (by omega) (by rw [s_33_6]; rfl) (by decide) ?_
      exact l_6 C S hL (by omega) hI K48
    by_cases s_33_7 : (iAnd (xs i.toNat).toInt 31) = 7
    · refine p_tin (pc := 33) (off := 380) (tgt := 413) C dL_law_33 (by omega) (by omega) (by rw [s_33_7]; rfl) (by decide) ?_
      exact l_7 C S hL (by omega) hI K48
    by_cases s_33_8 : (iAnd (xs i.toNat).toInt 31) = 8
    · refine p_tin (pc := 33) (off := 423) (tgt := 456) C dL_law_33 (by omega) (by omega) (by rw [s_33_8]; rfl) (by decide) ?_
      exact l_8 C S hL (by omega) hI K48
    by_cases s_33_9 : (iAnd (xs i.toNat).toInt 31) = 9
    · refine p_tin (pc := 33) (off := 486) (tgt := 519) C dL_law_33 (by omega) (by omega) (by rw [s_33_9]; rfl) (by decide) ?_
      exact l_9 C S hL (by omega) hI K48
    by_cases s_33_10 : (iAnd (xs i.toNat).toInt 31) = 10
    · refine p_tin (pc := 33) (off := 509) (tgt := 542) C dL_law_33 (by omega) (by omega) (by rw [s_33_10]; rfl) (by decide) ?_
      exact l_10 C S hL (by omega) hI K48
    by_cases s_33_11 : (iAnd (xs i.toNat).toInt 31) = 11
    · refine p_tin (pc := 33) (off := 552) (tgt := 585) C dL_law_33 (by omega) (by omega) (by rw [s_33_11]; rfl) (by decide) ?_
      exact l_11 C S hL (by omega) hI K48
    by_cases s_33_12 : (iAnd (xs i.toNat).toInt 31) = 12
    · refine p_tin (pc := 33) (off := 605) (tgt := 638) C dL_law_33 (by omega) (by omega) (by rw [s_33_12]; rfl) (by decide) ?_
      exact l_12 C S hL (by omega) hI K48
    by_cases s_33_13 : (iAnd (xs i.toNat).toInt 31) = 13
    · refine p_tin (pc := 33) (off := 618) (tgt := 651) C dL_law_33 (by omega) (by omega) (by rw [s_33_13]; rfl) (by decide) ?_
      exact l_13 C S hL (by omega) hI K48
    by_cases s_33_14 : (iAnd (xs i.toNat).toInt 31) = 14
    · refine p_tin (pc := 33) (off := 661) (tgt := 694) C dL_law_33 (by omega) (by omega) (by rw [s_33_14]; rfl) (by decide) ?_
      exact l_14 C S hL (by omega) hI K48
    by_cases s_33_15 : (iAnd (xs i.toNat).toInt 31) = 15
    · refine p_tin (pc := 33) (off := 684) (tgt := 717) C dL_law_33 (by omega) (by omega) (by rw [s_33_15]; rfl) (by decide) ?_
      exact l_15 C S hL (by omega) hI K48
    by_cases s_33_16 : (iAnd (xs i.toNat).toInt 31) = 16
    · refine p_tin (pc := 33) (off := 707) (tgt := 740) C dL_law_33 (by omega) (by omega) (by rw [s_33_16]; rfl) (by decide) ?_
      exact l_16 C S hL (by omega) hI K48
    by_cases s_33_17 : (iAnd (xs i.toNat).toInt 31) = 17
    · refine p_tin (pc := 33) (off := 730) (tgt := 763) C dL_law_33 (by omega) (by omega) (by rw [s_33_17]; rfl) (by decide) ?_
      exact l_17 C S hL (by omega) hI K48
    by_cases s_33_18 : (iAnd (xs i.toNat).toInt 31) = 18
    · refine p_tin (pc := 33) (off := 793) (tgt := 826) C dL_law_33 (by omega) (by omega) (by rw [s_33_18]; rfl) (by decide) ?_
      exact l_18 C S hL (by omega) hI K48
    by_cases s_33_19 : (iAnd (xs i.toNat).toInt 31) = 19
    · refine p_tin (pc := 33) (off := 837) (tgt := 870) C dL_law_33 (by omega) (by omega) (by rw [s_33_19]; rfl) (by decide) ?_
      exact l_19 C S hL (by omega) hI K48
    by_cases s_33_20 : (iAnd (xs i.toNat).toInt 31) = 20
    · refine p_tin (pc := 33) (off := 871) (tgt := 904) C dL_law_33 (by omega) (by omega) (by rw [s_33_20]; rfl) (by decide) ?_
      exact l_20 C S hL (by omega) hI K48
    by_cases s_33_21 : (iAnd (xs i.toNat).toInt 31) = 21
    · refine p_tin (pc := 33) (off := 914) (tgt := 947) C dL_law_33 (by omega) (by omega) (by rw [s_33_21]; rfl) (by decide) ?_
      exact l_21 C S hL (by omega) hI K48
    by_cases s_33_22 : (iAnd (xs i.toNat).toInt 31) = 22
    · refine p_tin (pc := 33) (off := 937) (tgt := 970) C dL_law_33 (by omega) (by omega) (by rw [s_33_22]; rfl) (by decide) ?_
      exact l_22 C S hL (by omega) hI K48
    by_cases s_33_23 : (iAnd (xs i.toNat).toInt 31) = 23
    · refine p_tin (pc := 33) (off := 980) (tgt := 1013) C dL_law_33 (by omega) (by omega) (by rw [s_33_23]; rfl) (by decide) ?_
      exact l_23 C S hL (by omega) hI K48
    by_cases s_33_24 : (iAnd (xs i.toNat).toInt 31) = 24
    · refine p_tin (pc := 33) (off := 1024) (tgt := 1057) C dL_law_33 (by omega) (by omega) (by rw [s_33_24]; rfl) (by decide) ?_
      exact l_24 C S hL (by omega) hI K48
    by_cases s_33_25 : (iAnd (xs i.toNat).toInt 31) = 25
    · refine p_tin (pc := 33) (off := 1087) (tgt := 1120) C dL_law_33 (by omega) (by omega) (by rw [s_33_25]; rfl) (by decide) ?_
      exact l_25 C S hL (by omega) hI K48
    by_cases s_33_26 : (iAnd (xs i.toNat).toInt 31) = 26
    · refine p_tin (pc := 33) (off := 1110) (tgt := 1143) C dL_law_33 (by omega) (by omega) (by rw [s_33_26]; rfl) (by decide) ?_
      exact l_26 C S hL (by omega) hI K48
    by_cases s_33_27 : (iAnd (xs i.toNat).toInt 31) = 27
    · refine p_tin (pc := 33) (off := 1133) (tgt := 1166) C dL_law_33 (by omega) (by omega) (by rw [s_33_27]; rfl) (by decide) ?_
      exact l_27 C S hL (by omega) hI K48
    by_cases s_33_28 : (iAnd (xs i.toNat).toInt 31) = 28
    · refine p_tin (pc := 33) (off := 1166) (tgt := 1199) C dL_law_33 (by omega) (by omega) (by rw [s_33_28]; rfl) (by decide) ?_
      exact l_28 C S hL (by omega) hI K48
    by_cases s_33_29 : (iAnd (xs i.toNat).toInt 31) = 29
    · refine p_tin (pc := 33) (off := 1179) (tgt := 1212) C dL_law_33 (by omega) (by omega) (by rw [s_33_29]; rfl) (by decide) ?_
      exact l_29 C S hL (by omega) hI K48
    by_cases s_33_30 : (iAnd (xs i.toNat).toInt 31) = 30
    · refine p_tin (pc := 33) (off := 1192) (tgt := 1225) C dL_law_33 (by omega) (by omega) (by rw [s_33_30]; rfl) (by decide) ?_
      exact l_30 C S hL (by omega) hI K48
    refine p_tout (pc := 33) (tgt := 1248) C dL_law_33 (by omega) (by decide) ?_
    exact K48 _ hI
