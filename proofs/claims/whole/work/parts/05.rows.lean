/-! ROWS of the pure machine: an instruction, a row -/
section PMROWS
variable {K : KX} {X : CX} {nL d : Nat} {Q : State → Prop} {cc : ByteArray} {own : String} {ret : Option FieldType} {pc : Nat} {ls : List (Nat × PV)} {st : List PV} {μ : Int → ME}
theorem p_iconst (C : okX K X cc own nL d ret) {n : Int} (dg : decode cc pc = .ok (.iconst n, 1)) (hr : rng n := by decide) (k : PW K X nL Q (pc + 1) ls (vI n :: st) μ) : PW K X nL Q pc ls st μ := fun H locs la hP hS hl hμ hL hs =>
  lv_iconst C.1 C.2.1 dg rfl (k H locs la hP hS hl hμ hL (hs.cons hr))
theorem p_bipush (C : okX K X cc own nL d ret) {n : Int} (dg : decode cc pc = .ok (.bipush n, 2)) (hn : -128 ≤ n ∧ n < 128 := by decide) (k : PW K X nL Q (pc + 2) ls (vI n :: st) μ) : PW K X nL Q pc ls st μ := fun H locs la hP hS hl hμ hL hs =>
  lv_bipush C.1 C.2.1 dg (b2v hn) (k H locs la hP hS hl hμ hL (hs.cons (by show rng n; omega)))
theorem p_sipush (C : okX K X cc own nL d ret) {n : Int} (dg : decode cc pc = .ok (.sipush n, 3)) (hn : -32768 ≤ n ∧ n < 32768 := by decide) (k : PW K X nL Q (pc + 3) ls (vI n :: st) μ) : PW K X nL Q pc ls st μ := fun H locs la hP hS hl hμ hL hs =>
  lv_sipush C.1 C.2.1 dg (s2v hn) (k H locs la hP hS hl hμ hL (hs.cons (by show rng n; omega)))
theorem p_iload_n (C : okX K X cc own nL d ret) {i : Fin 4} {z : Int} (dg : decode cc pc = .ok (.iload_n i, 1)) (h : lk ls i = some (vI z)) (k : PW K X nL Q (pc + 1) ls (vI z :: st) μ) : PW K X nL Q pc ls st μ := fun H locs la hP hS hl hμ hL hs =>
  lv_iload_n C.1 C.2.1 dg rfl (lk_at hl h) (k H locs la hP hS hl hμ hL (hs.cons (okL_at hL h)))
theorem p_iload (C : okX K X cc own nL d ret) {i : Nat} {z : Int} (dg : decode cc pc = .ok (.iload i, 2)) (h : lk ls i = some (vI z)) (k : PW K X nL Q (pc + 2) ls (vI z :: st) μ) : PW K X nL Q pc ls st μ := fun H locs la hP hS hl hμ hL hs =>
  lv_iload C.1 C.2.1 dg (lk_at hl h) (k H locs la hP hS hl hμ hL (hs.cons (okL_at hL h)))
theorem p_lload_n (C : okX K X cc own nL d ret) {i : Fin 4} {z : Int} (dg : decode cc pc = .ok (.lload_n i, 1)) (h : lk ls i = some (vL z)) (k : PW K X nL Q (pc + 1) ls (vL z :: st) μ) : PW K X nL Q pc ls st μ := fun H locs la hP hS hl hμ hL hs =>
  lv_lload_n C.1 C.2.1 dg rfl (lk_at hl h) (k H locs la hP hS hl hμ hL (hs.cons (okL_at hL h)))
theorem p_lload (C : okX K X cc own nL d ret) {i : Nat} {z : Int} (dg : decode cc pc = .ok (.lload i, 2)) (h : lk ls i = some (vL z)) (k : PW K X nL Q (pc + 2) ls (vL z :: st) μ) : PW K X nL Q pc ls st μ := fun H locs la hP hS hl hμ hL hs =>
  lv_lload C.1 C.2.1 dg (lk_at hl h) (k H locs la hP hS hl hμ hL (hs.cons (okL_at hL h)))
theorem p_aload_n (C : okX K X cc own nL d ret) {i : Fin 4} {a : Int} (dg : decode cc pc = .ok (.aload_n i, 1)) (h : lk ls i = some (vR a)) (k : PW K X nL Q (pc + 1) ls (vR a :: st) μ) : PW K X nL Q pc ls st μ := fun H locs la hP hS hl hμ hL hs =>
  lv_aload_n C.1 C.2.1 dg rfl (lk_at hl h) (k H locs la hP hS hl hμ hL (hs.cons (okL_at hL h)))
theorem p_aload (C : okX K X cc own nL d ret) {i : Nat} {a : Int} (dg : decode cc pc = .ok (.aload i, 2)) (h : lk ls i = some (vR a)) (k : PW K X nL Q (pc + 2) ls (vR a :: st) μ) : PW K X nL Q pc ls st μ := fun H locs la hP hS hl hμ hL hs =>
  lv_aload C.1 C.2.1 dg (lk_at hl h) (k H locs la hP hS hl hμ hL (hs.cons (okL_at hL h)))
theorem p_istore_n (C : okX K X cc own nL d ret) {i : Fin 4} {z : Int} {ls' : List (Nat × PV)} (dg : decode cc pc = .ok (.istore_n i, 1)) (hi : (i : Nat) < nL) (h : sl ls i (vI z) = ls') (k : PW K X nL Q (pc + 1) ls' st μ) : PW K X nL Q pc ls (vI z :: st) μ := fun H locs la hP hS hl hμ hL hs =>
  lv_istore_n C.1 C.2.1 dg rfl hl hi (sl_map K ls i (vI z)) (fun la' hl' => k H locs la' hP hS (h ▸ hl') hμ (h ▸ okL_sl hL hs.hd) hs.tl)
theorem p_istore (C : okX K X cc own nL d ret) {i : Nat} {z : Int} {ls' : List (Nat × PV)} (dg : decode cc pc = .ok (.istore i, 2)) (hi : (i : Nat) < nL) (h : sl ls i (vI z) = ls') (k : PW K X nL Q (pc + 2) ls' st μ) : PW K X nL Q pc ls (vI z :: st) μ := fun H locs la hP hS hl hμ hL hs =>
  lv_istore C.1 C.2.1 dg hl hi (sl_map K ls i (vI z)) (fun la' hl' => k H locs la' hP hS (h ▸ hl') hμ (h ▸ okL_sl hL hs.hd) hs.tl)
theorem p_astore_n (C : okX K X cc own nL d ret) {i : Fin 4} {a : Int} {ls' : List (Nat × PV)} (dg : decode cc pc = .ok (.astore_n i, 1)) (hi : (i : Nat) < nL) (h : sl ls i (vR a) = ls') (k : PW K X nL Q (pc + 1) ls' st μ) : PW K X nL Q pc ls (vR a :: st) μ := fun H locs la hP hS hl hμ hL hs =>
  lv_astore_n C.1 C.2.1 dg rfl hl hi (sl_map K ls i (vR a)) (fun la' hl' => k H locs la' hP hS (h ▸ hl') hμ (h ▸ okL_sl hL hs.hd) hs.tl)
theorem p_astore (C : okX K X cc own nL d ret) {i : Nat} {a : Int} {ls' : List (Nat × PV)} (dg : decode cc pc = .ok (.astore i, 2)) (hi : (i : Nat) < nL) (h : sl ls i (vR a) = ls') (k : PW K X nL Q (pc + 2) ls' st μ) : PW K X nL Q pc ls (vR a :: st) μ := fun H locs la hP hS hl hμ hL hs =>
  lv_astore C.1 C.2.1 dg hl hi (sl_map K ls i (vR a)) (fun la' hl' => k H locs la' hP hS (h ▸ hl') hμ (h ▸ okL_sl hL hs.hd) hs.tl)
theorem p_lstore (C : okX K X cc own nL d ret) {i : Nat} {z : Int} {ls' : List (Nat × PV)} (dg : decode cc pc = .ok (.lstore i, 2)) (hi : (i : Nat) + 1 < nL) (h : slL ls i (vL z) = ls') (k : PW K X nL Q (pc + 2) ls' st μ) : PW K X nL Q pc ls (vL z :: st) μ := fun H locs la hP hS hl hμ hL hs =>
  lv_lstore C.1 C.2.1 dg hl hi (slL_map K ls i (vL z)) (fun la' hl' => k H locs la' hP hS (h ▸ hl') hμ (h ▸ okL_slL hL hs.hd) hs.tl)
theorem lk_place {ls : List (Nat × PV)} {i : Nat} {v : PV} (h : lk ls i = some v) (K : KX) : ∃ q : Nat, (ls.map (eL K))[q]? = some (i, eV K v) := by
  obtain ⟨q, hq⟩ := List.getElem?_of_mem (List.mem_map.mpr ⟨(i, v), lk_mem h, rfl⟩ : eL K (i, v) ∈ ls.map (eL K))
  exact ⟨q, hq⟩
theorem p_iinc (C : okX K X cc own nL d ret) {i : Nat} {n z : Int} {ls' : List (Nat × PV)} (dg : decode cc pc = .ok (.iinc i n, 3)) (hi : i < nL) (hk : lk ls i = some (vI z)) (hr : rng (z + n)) (h : sl ls i (vI (z + n)) = ls') (k : PW K X nL Q (pc + 3) ls' st μ) : PW K X nL Q pc ls st μ := fun H locs la hP hS hl hμ hL hs => by
  obtain ⟨q, hq⟩ := lk_place hk K
  exact lv_iinc C.1 C.2.1 dg hl hq (Int32.ofInt_add z n).symm hi (sl_map K ls i (vI (z + n))) (fun la' hl' => k H locs la' hP hS (h ▸ hl') hμ (h ▸ okL_sl hL (show okV (vI (z + n)) from hr)) hs)
theorem p_iadd (C : okX K X cc own nL d ret) {x y : Int} (dg : decode cc pc = .ok (.iadd, 1)) (hr : rng (x + y)) (k : PW K X nL Q (pc + 1) ls (vI (x + y) :: st) μ) : PW K X nL Q pc ls (vI y :: vI x :: st) μ := fun H locs la hP hS hl hμ hL hs => by
  refine lv_iadd C.1 C.2.1 dg ?_
  rw [← Int32.ofInt_add]
  exact k H locs la hP hS hl hμ hL (hs.tl.tl.cons (show okV (vI (x + y)) from hr))
theorem p_isub (C : okX K X cc own nL d ret) {x y : Int} (dg : decode cc pc = .ok (.isub, 1)) (hr : rng (x - y)) (k : PW K X nL Q (pc + 1) ls (vI (x - y) :: st) μ) : PW K X nL Q pc ls (vI y :: vI x :: st) μ := fun H locs la hP hS hl hμ hL hs => by
  refine lv_isub C.1 C.2.1 dg ?_
  rw [← Int32.ofInt_sub]
  exact k H locs la hP hS hl hμ hL (hs.tl.tl.cons (show okV (vI (x - y)) from hr))
theorem p_imul (C : okX K X cc own nL d ret) {x y : Int} (dg : decode cc pc = .ok (.imul, 1)) (hr : rng (x * y)) (k : PW K X nL Q (pc + 1) ls (vI (x * y) :: st) μ) : PW K X nL Q pc ls (vI y :: vI x :: st) μ := fun H locs la hP hS hl hμ hL hs => by
  refine lv_imul C.1 C.2.1 dg ?_
  rw [← Int32.ofInt_mul]
  exact k H locs la hP hS hl hμ hL (hs.tl.tl.cons (show okV (vI (x * y)) from hr))
/-- the same, where it may wrap -/
theorem p_iaddw (C : okX K X cc own nL d ret) {x y : Int} (dg : decode cc pc = .ok (.iadd, 1)) (k : PW K X nL Q (pc + 1) ls (vI (iwr (x + y)) :: st) μ) : PW K X nL Q pc ls (vI y :: vI x :: st) μ := fun H locs la hP hS hl hμ hL hs => by
  refine lv_iadd C.1 C.2.1 dg ?_
  rw [← Int32.ofInt_add, ← iwr_e]
  exact k H locs la hP hS hl hμ hL (hs.tl.tl.cons (show okV (vI _) from iwr_r _))
theorem p_isubw (C : okX K X cc own nL d ret) {x y : Int} (dg : decode cc pc = .ok (.isub, 1)) (k : PW K X nL Q (pc + 1) ls (vI (iwr (x - y)) :: st) μ) : PW K X nL Q pc ls (vI y :: vI x :: st) μ := fun H locs la hP hS hl hμ hL hs => by
  refine lv_isub C.1 C.2.1 dg ?_
  rw [← Int32.ofInt_sub, ← iwr_e]
  exact k H locs la hP hS hl hμ hL (hs.tl.tl.cons (show okV (vI _) from iwr_r _))
theorem p_imulw (C : okX K X cc own nL d ret) {x y : Int} (dg : decode cc pc = .ok (.imul, 1)) (k : PW K X nL Q (pc + 1) ls (vI (iwr (x * y)) :: st) μ) : PW K X nL Q pc ls (vI y :: vI x :: st) μ := fun H locs la hP hS hl hμ hL hs => by
  refine lv_imul C.1 C.2.1 dg ?_
  rw [← Int32.ofInt_mul, ← iwr_e]
  exact k H locs la hP hS hl hμ hL (hs.tl.tl.cons (show okV (vI _) from iwr_r _))
theorem p_iand (C : okX K X cc own nL d ret) {x y : Int} (dg : decode cc pc = .ok (.iand, 1)) (k : PW K X nL Q (pc + 1) ls (vI (iAnd x y) :: st) μ) : PW K X nL Q pc ls (vI y :: vI x :: st) μ := fun H locs la hP hS hl hμ hL hs => by
  refine lv_iand C.1 C.2.1 dg ?_
  have h := k H locs la hP hS hl hμ hL (hs.tl.tl.cons (show okV (vI _) from rng_i _))
  simp only [List.map_cons, eV, iAnd, Int32.ofInt_toInt] at h
  exact h
theorem p_ior (C : okX K X cc own nL d ret) {x y : Int} (dg : decode cc pc = .ok (.ior, 1)) (k : PW K X nL Q (pc + 1) ls (vI (iOr x y) :: st) μ) : PW K X nL Q pc ls (vI y :: vI x :: st) μ := fun H locs la hP hS hl hμ hL hs => by
  refine lv_ior C.1 C.2.1 dg ?_
  have h := k H locs la hP hS hl hμ hL (hs.tl.tl.cons (show okV (vI _) from rng_i _))
  simp only [List.map_cons, eV, iOr, Int32.ofInt_toInt] at h
  exact h
theorem p_ishl (C : okX K X cc own nL d ret) {x y : Int} (dg : decode cc pc = .ok (.ishl, 1)) (k : PW K X nL Q (pc + 1) ls (vI (iShl x y) :: st) μ) : PW K X nL Q pc ls (vI y :: vI x :: st) μ := fun H locs la hP hS hl hμ hL hs => by
  refine lv_ishl C.1 C.2.1 dg ?_
  have h := k H locs la hP hS hl hμ hL (hs.tl.tl.cons (show okV (vI _) from rng_i _))
  simp only [List.map_cons, eV, iShl, Int32.ofInt_toInt] at h
  exact h
theorem p_ishr (C : okX K X cc own nL d ret) {x y : Int} (dg : decode cc pc = .ok (.ishr, 1)) (k : PW K X nL Q (pc + 1) ls (vI (iShr x y) :: st) μ) : PW K X nL Q pc ls (vI y :: vI x :: st) μ := fun H locs la hP hS hl hμ hL hs => by
  refine lv_ishr C.1 C.2.1 dg ?_
  have h := k H locs la hP hS hl hμ hL (hs.tl.tl.cons (show okV (vI _) from rng_i _))
  simp only [List.map_cons, eV, iShr, Int32.ofInt_toInt] at h
  exact h
theorem p_iushr (C : okX K X cc own nL d ret) {x y : Int} (dg : decode cc pc = .ok (.iushr, 1)) (k : PW K X nL Q (pc + 1) ls (vI (iUshr x y) :: st) μ) : PW K X nL Q pc ls (vI y :: vI x :: st) μ := fun H locs la hP hS hl hμ hL hs => by
  refine lv_iushr C.1 C.2.1 dg rfl ?_
  have h := k H locs la hP hS hl hμ hL (hs.tl.tl.cons (show okV (vI _) from rng_i _))
  simp only [List.map_cons, eV, iUshr, Int32.ofInt_toInt] at h
  exact h
theorem p_i2b (C : okX K X cc own nL d ret) {x : Int} (dg : decode cc pc = .ok (.i2b, 1)) (k : PW K X nL Q (pc + 1) ls (vI (i2b x) :: st) μ) : PW K X nL Q pc ls (vI x :: st) μ := fun H locs la hP hS hl hμ hL hs => by
  refine lv_i2b C.1 C.2.1 dg rfl ?_
  have h := k H locs la hP hS hl hμ hL (hs.tl.cons (show okV (vI _) from rng_i _))
  simp only [List.map_cons, eV, i2b, Int32.ofInt_toInt] at h
  exact h
theorem p_i2s (C : okX K X cc own nL d ret) {x : Int} (dg : decode cc pc = .ok (.i2s, 1)) (k : PW K X nL Q (pc + 1) ls (vI (i2s x) :: st) μ) : PW K X nL Q pc ls (vI x :: st) μ := fun H locs la hP hS hl hμ hL hs => by
  refine lv_i2s C.1 C.2.1 dg rfl ?_
  have h := k H locs la hP hS hl hμ hL (hs.tl.cons (show okV (vI _) from rng_i _))
  simp only [List.map_cons, eV, i2s, Int32.ofInt_toInt] at h
  exact h
theorem zdiv {x y : Int} (hx : 0 ≤ x) (hy : 0 < y) (rx : rng x) (ry : rng y) : Int32.ofInt x / Int32.ofInt y = Int32.ofInt (x / y) := by
  have h1 : x.tdiv y = x / y := Int.tdiv_eq_ediv_of_nonneg hx
  have h2 : 0 ≤ x / y := Int.ediv_nonneg hx (Int.le_of_lt hy)
  have h3 : x / y ≤ x := Int.ediv_le_self _ hx
  rw [← Int32.toInt_inj, Int32.toInt_div, zi rx, zi ry, h1, zi ⟨by omega, by omega⟩]
  exact Int.bmod_eq_of_le (by omega) (by omega)
theorem p_idiv (C : okX K X cc own nL d ret) {x y : Int} (dg : decode cc pc = .ok (.idiv, 1)) (hx : 0 ≤ x) (hy : 0 < y) (k : PW K X nL Q (pc + 1) ls (vI (x / y) :: st) μ) : PW K X nL Q pc ls (vI y :: vI x :: st) μ := fun H locs la hP hS hl hμ hL hs => by
  have rx : rng x := hs.tl.hd
  have ry : rng y := hs.hd
  have h3 : x / y ≤ x := Int.ediv_le_self _ hx
  have h2 : 0 ≤ x / y := Int.ediv_nonneg hx (Int.le_of_lt hy)
  refine lv_idiv C.1 C.2.1 dg (fun h => ?_) ?_
  · rw [show (0 : Int32) = Int32.ofInt 0 from rfl, zi_eq ry (by decide)] at h; omega
  · rw [zdiv hx hy rx ry]
    exact k H locs la hP hS hl hμ hL (hs.tl.tl.cons (show okV (vI _) from ⟨by omega, by omega⟩))
theorem p_irem (C : okX K X cc own nL d ret) {x y : Int} (dg : decode cc pc = .ok (.irem, 1)) (hx : 0 ≤ x) (hy : 0 < y) (k : PW K X nL Q (pc + 1) ls (vI (x % y) :: st) μ) : PW K X nL Q pc ls (vI y :: vI x :: st) μ := fun H locs la hP hS hl hμ hL hs => by
  have rx : rng x := hs.tl.hd
  have ry : rng y := hs.hd
  have h3 : x % y < y := Int.emod_lt_of_pos _ hy
  have h2 : 0 ≤ x % y := Int.emod_nonneg _ (by omega)
  refine lv_irem C.1 C.2.1 dg (fun h => ?_) ?_
  · rw [show (0 : Int32) = Int32.ofInt 0 from rfl, zi_eq ry (by decide)] at h; omega
  · have e : Int32.ofInt x - Int32.ofInt x / Int32.ofInt y * Int32.ofInt y = Int32.ofInt (x % y) := by
      rw [zdiv hx hy rx ry, ← Int32.ofInt_mul, ← Int32.ofInt_sub]
      congr 1
      have := Int.emod_add_mul_ediv x y
      rw [Int.mul_comm] at this
      omega
    rw [e]
    exact k H locs la hP hS hl hμ hL (hs.tl.tl.cons (show okV (vI _) from ⟨by omega, by omega⟩))
theorem p_dup (C : okX K X cc own nL d ret) {v : PV} (dg : decode cc pc = .ok (.dup, 1)) (hv : isL v = false) (k : PW K X nL Q (pc + 1) ls (v :: v :: st) μ) : PW K X nL Q pc ls (v :: st) μ := fun H locs la hP hS hl hμ hL hs =>
  lv_dup C.1 C.2.1 dg (by rw [cat_eV, hv]; rfl) (k H locs la hP hS hl hμ hL (hs.cons hs.hd))
theorem p_dup2 (C : okX K X cc own nL d ret) {v w : PV} (dg : decode cc pc = .ok (.dup2, 1)) (hv : isL v = false) (hw : isL w = false) (k : PW K X nL Q (pc + 1) ls (v :: w :: v :: w :: st) μ) : PW K X nL Q pc ls (v :: w :: st) μ := fun H locs la hP hS hl hμ hL hs =>
  lv_dup2_11 C.1 C.2.1 dg (by rw [cat_eV, hv]; rfl) (by rw [cat_eV, hw]; rfl) (k H locs la hP hS hl hμ hL ((hs.cons hs.tl.hd).cons hs.hd))
theorem p_pop (C : okX K X cc own nL d ret) {v : PV} (dg : decode cc pc = .ok (.pop, 1)) (hv : isL v = false) (k : PW K X nL Q (pc + 1) ls st μ) : PW K X nL Q pc ls (v :: st) μ := fun H locs la hP hS hl hμ hL hs =>
  lv_pop C.1 C.2.1 dg (by rw [cat_eV, hv]; rfl) (k H locs la hP hS hl hμ hL hs.tl)
theorem p_goto (C : okX K X cc own nL d ret) {off : Int} {tgt : Nat} (dg : decode cc pc = .ok (.goto off, 3)) (ht : (pc : Int) + off = (tgt : Int)) (k : PW K X nL Q tgt ls st μ) : PW K X nL Q pc ls st μ := fun H locs la hP hS hl hμ hL hs =>
  lv_goto C.1 C.2.1 dg ht (k H locs la hP hS hl hμ hL hs)
theorem p_icmp_eq (C : okX K X cc own nL d ret) {x y off : Int} {tgt : Nat} (dg : decode cc pc = .ok (.if_icmp .eq off, 3)) (ht : (pc : Int) + off = (tgt : Int)) (k1 : x = y → PW K X nL Q tgt ls st μ) (k2 : ¬ x = y → PW K X nL Q (pc + 3) ls st μ) : PW K X nL Q pc ls (vI y :: vI x :: st) μ := fun H locs la hP hS hl hμ hL hs =>
  lv_icmp_eq C.1 C.2.1 dg ht (fun h => k1 ((zi_eq hs.tl.hd hs.hd).mp h) H locs la hP hS hl hμ hL hs.tl.tl) (fun h => k2 (fun e => h ((zi_eq hs.tl.hd hs.hd).mpr e)) H locs la hP hS hl hμ hL hs.tl.tl)
theorem p_if_eq (C : okX K X cc own nL d ret) {x off : Int} {tgt : Nat} (dg : decode cc pc = .ok (.ifCond .eq off, 3)) (ht : (pc : Int) + off = (tgt : Int)) (k1 : x = 0 → PW K X nL Q tgt ls st μ) (k2 : ¬ x = 0 → PW K X nL Q (pc + 3) ls st μ) : PW K X nL Q pc ls (vI x :: st) μ := fun H locs la hP hS hl hμ hL hs =>
  lv_if_eq C.1 C.2.1 dg ht (fun h => k1 ((zi_eq hs.hd (show rng 0 by decide)).mp h) H locs la hP hS hl hμ hL hs.tl) (fun h => k2 (fun e => h ((zi_eq hs.hd (show rng 0 by decide)).mpr e)) H locs la hP hS hl hμ hL hs.tl)
theorem p_icmp_ne (C : okX K X cc own nL d ret) {x y off : Int} {tgt : Nat} (dg : decode cc pc = .ok (.if_icmp .ne off, 3)) (ht : (pc : Int) + off = (tgt : Int)) (k1 : ¬ x = y → PW K X nL Q tgt ls st μ) (k2 : x = y → PW K X nL Q (pc + 3) ls st μ) : PW K X nL Q pc ls (vI y :: vI x :: st) μ := fun H locs la hP hS hl hμ hL hs =>
  lv_icmp_ne C.1 C.2.1 dg ht (fun h => k1 (fun e => h ((zi_eq hs.tl.hd hs.hd).mpr e)) H locs la hP hS hl hμ hL hs.tl.tl) (fun h => k2 ((zi_eq hs.tl.hd hs.hd).mp h) H locs la hP hS hl hμ hL hs.tl.tl)
theorem p_if_ne (C : okX K X cc own nL d ret) {x off : Int} {tgt : Nat} (dg : decode cc pc = .ok (.ifCond .ne off, 3)) (ht : (pc : Int) + off = (tgt : Int)) (k1 : ¬ x = 0 → PW K X nL Q tgt ls st μ) (k2 : x = 0 → PW K X nL Q (pc + 3) ls st μ) : PW K X nL Q pc ls (vI x :: st) μ := fun H locs la hP hS hl hμ hL hs =>
  lv_if_ne C.1 C.2.1 dg ht (fun h => k1 (fun e => h ((zi_eq hs.hd (show rng 0 by decide)).mpr e)) H locs la hP hS hl hμ hL hs.tl) (fun h => k2 ((zi_eq hs.hd (show rng 0 by decide)).mp h) H locs la hP hS hl hμ hL hs.tl)
theorem p_icmp_lt (C : okX K X cc own nL d ret) {x y off : Int} {tgt : Nat} (dg : decode cc pc = .ok (.if_icmp .lt off, 3)) (ht : (pc : Int) + off = (tgt : Int)) (k1 : x < y → PW K X nL Q tgt ls st μ) (k2 : ¬ x < y → PW K X nL Q (pc + 3) ls st μ) : PW K X nL Q pc ls (vI y :: vI x :: st) μ := fun H locs la hP hS hl hμ hL hs =>
  lv_icmp_lt C.1 C.2.1 dg ht (fun h => k1 ((zi_lt hs.tl.hd hs.hd).mp h) H locs la hP hS hl hμ hL hs.tl.tl) (fun h => k2 (fun e => h ((zi_lt hs.tl.hd hs.hd).mpr e)) H locs la hP hS hl hμ hL hs.tl.tl)
theorem p_if_lt (C : okX K X cc own nL d ret) {x off : Int} {tgt : Nat} (dg : decode cc pc = .ok (.ifCond .lt off, 3)) (ht : (pc : Int) + off = (tgt : Int)) (k1 : x < 0 → PW K X nL Q tgt ls st μ) (k2 : ¬ x < 0 → PW K X nL Q (pc + 3) ls st μ) : PW K X nL Q pc ls (vI x :: st) μ := fun H locs la hP hS hl hμ hL hs =>
  lv_if_lt C.1 C.2.1 dg ht (fun h => k1 ((zi_lt hs.hd (show rng 0 by decide)).mp h) H locs la hP hS hl hμ hL hs.tl) (fun h => k2 (fun e => h ((zi_lt hs.hd (show rng 0 by decide)).mpr e)) H locs la hP hS hl hμ hL hs.tl)
theorem p_icmp_ge (C : okX K X cc own nL d ret) {x y off : Int} {tgt : Nat} (dg : decode cc pc = .ok (.if_icmp .ge off, 3)) (ht : (pc : Int) + off = (tgt : Int)) (k1 : y ≤ x → PW K X nL Q tgt ls st μ) (k2 : ¬ y ≤ x → PW K X nL Q (pc + 3) ls st μ) : PW K X nL Q pc ls (vI y :: vI x :: st) μ := fun H locs la hP hS hl hμ hL hs =>
  lv_icmp_ge C.1 C.2.1 dg ht (fun h => k1 ((zi_le hs.hd hs.tl.hd).mp h) H locs la hP hS hl hμ hL hs.tl.tl) (fun h => k2 (fun e => h ((zi_le hs.hd hs.tl.hd).mpr e)) H locs la hP hS hl hμ hL hs.tl.tl)
theorem p_if_ge (C : okX K X cc own nL d ret) {x off : Int} {tgt : Nat} (dg : decode cc pc = .ok (.ifCond .ge off, 3)) (ht : (pc : Int) + off = (tgt : Int)) (k1 : 0 ≤ x → PW K X nL Q tgt ls st μ) (k2 : ¬ 0 ≤ x → PW K X nL Q (pc + 3) ls st μ) : PW K X nL Q pc ls (vI x :: st) μ := fun H locs la hP hS hl hμ hL hs =>
  lv_if_ge C.1 C.2.1 dg ht (fun h => k1 ((zi_le (show rng 0 by decide) hs.hd).mp h) H locs la hP hS hl hμ hL hs.tl) (fun h => k2 (fun e => h ((zi_le (show rng 0 by decide) hs.hd).mpr e)) H locs la hP hS hl hμ hL hs.tl)
theorem p_icmp_gt (C : okX K X cc own nL d ret) {x y off : Int} {tgt : Nat} (dg : decode cc pc = .ok (.if_icmp .gt off, 3)) (ht : (pc : Int) + off = (tgt : Int)) (k1 : y < x → PW K X nL Q tgt ls st μ) (k2 : ¬ y < x → PW K X nL Q (pc + 3) ls st μ) : PW K X nL Q pc ls (vI y :: vI x :: st) μ := fun H locs la hP hS hl hμ hL hs =>
  lv_icmp_gt C.1 C.2.1 dg ht (fun h => k1 ((zi_lt hs.hd hs.tl.hd).mp h) H locs la hP hS hl hμ hL hs.tl.tl) (fun h => k2 (fun e => h ((zi_lt hs.hd hs.tl.hd).mpr e)) H locs la hP hS hl hμ hL hs.tl.tl)
theorem p_if_gt (C : okX K X cc own nL d ret) {x off : Int} {tgt : Nat} (dg : decode cc pc = .ok (.ifCond .gt off, 3)) (ht : (pc : Int) + off = (tgt : Int)) (k1 : 0 < x → PW K X nL Q tgt ls st μ) (k2 : ¬ 0 < x → PW K X nL Q (pc + 3) ls st μ) : PW K X nL Q pc ls (vI x :: st) μ := fun H locs la hP hS hl hμ hL hs =>
  lv_if_gt C.1 C.2.1 dg ht (fun h => k1 ((zi_lt (show rng 0 by decide) hs.hd).mp h) H locs la hP hS hl hμ hL hs.tl) (fun h => k2 (fun e => h ((zi_lt (show rng 0 by decide) hs.hd).mpr e)) H locs la hP hS hl hμ hL hs.tl)
theorem p_icmp_le (C : okX K X cc own nL d ret) {x y off : Int} {tgt : Nat} (dg : decode cc pc = .ok (.if_icmp .le off, 3)) (ht : (pc : Int) + off = (tgt : Int)) (k1 : x ≤ y → PW K X nL Q tgt ls st μ) (k2 : ¬ x ≤ y → PW K X nL Q (pc + 3) ls st μ) : PW K X nL Q pc ls (vI y :: vI x :: st) μ := fun H locs la hP hS hl hμ hL hs =>
  lv_icmp_le C.1 C.2.1 dg ht (fun h => k1 ((zi_le hs.tl.hd hs.hd).mp h) H locs la hP hS hl hμ hL hs.tl.tl) (fun h => k2 (fun e => h ((zi_le hs.tl.hd hs.hd).mpr e)) H locs la hP hS hl hμ hL hs.tl.tl)
theorem p_if_le (C : okX K X cc own nL d ret) {x off : Int} {tgt : Nat} (dg : decode cc pc = .ok (.ifCond .le off, 3)) (ht : (pc : Int) + off = (tgt : Int)) (k1 : x ≤ 0 → PW K X nL Q tgt ls st μ) (k2 : ¬ x ≤ 0 → PW K X nL Q (pc + 3) ls st μ) : PW K X nL Q pc ls (vI x :: st) μ := fun H locs la hP hS hl hμ hL hs =>
  lv_if_le C.1 C.2.1 dg ht (fun h => k1 ((zi_le hs.hd (show rng 0 by decide)).mp h) H locs la hP hS hl hμ hL hs.tl) (fun h => k2 (fun e => h ((zi_le hs.hd (show rng 0 by decide)).mpr e)) H locs la hP hS hl hμ hL hs.tl)
theorem p_tout (C : okX K X cc own nL d ret) {dflt lo hi : Int} {offs : Array Int} {len : Nat} {x : Int} {tgt : Nat} (dg : decode cc pc = .ok (.tableswitch dflt lo hi offs, len)) (h : x < lo ∨ hi < x) (ht : (pc : Int) + dflt = (tgt : Int)) (k : PW K X nL Q tgt ls st μ) : PW K X nL Q pc ls (vI x :: st) μ := fun H locs la hP hS hl hμ hL hs =>
  lv_tableOut C.1 C.2.1 dg (by rw [zi hs.hd]; exact h) ht (k H locs la hP hS hl hμ hL hs.tl)
theorem p_tin (C : okX K X cc own nL d ret) {dflt lo hi : Int} {offs : Array Int} {len : Nat} {x off : Int} {tgt : Nat} (dg : decode cc pc = .ok (.tableswitch dflt lo hi offs, len)) (h1 : ¬ x < lo) (h2 : ¬ hi < x) (ho : offs[(x - lo).toNat]? = some off) (ht : (pc : Int) + off = (tgt : Int)) (k : PW K X nL Q tgt ls st μ) : PW K X nL Q pc ls (vI x :: st) μ := fun H locs la hP hS hl hμ hL hs =>
  lv_tableIn C.1 C.2.1 dg (by rw [zi hs.hd]; exact h1) (by rw [zi hs.hd]; exact h2) (by rw [zi hs.hd]; exact ho) ht (k H locs la hP hS hl hμ hL hs.tl)
theorem p_look (C : okX K X cc own nL d ret) {dflt : Int} {ps : Array (Int × Int)} {len : Nat} {x off : Int} {tgt : Nat} (dg : decode cc pc = .ok (.lookupswitch dflt ps, len)) (hp : (ps.toList.zip (ps.toList.drop 1)).all (fun (a, next) => a.1 < next.1) = true) (ho : Op.lookupswitch.offset ps.toList dflt x = off) (ht : (pc : Int) + off = (tgt : Int)) (k : PW K X nL Q tgt ls st μ) : PW K X nL Q pc ls (vI x :: st) μ := fun H locs la hP hS hl hμ hL hs =>
  lv_lookup C.1 C.2.1 dg hp (by rw [zi hs.hd]; exact ho) ht (k H locs la hP hS hl hμ hL hs.tl)
-- longs
theorem p_lconst (C : okX K X cc own nL d ret) {n : Fin 2} (dg : decode cc pc = .ok (.lconst n, 1)) (k : PW K X nL Q (pc + 1) ls (vL ((n : Nat) : Int) :: st) μ) : PW K X nL Q pc ls st μ := fun H locs la hP hS hl hμ hL hs =>
  lv_lconst C.1 C.2.1 dg rfl (k H locs la hP hS hl hμ hL (hs.cons (by show rnL _; have := n.2; constructor <;> omega)))
theorem p_i2l (C : okX K X cc own nL d ret) {x : Int} (dg : decode cc pc = .ok (.i2l, 1)) (k : PW K X nL Q (pc + 1) ls (vL x :: st) μ) : PW K X nL Q pc ls (vI x :: st) μ := fun H locs la hP hS hl hμ hL hs => by
  have rx : rng x := hs.hd
  have rl : rnL x := ⟨by omega, by omega⟩
  exact lv_i2l C.1 C.2.1 dg (by rw [← Int64.toInt_inj, Int32.toInt_toInt64, zi rx, zl rl]) (k H locs la hP hS hl hμ hL (hs.tl.cons rl))
theorem ldivz {x y : Int} (hx : 0 ≤ x) (hy : 0 < y) (rx : rnL x) (ry : rnL y) : Int64.ofInt x / Int64.ofInt y = Int64.ofInt (x / y) := by
  have h1 : x.tdiv y = x / y := Int.tdiv_eq_ediv_of_nonneg hx
  have h2 : 0 ≤ x / y := Int.ediv_nonneg hx (Int.le_of_lt hy)
  have h3 : x / y ≤ x := Int.ediv_le_self _ hx
  rw [← Int64.toInt_inj, Int64.toInt_div, zl rx, zl ry, h1, zl ⟨by omega, by omega⟩]
  exact Int.bmod_eq_of_le (by omega) (by omega)
theorem zl_eq {x y : Int} (hx : rnL x) (hy : rnL y) : Int64.ofInt x = Int64.ofInt y ↔ x = y := by rw [← Int64.toInt_inj, zl hx, zl hy]
theorem p_ldiv (C : okX K X cc own nL d ret) {x y : Int} (dg : decode cc pc = .ok (.ldiv, 1)) (hx : 0 ≤ x) (hy : 0 < y) (k : PW K X nL Q (pc + 1) ls (vL (x / y) :: st) μ) : PW K X nL Q pc ls (vL y :: vL x :: st) μ := fun H locs la hP hS hl hμ hL hs => by
  have rx : rnL x := hs.tl.hd
  have ry : rnL y := hs.hd
  have h3 : x / y ≤ x := Int.ediv_le_self _ hx
  have h2 : 0 ≤ x / y := Int.ediv_nonneg hx (Int.le_of_lt hy)
  refine lv_ldiv C.1 C.2.1 dg (fun h => ?_) ?_
  · rw [show (0 : Int64) = Int64.ofInt 0 from rfl, zl_eq ry (by decide)] at h; omega
  · rw [ldivz hx hy rx ry]
    exact k H locs la hP hS hl hμ hL (hs.tl.tl.cons (show okV (vL _) from ⟨by omega, by omega⟩))
theorem p_lrem (C : okX K X cc own nL d ret) {x y : Int} (dg : decode cc pc = .ok (.lrem, 1)) (hx : 0 ≤ x) (hy : 0 < y) (k : PW K X nL Q (pc + 1) ls (vL (x % y) :: st) μ) : PW K X nL Q pc ls (vL y :: vL x :: st) μ := fun H locs la hP hS hl hμ hL hs => by
  have rx : rnL x := hs.tl.hd
  have ry : rnL y := hs.hd
  have h3 : x % y < y := Int.emod_lt_of_pos _ hy
  have h2 : 0 ≤ x % y := Int.emod_nonneg _ (by omega)
  refine lv_lrem C.1 C.2.1 dg (fun h => ?_) ?_
  · rw [show (0 : Int64) = Int64.ofInt 0 from rfl, zl_eq ry (by decide)] at h; omega
  · have e : Int64.ofInt x - Int64.ofInt x / Int64.ofInt y * Int64.ofInt y = Int64.ofInt (x % y) := by
      rw [ldivz hx hy rx ry, ← Int64.ofInt_mul, ← Int64.ofInt_sub]
      congr 1
      have := Int.emod_add_mul_ediv x y
      rw [Int.mul_comm] at this
      omega
    rw [e]
    exact k H locs la hP hS hl hμ hL (hs.tl.tl.cons (show okV (vL _) from ⟨by omega, by omega⟩))
/-- the long compare: -1, 0, 1 -/
def lcp (x y : Int) : Int := (lg_cmp (Int64.ofInt x) (Int64.ofInt y)).toInt
theorem p_lcmp (C : okX K X cc own nL d ret) {x y : Int} (dg : decode cc pc = .ok (.lcmp, 1)) (k : PW K X nL Q (pc + 1) ls (vI (lcp x y) :: st) μ) : PW K X nL Q pc ls (vL y :: vL x :: st) μ := fun H locs la hP hS hl hμ hL hs => by
  refine W.lcmp C.1 C.2.1 dg ?_
  have h := k H locs la hP hS hl hμ hL (hs.tl.tl.cons (show okV (vI _) from rng_i _))
  simp only [List.map_cons, eV, lcp, Int32.ofInt_toInt] at h
  exact h
theorem p_ldc (C : okX K X cc own nL d ret) {idx : Nat} {v : Int32} (hw : Cond.constant own idx v ∈ GW) (dg : decode cc pc = .ok (.ldc idx, 2)) (k : PW K X nL Q (pc + 2) ls (vI v.toInt :: st) μ) : PW K X nL Q pc ls st μ := fun H locs la hP hS hl hμ hL hs => by
  refine lv_ldc C.1 C.2.1 C.2.2.2.1 (C.2.2.2.2.1 _ hw) dg ?_
  have h := k H locs la hP hS hl hμ hL (hs.cons (show okV (vI _) from rng_i _))
  simp only [List.map_cons, eV, Int32.ofInt_toInt] at h
  exact h
theorem p_ldcw (C : okX K X cc own nL d ret) {idx : Nat} {v : Int32} (hw : Cond.constant own idx v ∈ GW) (dg : decode cc pc = .ok (.ldc_w idx, 3)) (k : PW K X nL Q (pc + 3) ls (vI v.toInt :: st) μ) : PW K X nL Q pc ls st μ := fun H locs la hP hS hl hμ hL hs => by
  refine lv_ldcw C.1 C.2.1 C.2.2.2.1 (C.2.2.2.2.1 _ hw) dg ?_
  have h := k H locs la hP hS hl hμ hL (hs.cons (show okV (vI _) from rng_i _))
  simp only [List.map_cons, eV, Int32.ofInt_toInt] at h
  exact h
theorem p_ldc2 (C : okX K X cc own nL d ret) {idx : Nat} {v : Int64} (hw : Cond.constantLong own idx v ∈ GW) (dg : decode cc pc = .ok (.ldc2_w idx, 3)) (k : PW K X nL Q (pc + 3) ls (vL v.toInt :: st) μ) : PW K X nL Q pc ls st μ := fun H locs la hP hS hl hμ hL hs => by
  refine lv_ldc2 C.1 C.2.1 C.2.2.2.1 (C.2.2.2.2.1 _ hw) dg ?_
  have h := k H locs la hP hS hl hμ hL (hs.cons (show okV (vL _) from rng_l _))
  simp only [List.map_cons, eV, Int64.ofInt_toInt] at h
  exact h
end PMROWS
