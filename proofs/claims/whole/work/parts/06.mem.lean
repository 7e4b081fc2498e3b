/-! ROWS of the pure machine: memory, ends, calls -/
theorem cls_in (ci : Nat) (q : vw_C) (h : classes[ci]? = some q) : ∀ w ∈ u_ws q.1 q.2.1 q.2.2, w ∈ GW := by
  match ci, h with
  | 0, h => cases h; decide +kernel
  | 1, h => cases h; decide +kernel
  | 2, h => cases h; decide +kernel
  | 3, h => cases h; decide +kernel
  | 4, h => cases h; decide +kernel
  | 5, h => cases h; decide +kernel
  | k + 6, h => simp [classes] at h
theorem cls_ty (ci : Nat) (q : vw_C) (h : classes[ci]? = some q) : ∃ ty0 : Nat → FieldType, (∀ k, k < q.2.2 → parseFieldDescriptor (q.2.1 k).2.2.1 = some (ty0 k)) ∧ ∀ a, a < q.2.2 → ∀ b, b < q.2.2 → a ≠ b → (q.2.1 a).2.1 ≠ (q.2.1 b).2.1 := by
  match ci, h with
  | 0, h => cases h; exact ⟨tyX0, tyX0_ok, nmX0⟩
  | 1, h => cases h; exact ⟨tyX1, tyX1_ok, nmX1⟩
  | 2, h => cases h; exact ⟨tyX2, tyX2_ok, nmX2⟩
  | 3, h => cases h; exact ⟨tyX3, tyX3_ok, nmX3⟩
  | 4, h => cases h; exact ⟨tyX4, tyX4_ok, nmX4⟩
  | 5, h => cases h; exact ⟨tyX5, tyX5_ok, nmX5⟩
  | k + 6, h => simp [classes] at h
/-- a field by its link: class ci, place k -/
def FL (own : String) (idx ci k : Nat) : Prop := ∃ q : vw_C, classes[ci]? = some q ∧ k < q.2.2 ∧ Cond.fieldLink own idx (q.2.1 k).1 (q.2.1 k).2.1 (q.2.1 k).2.2.1 ∈ GW
/-- one that may be written -/
def FP (own : String) (idx ci k : Nat) (ty : FieldType) : Prop := ∃ q : vw_C, classes[ci]? = some q ∧ k < q.2.2 ∧ Cond.fieldLink own idx (q.2.1 k).1 (q.2.1 k).2.1 (q.2.1 k).2.2.1 ∈ GW ∧ (q.2.1 k).2.2.2 = false ∧ parseFieldDescriptor (q.2.1 k).2.2.1 = some ty
section PMMEM
variable {K : KX} {X : CX} {nL d : Nat} {Q : State → Prop} {cc : ByteArray} {own : String} {ret : Option FieldType} {pc : Nat} {ls : List (Nat × PV)} {st : List PV} {μ : Int → ME}
theorem p_get (C : okX K X cc own nL d ret) {idx ci k : Nat} {a : Int} {fs : List PV} {v : PV} (F : FL own idx ci k) (dg : decode cc pc = .ok (.getfield idx, 3)) (ha : IR a) (hm : μ a = mO ci fs) (hv : fs[k]? = some v) (kk : PW K X nL Q (pc + 3) ls (v :: st) μ) : PW K X nL Q pc ls (vR a :: st) μ := fun H locs la hP hS hl hμ hL hs => by
  obtain ⟨q, hc, hk, hw⟩ := F
  have ho : okM (μ a) := hμ a ha.1 ha.2
  rw [hm] at ho
  refine va_get (C := q.1) (T := q.2.1) (N := q.2.2) (fs := fs.map (eV K)) (v := eV K v) C.1 C.2.1 C.2.2.2.2.1 (cls_in ci q hc) C.2.2.2.1 C.2.2.2.2.2.1.1 hP a.toNat ?_ hc k hk (C.2.2.2.2.1 _ hw) (fun _ h => h) ?_ dg ?_
  · rw [wld_at μ ha, hm]; rfl
  · rw [List.getElem?_map, hv]; rfl
  · exact kk H locs la hP hS hl hμ hL (hs.tl.cons (ho v (List.mem_of_getElem? hv)))
theorem p_putG (C : okX K X cc own nL d ret) {idx ci k : Nat} {a : Int} {fs : List PV} {v : PV} {ty : FieldType} (F : FP own idx ci k ty) (dg : decode cc pc = .ok (.putfield idx, 3)) (ha : IR a) (hm : μ a = mO ci fs) (hk : k < fs.length) (hn : narrow ty (eV K v) = eV K v) (hf : fits ty (eV K v) = true) (kk : PW K X nL Q (pc + 3) ls st (mup μ a (mO ci (fs.set k v)))) : PW K X nL Q pc ls (v :: vR a :: st) μ := fun H locs la hP hS hl hμ hL hs => by
  obtain ⟨q, hc, hk0, hw, hfin, hd⟩ := F
  obtain ⟨ty0, hty, hnm⟩ := cls_ty ci q hc
  have ho : okM (μ a) := hμ a ha.1 ha.2
  rw [hm] at ho
  refine va_put (C := q.1) (T := q.2.1) (N := q.2.2) (fs := fs.map (eV K)) (v := eV K v) (A := reg K) C.1 C.2.1 C.2.2.2.2.1 (cls_in ci q hc) ty0 hty hnm C.2.2.2.1 C.2.2.2.2.2.1.1 hP (wld_D K μ) hS a.toNat (a := kad K a) ?_ hc k hk0 (C.2.2.2.2.1 _ hw) (fun _ h => h) hfin hd hn hf (by rw [List.length_map]; exact hk) dg ?_
  · rw [wld_at μ ha, hm]; rfl
  · intro H1 locs1 h1 _ h3
    have e : (List.map (eV K) fs).set k (eV K v) = (fs.set k v).map (eV K) := List.map_set.symm
    rw [e, show (Sum.inr (ci, List.map (eV K) (fs.set k v)) : va_E) = eM K (mO ci (fs.set k v)) from rfl, wld_set ha] at h1
    refine kk H1 locs1 la h1 h3 hl (okU_mup hμ ?_) hL hs.tl.tl
    intro w hw
    rcases List.mem_or_eq_of_mem_set hw with h | h
    · exact ho w h
    · rw [h]; exact hs.hd
theorem p_put (C : okX K X cc own nL d ret) {idx ci k : Nat} {a z : Int} {fs : List PV} (F : FP own idx ci k .int) (dg : decode cc pc = .ok (.putfield idx, 3)) (ha : IR a) (hm : μ a = mO ci fs) (hk : k < fs.length) (kk : PW K X nL Q (pc + 3) ls st (mup μ a (mO ci (fs.set k (vI z))))) : PW K X nL Q pc ls (vI z :: vR a :: st) μ :=
  p_putG C F dg ha hm hk rfl rfl kk
theorem p_putZ (C : okX K X cc own nL d ret) {idx ci k : Nat} {a z : Int} {fs : List PV} (F : FP own idx ci k .boolean) (dg : decode cc pc = .ok (.putfield idx, 3)) (ha : IR a) (hm : μ a = mO ci fs) (hk : k < fs.length) (hz : z = 0 ∨ z = 1) (kk : PW K X nL Q (pc + 3) ls st (mup μ a (mO ci (fs.set k (vI z))))) : PW K X nL Q pc ls (vI z :: vR a :: st) μ := by
  refine p_putG C F dg ha hm hk ?_ ?_ kk
  · rcases hz with rfl | rfl <;> rfl
  · rcases hz with rfl | rfl <;> rfl
theorem p_iald (C : okX K X cc own nL d ret) {a i : Int} {n : Nat} {f : Int → Int} (dg : decode cc pc = .ok (.iaload, 1)) (ha : IR a) (hm : μ a = mA n f) (hi : 0 ≤ i ∧ i < (n : Int)) (kk : PW K X nL Q (pc + 1) ls (vI (f i) :: st) μ) : PW K X nL Q pc ls (vI i :: vR a :: st) μ := fun H locs la hP hS hl hμ hL hs => by
  have ho : okM (μ a) := hμ a ha.1 ha.2
  rw [hm] at ho
  have ri : rng i := hs.hd
  refine va_iald (n := n) (f := fun j => Int32.ofInt (f (j : Int))) (cA := K.2.2.1 0) C.1 C.2.1 C.2.2.2.2.2.1.1 hP a.toNat 0 ?_ rfl (zi_in hi.1 hi.2 ri) dg ?_
  · rw [wld_at μ ha, hm]; rfl
  · rw [zi_cl ri, show ((i.toNat : Nat) : Int) = i by omega]
    exact kk H locs la hP hS hl hμ hL (hs.tl.tl.cons (show okV (vI (f i)) from ho.1 i hi.1 hi.2))
theorem p_iast (C : okX K X cc own nL d ret) {a i z : Int} {n : Nat} {f : Int → Int} (dg : decode cc pc = .ok (.iastore, 1)) (ha : IR a) (hm : μ a = mA n f) (hi : 0 ≤ i ∧ i < (n : Int)) (kk : PW K X nL Q (pc + 1) ls st (mup μ a (mA n (fup f i z)))) : PW K X nL Q pc ls (vI z :: vI i :: vR a :: st) μ := fun H locs la hP hS hl hμ hL hs => by
  have ho : okM (μ a) := hμ a ha.1 ha.2
  rw [hm] at ho
  have ri : rng i := hs.tl.hd
  have rz : rng z := hs.hd
  refine va_iast (n := n) (f := fun j => Int32.ofInt (f (j : Int))) (cA := K.2.2.1 0) (A := reg K) C.1 C.2.1 C.2.2.2.2.2.1.1 hP (wld_D K μ) hS a.toNat 0 (a := kad K a) ?_ rfl (zi_in hi.1 hi.2 ri) dg ?_
  · rw [wld_at μ ha, hm]; rfl
  · intro H1 locs1 h1 _ h3
    have e : upd (fun j : Nat => Int32.ofInt (f (j : Int))) (Int32.ofInt i).toNatClampNeg (Int32.ofInt z) = fun j : Nat => Int32.ofInt (fup f i z (j : Int)) := by
      funext j
      rw [zi_cl ri]
      unfold upd fup
      by_cases h : j = i.toNat
      · rw [if_pos h, if_pos (by omega)]
      · rw [if_neg h, if_neg (by omega)]
    rw [e, show (Sum.inl (K.2.2.1 0, n, Sum.inl fun j : Nat => Int32.ofInt (fup f i z (j : Int))) : va_E) = eM K (mA n (fup f i z)) from rfl, wld_set ha] at h1
    refine kk H1 locs1 la h1 h3 hl (okU_mup hμ ?_) hL hs.tl.tl.tl
    refine ⟨fun j j0 j1 => ?_, fun j hj => ?_⟩
    · show rng (fup f i z j)
      unfold fup
      split
      · exact rz
      · exact ho.1 j j0 j1
    · show fup f i z j = 0
      have hj' : j < 0 ∨ (n : Int) ≤ j := hj
      rw [fup_n _ _ _ (by omega)]
      exact ho.2 j hj
theorem p_aald (C : okX K X cc own nL d ret) {a i : Int} {t n : Nat} {f : Int → Option Int} {r : Int} (dg : decode cc pc = .ok (.aaload, 1)) (ha : IR a) (hm : μ a = mR t n f) (ht : t < 2) (hi : 0 ≤ i ∧ i < (n : Int)) (hr : f i = some r) (kk : PW K X nL Q (pc + 1) ls (vR r :: st) μ) : PW K X nL Q pc ls (vI i :: vR a :: st) μ := fun H locs la hP hS hl hμ hL hs => by
  have ri : rng i := hs.hd
  have e1 : ((i.toNat : Nat) : Int) = i := by omega
  have hk := kk H locs la hP hS hl hμ hL (hs.tl.tl.cons (show okV (vR r) from trivial))
  have hw : (wld K μ)[a.toNat]? = some (kad K a, .inl (K.2.2.1 (t + 1), n, .inr (.inr (.inr (.inr (fun j : Nat => (f (j : Int)).map (kad K))))))) := by rw [wld_at μ ha, hm]; rfl
  match t, ht with
  | 0, _ =>
    refine va_aldq (C := RX1) (n := n) (f := fun j : Nat => (f (j : Int)).map (kad K)) (cA := K.2.2.1 1) C.1 C.2.1 C.2.2.2.2.2.1.1 hP a.toNat 1 hw rfl (zi_in hi.1 hi.2 ri) dg ?_
    rw [zi_cl ri, e1, hr]
    exact hk
  | 1, _ =>
    refine va_aldq (C := RX0) (n := n) (f := fun j : Nat => (f (j : Int)).map (kad K)) (cA := K.2.2.1 2) C.1 C.2.1 C.2.2.2.2.2.1.1 hP a.toNat 2 hw rfl (zi_in hi.1 hi.2 ri) dg ?_
    rw [zi_cl ri, e1, hr]
    exact hk
-- ends
theorem Qct_of {Post : Option PV → (Int → ME) → Prop} {H : Heap} {locs : List Loc} {s t : State} {A : Array Value} {v : Option PV} (hP : va_P K.2.1 classes (wld K μ) H) (hS : va_S (reg K) s.heap H locs) (hK : KW K s) (hμ : okU K μ) (hv : okS v.toList) (h : Post v μ) (ht : t.heap = H) (hW : s.WarmedH t.vm) : Qct K Post A s (.returned (v.map (eV K))) t :=
  ⟨⟨v, μ, rfl, h, hμ, hv, by rw [ht]; exact hP, hK.warm hW⟩, hS.F ht⟩
theorem p_iret {Post : Option PV → (Int → ME) → Prop} (C : okX K X cc own nL d (some .int)) {z : Int} (dg : decode cc pc = .ok (.ireturn, 1)) (h : Post (some (vI z)) μ) : PW K X nL (QM K X Post) pc ls [vI z] μ := fun H locs la hP hS hl hμ hL hs =>
  W.iret (hlocks := C.2.2.2.2.2.2.1) C.1 C.2.1 C.2.2.2.2.2.2.2.1 (fun t ht hW => Qct_of (v := some (vI z)) hP hS C.2.2.2.2.2.1 hμ hs h ht hW) hS.2.2 dg
theorem p_zret {Post : Option PV → (Int → ME) → Prop} (C : okX K X cc own nL d (some .boolean)) {z : Int} (dg : decode cc pc = .ok (.ireturn, 1)) (hz : z = 0 ∨ z = 1) (h : Post (some (vI z)) μ) : PW K X nL (QM K X Post) pc ls [vI z] μ := fun H locs la hP hS hl hμ hL hs =>
  W.zret (hlocks := C.2.2.2.2.2.2.1) C.1 C.2.1 C.2.2.2.2.2.2.2.1 (by rcases hz with rfl | rfl <;> rfl) (fun t ht hW => Qct_of (v := some (vI z)) hP hS C.2.2.2.2.2.1 hμ hs h ht hW) hS.2.2 dg
theorem p_lret {Post : Option PV → (Int → ME) → Prop} (C : okX K X cc own nL d (some .long)) {z : Int} (dg : decode cc pc = .ok (.lreturn, 1)) (h : Post (some (vL z)) μ) : PW K X nL (QM K X Post) pc ls [vL z] μ := fun H locs la hP hS hl hμ hL hs =>
  W.lret (hlocks := C.2.2.2.2.2.2.1) C.1 C.2.1 C.2.2.2.2.2.2.2.1 (fun t ht hW => Qct_of (v := some (vL z)) hP hS C.2.2.2.2.2.1 hμ hs h ht hW) hS.2.2 dg
theorem p_vret {Post : Option PV → (Int → ME) → Prop} (C : okX K X cc own nL d none) (dg : decode cc pc = .ok (.return_, 1)) (h : Post none μ) : PW K X nL (QM K X Post) pc ls [] μ := fun H locs la hP hS hl hμ hL hs =>
  W.vret (hlocks := C.2.2.2.2.2.2.1) C.1 C.2.1 C.2.2.2.2.2.2.2.1 (fun t ht hW => Qct_of (v := none) hP hS C.2.2.2.2.2.1 hμ hs h ht hW) hS.2.2 dg
-- begin
theorem Ct.of {y : MethodName} {bytes : ByteArray} {maxL : Nat} {av : List PV} {Post : Option PV → (Int → ME) → Prop} (hy : plainName y.cls = true) (hlen : (lg_sl (av.map (eV K))).length ≤ maxL) (body : ∀ X : CX, okX K X bytes y.cls maxL d ret → PW K X maxL (QM K X Post) 0 (argl 0 av) [] μ) : Ct K d y bytes maxL ret av μ Post := by
  intro hμ hav
  refine Met.ofW (cc := bytes) (maxL := maxL) (ret := ret) hy rfl ?_
  intro p e s m args below meth c s₁ B hml hv
  obtain ⟨rfl, hP, hK⟩ := hv
  have hts := atoms_spec (ws := Cond.code y bytes maxL ret :: GW) B.pre
  have hl := lv_entry (av.map (eV K)) (n := maxL) hlen
  rw [argl_map] at hl
  have hb := body (p, e, rmd d, s, m, (av.map (eV K)).toArray, below, meth, c, 0, 0) ⟨B.exec, B.bytes, hml, findClass_of_methodNamed B.named, fun w hw => hts w (List.mem_cons_of_mem _ hw), hK, B.notSynchronized, B.returns, ⟨Nat.le_refl _, Nat.le_refl _⟩, Nat.le_refl _, Nat.le_refl _⟩
  rw [lg_entry_eq]
  exact hb s.heap [] _ hP va_S.rf hl hμ (okL_argl hav) okS.nil
-- calls
/-- behind a run of the callee -/
theorem p_after {Post : Option PV → (Int → ME) → Prop} {A : Array Value} {rest : List PV} {H : Heap} {locs : List Loc} {la : Array Slot} {st0 : List Value} (C : okX K X cc own nL d ret)
    (hr : va_Run X.1 K.1 X.2.1 X.2.2.1 X.2.2.2.1 X.2.2.2.2.1 X.2.2.2.2.2.1 X.2.2.2.2.2.2.1 X.2.2.2.2.2.2.2.1 X.2.2.2.2.2.2.2.2.1 H locs X.2.2.2.2.2.2.2.2.2.1 X.2.2.2.2.2.2.2.2.2.2 0 0 (F0 X.2.2.2.2.1 pc la st0) (rest.map (eV K)) (Qct K Post A) (reg K))
    (hS : va_S (reg K) X.2.2.2.1.heap H locs) (hl : lv_has la nL (ls.map (eL K))) (hL : okL ls) (hs : okS rest)
    (kk : ∀ (r : Option PV) (μ' : Int → ME), Post r μ' → PW K X nL Q (pc + 3) ls (r.toList ++ rest) μ') :
    W X.1 K.1 X.2.1 X.2.2.1 X.2.2.2.1 X.2.2.2.2.1 X.2.2.2.2.2.1 X.2.2.2.2.2.2.1 X.2.2.2.2.2.2.2.1 X.2.2.2.2.2.2.2.2.1 H locs X.2.2.2.2.2.2.2.2.2.1 X.2.2.2.2.2.2.2.2.2.2 Q (F0 X.2.2.2.2.1 pc la st0) := by
  intro T hT X0
  obtain ⟨v, st₀, t, T', L, h0, X', hLo, e1, e2, ⟨⟨r, μ', hv, hp, hμ', hr', hP', hK'⟩, hz, hk⟩, stp⟩ := hr T hT X0
  have hv : v = r.map (eV K) := by cases hv; rfl
  subst hv
  rw [h0] at hz hk
  have hS' : va_S (reg K) X.2.2.2.1.heap T'.heap (locs ++ L) := ⟨Nat.le_trans hS.1 (by rw [e1]; exact hz), fun q h1 h2 => by rw [e1, hk q (Nat.lt_of_lt_of_le h1 hS.1) h2]; exact hS.2.1 q h1 h2, fun q hq => by
      rcases List.mem_append.mp hq with h | h
      · exact hS.2.2 q h
      · exact hLo q h⟩
  obtain ⟨t2, a1, b1⟩ := kk r μ' hp T'.heap (locs ++ L) la (by rw [e1]; exact hP') hS' hl hμ' hL (hr'.app hs) T' rfl X'
  refine ⟨t2, stp t2 ?_, b1⟩
  have e : List.map (eV K) (r.toList ++ rest) = (r.map (eV K)).toList ++ rest.map (eV K) := by
    rw [List.map_append]; cases r <;> rfl
  rw [e] at a1
  exact a1
theorem Pct_blind (av : List PV) : FrameBlind (Pct K av μ) := fun a U g mk h => ⟨h.1, h.2.1, va_K.moved (u := U) (U := U.calling g mk a) (Vm.Alike.refl U.vm) h.2.2.1, h.2.2.2.same (U := U.calling g mk a) rfl⟩
theorem cat_sum (K : KX) (rest : List PV) : ((rest.map (eV K)).map fun v => v.category).sum = (rest.map fun v => if isL v = true then 2 else 1).sum := by
  rw [List.map_map]
  congr 1
  apply List.map_congr_left
  intro v _
  exact cat_eV K v
def LnkV (own : String) (idx : Nat) (y : MethodName) (bytes : ByteArray) (maxL : Nat) (ret : Option FieldType) (n : Nat) : Prop :=
  (Cond.methodLink own idx y ∈ GW ∧ Cond.instanceMethod y ∈ GW ∧ Cond.selects y.cls y y ∈ GW ∧ Cond.initialized y.cls ∈ GW ∧ Cond.code y bytes maxL ret ∈ GW) ∧ maxL ≤ 12 ∧ (y.cls ≠ "java/lang/invoke/MethodHandle" ∧ y.cls ≠ "java/lang/invoke/VarHandle" ∧ (parseMethodDescriptor y.desc).map (fun d => d.parameters.length) = some n)
def LnkS (own : String) (idx : Nat) (y : MethodName) (bytes : ByteArray) (maxL : Nat) (ret : Option FieldType) (n : Nat) : Prop :=
  (Cond.methodLink own idx y ∈ GW ∧ Cond.static y ∈ GW ∧ Cond.initialized y.cls ∈ GW ∧ Cond.code y bytes maxL ret ∈ GW) ∧ maxL ≤ 12 ∧ (y.cls ≠ "java/lang/invoke/MethodHandle" ∧ y.cls ≠ "java/lang/invoke/VarHandle" ∧ (parseMethodDescriptor y.desc).map (fun d => d.parameters.length) = some n)
def LnkN (own : String) (idx : Nat) (y : MethodName) (host : String) (bytes : ByteArray) (maxL : Nat) (ret : Option FieldType) (n : Nat) : Prop :=
  ((own, idx, y, host) ∈ nestW ∧ Cond.static y ∈ GW ∧ Cond.initialized y.cls ∈ GW ∧ Cond.code y bytes maxL ret ∈ GW) ∧ maxL ≤ 12 ∧ (y.cls ≠ "java/lang/invoke/MethodHandle" ∧ y.cls ≠ "java/lang/invoke/VarHandle" ∧ (parseMethodDescriptor y.desc).map (fun d => d.parameters.length) = some n)
theorem p_callV (C : okX K X cc own nL (d + 1) ret) {idx n maxL : Nat} {y : MethodName} {bytes : ByteArray} {retc : Option FieldType} {Post : Option PV → (Int → ME) → Prop} {av rest : List PV} {a : Int} {ci : Nat} {fs : List PV} {q : vw_C} (L : LnkV own idx y bytes maxL retc n) (dg : decode cc pc = .ok (.invokevirtual idx, 3)) (hM : Ct K d y bytes maxL retc (vR a :: av) μ Post) (ha : IR a) (hm : μ a = mO ci fs) (hc : classes[ci]? = some q) (hq : q.1 = y.cls) (hn : av.length = n) (hst : st = av.reverse ++ vR a :: rest) (hsz : (rest.map fun v => if isL v = true then 2 else 1).sum ≤ 8)
    (kk : ∀ (r : Option PV) (μ' : Int → ME), Post r μ' → PW K X nL Q (pc + 3) ls (r.toList ++ rest) μ') : PW K X nL Q pc ls st μ := fun H locs la hP hS hl hμ hL hs => by
  subst hst
  obtain ⟨hx, hb, hml, hown, hts, hK, -, -, ⟨hf1, hf2⟩, hcl, hsl⟩ := id C
  obtain ⟨⟨w1, w2, w3, w4, w5⟩, hmx, hd⟩ := L
  have hsr : okS rest := fun v hv => hs v (List.mem_append_right _ (List.mem_cons_of_mem _ hv))
  have hsa : okS (vR a :: av) := (show okS av from fun v hv => hs v (List.mem_append_left _ (List.mem_reverse.mpr hv))).cons trivial
  have hg : GoodIn GW (wsV own idx y.cls y (Cond.code y bytes maxL retc :: GW)) := fun w hw => by
    rcases List.mem_append.mp hw with h | h
    · simp only [List.mem_cons, List.not_mem_nil, or_false] at h
      rcases h with rfl | rfl | rfl | rfl
      · exact ⟨w1, good_of_word (GW_good _ w1)⟩
      · exact ⟨w2, good_of_word (GW_good _ w2)⟩
      · exact ⟨w3, good_of_word (GW_good _ w3)⟩
      · exact ⟨w4, good_of_word (GW_good _ w4)⟩
    · exact GW_in w5 w h
  obtain ⟨cell, c1, c2, c3⟩ := va_recv (a := kad K a) (q0 := a.toNat) (ci := ci) (fs := fs.map (eV K)) hK.1 hP hc (by rw [wld_at μ ha, hm]; rfl)
  have hrun := va_runV (cells := X.2.2.2.2.2.2.2.2.2.1) (slots := X.2.2.2.2.2.2.2.2.2.2) (below := X.2.2.2.2.2.2.1) (meth := X.2.2.2.2.2.2.2.1) (e := X.2.1) (R := X.2.2.1) (locs := locs) (H := H) (n := n) (mc := 0) (ms := 0) (g := F0 X.2.2.2.2.1 pc la ((av.reverse ++ vR a :: rest).map (eV K))) (b := kad K a) (As := av.map (eV K)) (rest := rest.map (eV K)) ⟨hx, hb, hml, hown, hts⟩ (hM hμ hsa) (cwV n hts hg rfl rfl rfl ⟨rfl, hd⟩ ⟨hf1, by show 8 + (maxL + 11) + 31 * d ≤ _; omega⟩)
    ⟨Pct_blind _, ⟨cell, c1, c2, by rw [← hq]; exact c3⟩, fun U hU hW => ⟨rfl, by rw [hU]; exact hP, hK.warm hW⟩⟩ rfl (by rw [List.length_map]; exact hn) hl.1 (by simp only [List.map_append, List.map_reverse, List.map_cons]; rfl) (lv_room (by rw [cat_sum]; exact hsz)) dg ⟨hcl, hsl⟩
  exact p_after C hrun hS hl hL hsr kk
theorem p_callS (C : okX K X cc own nL (d + 1) ret) {idx n maxL : Nat} {y : MethodName} {bytes : ByteArray} {retc : Option FieldType} {Post : Option PV → (Int → ME) → Prop} {av rest : List PV} (L : LnkS own idx y bytes maxL retc n) (dg : decode cc pc = .ok (.invokestatic idx, 3)) (hM : Ct K d y bytes maxL retc av μ Post) (hn : av.length = n) (hst : st = av.reverse ++ rest) (hsz : (rest.map fun v => if isL v = true then 2 else 1).sum ≤ 8)
    (kk : ∀ (r : Option PV) (μ' : Int → ME), Post r μ' → PW K X nL Q (pc + 3) ls (r.toList ++ rest) μ') : PW K X nL Q pc ls st μ := fun H locs la hP hS hl hμ hL hs => by
  subst hst
  obtain ⟨hx, hb, hml, hown, hts, hK, -, -, ⟨hf1, hf2⟩, hcl, hsl⟩ := id C
  obtain ⟨⟨w1, w2, w4, w5⟩, hmx, hd⟩ := L
  have hsr : okS rest := fun v hv => hs v (List.mem_append_right _ hv)
  have hsa : okS av := fun v hv => hs v (List.mem_append_left _ (List.mem_reverse.mpr hv))
  have hg : GoodIn GW (va_wsS own idx y (Cond.code y bytes maxL retc :: GW)) := fun w hw => by
    rcases List.mem_append.mp hw with h | h
    · simp only [List.mem_cons, List.not_mem_nil, or_false] at h
      rcases h with rfl | rfl | rfl
      · exact ⟨w1, good_of_word (GW_good _ w1)⟩
      · exact ⟨w2, good_of_word (GW_good _ w2)⟩
      · exact ⟨w4, good_of_word (GW_good _ w4)⟩
    · exact GW_in w5 w h
  have hrun := va_runS (cells := X.2.2.2.2.2.2.2.2.2.1) (slots := X.2.2.2.2.2.2.2.2.2.2) (below := X.2.2.2.2.2.2.1) (meth := X.2.2.2.2.2.2.2.1) (e := X.2.1) (R := X.2.2.1) (locs := locs) (H := H) (n := n) (mc := 0) (ms := 0) (g := F0 X.2.2.2.2.1 pc la ((av.reverse ++ rest).map (eV K))) (As := av.map (eV K)) (rest := rest.map (eV K)) ⟨hx, hb, hml, hown, hts⟩ (hM hμ hsa) (va_cwS n hts hg rfl rfl rfl hd ⟨hf1, by show 8 + (maxL + 11) + 31 * d ≤ _; omega⟩)
    ⟨Pct_blind _, fun U hU hW => ⟨rfl, by rw [hU]; exact hP, hK.warm hW⟩⟩ rfl (by rw [List.length_map]; exact hn) hl.1 (by simp only [List.map_append, List.map_reverse]) (lv_room (by rw [cat_sum]; exact hsz)) dg ⟨hcl, hsl⟩
  exact p_after C hrun hS hl hL hsr kk
theorem p_callN (C : okX K X cc own nL (d + 1) ret) {idx n maxL : Nat} {y : MethodName} {host : String} {bytes : ByteArray} {retc : Option FieldType} {Post : Option PV → (Int → ME) → Prop} {av rest : List PV} (L : LnkN own idx y host bytes maxL retc n) (dg : decode cc pc = .ok (.invokestatic idx, 3)) (hM : Ct K d y bytes maxL retc av μ Post) (hn : av.length = n) (hst : st = av.reverse ++ rest) (hsz : (rest.map fun v => if isL v = true then 2 else 1).sum ≤ 8)
    (kk : ∀ (r : Option PV) (μ' : Int → ME), Post r μ' → PW K X nL Q (pc + 3) ls (r.toList ++ rest) μ') : PW K X nL Q pc ls st μ := fun H locs la hP hS hl hμ hL hs => by
  subst hst
  obtain ⟨hx, hb, hml, hown, hts, hK, -, -, ⟨hf1, hf2⟩, hcl, hsl⟩ := id C
  obtain ⟨⟨w1, w2, w4, w5⟩, hmx, hd⟩ := L
  have hsr : okS rest := fun v hv => hs v (List.mem_append_right _ hv)
  have hsa : okS av := fun v hv => hs v (List.mem_append_left _ (List.mem_reverse.mpr hv))
  have hrun := va_runSN (cells := X.2.2.2.2.2.2.2.2.2.1) (slots := X.2.2.2.2.2.2.2.2.2.2) (below := X.2.2.2.2.2.2.1) (meth := X.2.2.2.2.2.2.2.1) (e := X.2.1) (R := X.2.2.1) (locs := locs) (H := H) (n := n) (mc := 0) (ms := 0) (g := F0 X.2.2.2.2.1 pc la ((av.reverse ++ rest).map (eV K))) (As := av.map (eV K)) (rest := rest.map (eV K)) ⟨hx, hb, hml, hown, hts⟩ (hM hμ hsa) ⟨va_cnB (host := host) n hts (GW_in w5) rfl rfl rfl (hK.2 _ w1) (hts _ w4) hd ⟨hf1, by show 8 + (maxL + 11) + 31 * d ≤ _; omega⟩, hts _ w2, trivial⟩
    ⟨Pct_blind _, fun U hU hW => ⟨rfl, by rw [hU]; exact hP, hK.warm hW⟩⟩ rfl (by rw [List.length_map]; exact hn) hl.1 (by simp only [List.map_append, List.map_reverse]) (lv_room (by rw [cat_sum]; exact hsz)) dg ⟨hcl, hsl⟩
  exact p_after C hrun hS hl hL hsr kk
end PMMEM
