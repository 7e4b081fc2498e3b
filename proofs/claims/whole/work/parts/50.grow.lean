/-! THE GROWING MACHINE: while the two objects are made, cell by cell -/
def wln (K : KX) (n : Nat) (μ : Int → ME) : va_W := (List.range n).map (fun i => (K.2.2.2 + i, eM K (μ (i : Int))))
def upR (K : KX) : Nat → Prop := fun q => K.2.2.2 ≤ q
def okN (n : Nat) (μ : Int → ME) : Prop := ∀ a : Int, 0 ≤ a → a < (n : Int) → okM (μ a)
theorem kad_n (K : KX) (n : Nat) : kad K (n : Int) = K.2.2.2 + n := by unfold kad; omega
theorem wln_at {K : KX} {n : Nat} {a : Int} (μ : Int → ME) (h : 0 ≤ a ∧ a < (n : Int)) : (wln K n μ)[a.toNat]? = some (kad K a, eM K (μ a)) := by
  unfold wln
  have hl : a.toNat < n := by omega
  rw [List.getElem?_map, List.getElem?_range hl]
  have e1 : ((a.toNat : Nat) : Int) = a := by omega
  have e2 : K.2.2.2 + a.toNat = kad K a := by unfold kad; omega
  simp only [Option.map_some, e1, e2]
theorem wln_set {K : KX} {n : Nat} {a : Int} {μ : Int → ME} {o : ME} (h : 0 ≤ a ∧ a < (n : Int)) : (wln K n μ).set a.toNat (kad K a, eM K o) = wln K n (mup μ a o) := by
  apply List.ext_getElem?
  intro j
  by_cases hj : j = a.toNat
  · subst hj
    have hl : a.toNat < (wln K n μ).length := by unfold wln; simp; omega
    rw [List.getElem?_set_self hl, wln_at _ h, mup_s]
  · rw [List.getElem?_set_ne (fun q => hj q.symm)]
    unfold wln
    rw [List.getElem?_map, List.getElem?_map]
    by_cases hl : j < n
    · rw [List.getElem?_range hl]
      simp only [Option.map_some]
      rw [mup_n _ _ _ (by omega)]
    · rw [List.getElem?_eq_none (by simpa using hl)]
      rfl
theorem wln_push (K : KX) (n : Nat) (μ : Int → ME) (o : ME) : wln K n μ ++ [(K.2.2.2 + n, eM K o)] = wln K (n + 1) (mup μ (n : Int) o) := by
  unfold wln
  rw [List.range_succ, List.map_append]
  congr 1
  · apply List.map_congr_left
    intro i hi
    rw [mup_n _ _ _ (by have := List.mem_range.mp hi; omega)]
  · simp only [List.map_cons, List.map_nil]
    rw [mup_s]
theorem wln_D (K : KX) (n : Nat) (μ : Int → ME) : va_D (upR K) (wln K n μ) := by
  have key : ∀ (i : Nat) (p : Nat × va_E), (wln K n μ)[i]? = some p → p.1 = K.2.2.2 + i := by
    intro i p h
    unfold wln at h
    rw [List.getElem?_map] at h
    by_cases hl : i < n
    · rw [List.getElem?_range hl] at h
      cases h
      rfl
    · rw [List.getElem?_eq_none (by simpa using hl)] at h
      cases h
  refine ⟨fun i j p q hi hj hpq => ?_, fun k q hk => ?_⟩
  · have h1 := key i p hi
    have h2 := key j q hj
    omega
  · have h1 := key k q hk
    unfold upR
    omega
theorem okN_mup {n : Nat} {μ : Int → ME} {a : Int} {o : ME} (h : okN n μ) (ho : okM o) : okN n (mup μ a o) := fun j h0 h1 => by
  unfold mup
  split
  · exact ho
  · exact h j h0 h1
theorem okN_push {n : Nat} {μ : Int → ME} {o : ME} (h : okN n μ) (ho : okM o) : okN (n + 1) (mup μ (n : Int) o) := fun j h0 h1 => by
  unfold mup
  split
  · exact ho
  · exact h j h0 (by omega)
def KG (K : KX) (U : State) : Prop := KW K U ∧ va_AO RX1 U ∧ va_AO RX0 U
theorem KG.warm {K : KX} {s U : State} (hW : s.WarmedH U.vm) (h : KG K s) : KG K U := ⟨h.1.warm hW, h.2.1.moved hW.alike, h.2.2.moved hW.alike⟩
def okG (K : KX) (X : CX) (cc : ByteArray) (own : String) (nL d mc ms : Nat) (ret : Option FieldType) : Prop :=
  X.1.tables.exec = Jvm.exec ∧ X.2.2.2.2.2.2.2.2.1.code = cc ∧ X.2.2.2.2.2.2.2.2.1.maxLocals = nL ∧ X.2.2.2.1.vm.findClass own = some X.2.2.2.2.1.cls ∧
  (∀ w ∈ GW, w.before X.2.2.2.2.2.1 X.2.2.2.1 = true) ∧ KG K X.2.2.2.1 ∧ X.2.2.2.2.2.2.2.1.locks = false ∧ X.2.2.2.2.2.2.2.1.sig.returnType = ret ∧
  (d ≤ X.2.2.1.frames ∧ 31 * d ≤ X.2.2.1.locals) ∧ mc ≤ X.2.2.1.cells ∧ ms ≤ X.2.2.1.slots
/-- n cells are made; c of sz slots by this method -/
def PG (K : KX) (X : CX) (nL : Nat) (Q : State → Prop) (n c sz : Nat) (pc : Nat) (ls : List (Nat × PV)) (st : List PV) (μ : Int → ME) : Prop :=
  ∀ (H : Heap) (locs : List Loc) (la : Array Slot), (X.2.2.2.1.heap.size + c = K.2.2.2 + n ∧ H.size = K.2.2.2 + n) → va_P K.2.1 classes (wln K n μ) H → va_S (upR K) X.2.2.2.1.heap H locs → lv_has la nL (ls.map (eL K)) → okN n μ → okL ls → okS st →
    W X.1 K.1 X.2.1 X.2.2.1 X.2.2.2.1 X.2.2.2.2.1 X.2.2.2.2.2.1 X.2.2.2.2.2.2.1 X.2.2.2.2.2.2.2.1 X.2.2.2.2.2.2.2.2.1 H locs c sz Q (F0 X.2.2.2.2.1 pc la (st.map (eV K)))
def QG (K : KX) (n : Nat) (μ : Int → ME) : Array Value → State → Outcome → State → Prop := fun _ st oc t =>
  (oc = .returned none ∧ okN n μ ∧ t.heap.size = K.2.2.2 + n ∧ va_P K.2.1 classes (wln K n μ) t.heap ∧ KG K t) ∧ va_F (upR K) st t
abbrev QN (K : KX) (X : CX) (mc ms n : Nat) (μ : Int → ME) : State → Prop := MQ X.2.2.2.2.2.2.1 (QG K n μ) X.2.2.2.2.2.1 X.2.2.2.1 mc ms (upR K)
def Pci (K : KX) (a : Int) (n : Nat) (μ : Int → ME) : Array Value → State → Prop := va_Pc [eV K (vR a)] (fun U => U.heap.size = K.2.2.2 + n ∧ va_P K.2.1 classes (wln K n μ) U.heap ∧ KG K U)
/-- a constructor's contract -/
def CI (K : KX) (d mc ms : Nat) (y : MethodName) (bytes : ByteArray) (maxL : Nat) (a : Int) (n : Nat) (μ : Int → ME) (n' : Nat) (μ' : Int → ME) : Prop :=
  okN n μ → Met K.1 y (.code y bytes maxL none :: GW) { frames := d, cells := mc, slots := ms, locals := 31 * d } (Pci K a n μ) (QG K n' μ') mc ms (upR K)
section GROW
variable {K : KX} {X : CX} {nL d mc ms n c sz : Nat} {Q : State → Prop} {cc : ByteArray} {own : String} {ret : Option FieldType} {pc : Nat} {ls : List (Nat × PV)} {st : List PV} {μ : Int → ME}
theorem CI.of {y : MethodName} {bytes : ByteArray} {maxL : Nat} {a : Int} {n' : Nat} {μ' : Int → ME} (hy : plainName y.cls = true) (hn : y.name = "<init>") (hm : 1 ≤ maxL) (body : ∀ X : CX, okG K X bytes y.cls maxL d mc ms none → X.2.2.2.2.2.2.2.1.name = "<init>" → PG K X maxL (QN K X mc ms n' μ') n 0 0 0 [(0, vR a)] [] μ) : CI K d mc ms y bytes maxL a n μ n' μ' := by
  intro hμ
  refine Met.ofW (cc := bytes) (maxL := maxL) (ret := none) hy rfl ?_
  intro p e s m args below meth c s₁ B hml hv
  obtain ⟨rfl, hz, hP, hK⟩ := hv
  have hts := atoms_spec (ws := Cond.code y bytes maxL none :: GW) B.pre
  have hl := lv_entry ([vR a].map (eV K)) (n := maxL) hm
  rw [argl_map] at hl
  have hin : meth.name = "<init>" := (name_of_methodNamed B.named B.method).1.trans hn
  have hb := body (p, e, { frames := d, cells := mc, slots := ms, locals := 31 * d }, s, m, ([vR a].map (eV K)).toArray, below, meth, c, 0, 0) ⟨B.exec, B.bytes, hml, findClass_of_methodNamed B.named, fun w hw => hts w (List.mem_cons_of_mem _ hw), hK, B.notSynchronized, B.returns, ⟨Nat.le_refl _, Nat.le_refl _⟩, Nat.le_refl _, Nat.le_refl _⟩ hin
  rw [lg_entry_eq]
  exact hb s.heap [] _ ⟨hz, hz⟩ hP va_S.rf hl hμ (fun q hq => by rcases List.mem_singleton.mp hq with rfl; trivial) okS.nil
theorem Pci_blind (a : Int) : FrameBlind (Pci K a n μ) := fun A U g mk h => ⟨h.1, h.2.1, h.2.2.1, ⟨⟨va_K.moved (u := U) (U := U.calling g mk A) (Vm.Alike.refl U.vm) h.2.2.2.1.1, h.2.2.2.1.2.same (U := U.calling g mk A) rfl⟩, va_AO.moved (u := U) (U := U.calling g mk A) (Vm.Alike.refl U.vm) h.2.2.2.2.1, va_AO.moved (u := U) (U := U.calling g mk A) (Vm.Alike.refl U.vm) h.2.2.2.2.2⟩⟩
theorem g_iconst (C : okG K X cc own nL d mc ms ret) {z : Int} (dg : decode cc pc = .ok (.iconst z, 1)) (hr : rng z) (k : PG K X nL Q n c sz (pc + 1) ls (vI z :: st) μ) : PG K X nL Q n c sz pc ls st μ := fun H locs la hz hP hS hl hμ hL hs =>
  lv_iconst C.1 C.2.1 dg rfl (k H locs la hz hP hS hl hμ hL (hs.cons hr))
theorem g_bipush (C : okG K X cc own nL d mc ms ret) {z : Int} (dg : decode cc pc = .ok (.bipush z, 2)) (hn : -128 ≤ z ∧ z < 128) (k : PG K X nL Q n c sz (pc + 2) ls (vI z :: st) μ) : PG K X nL Q n c sz pc ls st μ := fun H locs la hz hP hS hl hμ hL hs =>
  lv_bipush C.1 C.2.1 dg (b2v hn) (k H locs la hz hP hS hl hμ hL (hs.cons (by show rng z; omega)))
theorem g_sipush (C : okG K X cc own nL d mc ms ret) {z : Int} (dg : decode cc pc = .ok (.sipush z, 3)) (hn : -32768 ≤ z ∧ z < 32768) (k : PG K X nL Q n c sz (pc + 3) ls (vI z :: st) μ) : PG K X nL Q n c sz pc ls st μ := fun H locs la hz hP hS hl hμ hL hs =>
  lv_sipush C.1 C.2.1 dg (s2v hn) (k H locs la hz hP hS hl hμ hL (hs.cons (by show rng z; omega)))
theorem g_aload_n (C : okG K X cc own nL d mc ms ret) {i : Fin 4} {a : Int} (dg : decode cc pc = .ok (.aload_n i, 1)) (h : lk ls i = some (vR a)) (k : PG K X nL Q n c sz (pc + 1) ls (vR a :: st) μ) : PG K X nL Q n c sz pc ls st μ := fun H locs la hz hP hS hl hμ hL hs =>
  lv_aload_n C.1 C.2.1 dg rfl (lk_at hl h) (k H locs la hz hP hS hl hμ hL (hs.cons (okL_at hL h)))
theorem g_iload_n (C : okG K X cc own nL d mc ms ret) {i : Fin 4} {z : Int} (dg : decode cc pc = .ok (.iload_n i, 1)) (h : lk ls i = some (vI z)) (k : PG K X nL Q n c sz (pc + 1) ls (vI z :: st) μ) : PG K X nL Q n c sz pc ls st μ := fun H locs la hz hP hS hl hμ hL hs =>
  lv_iload_n C.1 C.2.1 dg rfl (lk_at hl h) (k H locs la hz hP hS hl hμ hL (hs.cons (okL_at hL h)))
theorem g_istore_n (C : okG K X cc own nL d mc ms ret) {i : Fin 4} {z : Int} {ls' : List (Nat × PV)} (dg : decode cc pc = .ok (.istore_n i, 1)) (hi : (i : Nat) < nL) (h : sl ls i (vI z) = ls') (k : PG K X nL Q n c sz (pc + 1) ls' st μ) : PG K X nL Q n c sz pc ls (vI z :: st) μ := fun H locs la hz hP hS hl hμ hL hs =>
  lv_istore_n C.1 C.2.1 dg rfl hl hi (sl_map K ls i (vI z)) (fun la' hl' => k H locs la' hz hP hS (h ▸ hl') hμ (h ▸ okL_sl hL hs.hd) hs.tl)
theorem g_astore_n (C : okG K X cc own nL d mc ms ret) {i : Fin 4} {a : Int} {ls' : List (Nat × PV)} (dg : decode cc pc = .ok (.astore_n i, 1)) (hi : (i : Nat) < nL) (h : sl ls i (vR a) = ls') (k : PG K X nL Q n c sz (pc + 1) ls' st μ) : PG K X nL Q n c sz pc ls (vR a :: st) μ := fun H locs la hz hP hS hl hμ hL hs =>
  lv_astore_n C.1 C.2.1 dg rfl hl hi (sl_map K ls i (vR a)) (fun la' hl' => k H locs la' hz hP hS (h ▸ hl') hμ (h ▸ okL_sl hL hs.hd) hs.tl)
theorem g_iinc (C : okG K X cc own nL d mc ms ret) {i : Nat} {k z w : Int} {ls' : List (Nat × PV)} (dg : decode cc pc = .ok (.iinc i k, 3)) (hi : i < nL) (hk : lk ls i = some (vI z)) (hw : z + k = w) (hr : rng w) (h : sl ls i (vI w) = ls') (kk : PG K X nL Q n c sz (pc + 3) ls' st μ) : PG K X nL Q n c sz pc ls st μ := fun H locs la hz hP hS hl hμ hL hs => by
  subst hw
  obtain ⟨q, hq⟩ := lk_place hk K
  exact lv_iinc C.1 C.2.1 dg hl hq (Int32.ofInt_add z k).symm hi (sl_map K ls i (vI (z + k))) (fun la' hl' => kk H locs la' hz hP hS (h ▸ hl') hμ (h ▸ okL_sl hL (show okV (vI (z + k)) from hr)) hs)
theorem g_dup (C : okG K X cc own nL d mc ms ret) {v : PV} (dg : decode cc pc = .ok (.dup, 1)) (hv : isL v = false) (k : PG K X nL Q n c sz (pc + 1) ls (v :: v :: st) μ) : PG K X nL Q n c sz pc ls (v :: st) μ := fun H locs la hz hP hS hl hμ hL hs =>
  lv_dup C.1 C.2.1 dg (by rw [cat_eV, hv]; rfl) (k H locs la hz hP hS hl hμ hL (hs.cons hs.hd))
theorem g_goto (C : okG K X cc own nL d mc ms ret) {off : Int} {tgt : Nat} (dg : decode cc pc = .ok (.goto off, 3)) (ht : (pc : Int) + off = (tgt : Int)) (k : PG K X nL Q n c sz tgt ls st μ) : PG K X nL Q n c sz pc ls st μ := fun H locs la hz hP hS hl hμ hL hs =>
  lv_goto C.1 C.2.1 dg ht (k H locs la hz hP hS hl hμ hL hs)
theorem g_icmp_ge (C : okG K X cc own nL d mc ms ret) {x y off : Int} {tgt : Nat} (dg : decode cc pc = .ok (.if_icmp .ge off, 3)) (ht : (pc : Int) + off = (tgt : Int)) (k1 : y ≤ x → PG K X nL Q n c sz tgt ls st μ) (k2 : ¬ y ≤ x → PG K X nL Q n c sz (pc + 3) ls st μ) : PG K X nL Q n c sz pc ls (vI y :: vI x :: st) μ := fun H locs la hz hP hS hl hμ hL hs =>
  lv_icmp_ge C.1 C.2.1 dg ht (fun h => k1 ((zi_le hs.hd hs.tl.hd).mp h) H locs la hz hP hS hl hμ hL hs.tl.tl) (fun h => k2 (fun e => h ((zi_le hs.hd hs.tl.hd).mpr e)) H locs la hz hP hS hl hμ hL hs.tl.tl)
theorem g_obj (C : okG K X cc own nL (d + 1) mc ms ret) {idx : Nat} {a : Int} (h1 : Cond.methodLink own idx Lib.objectInit ∈ GW) (h2 : Cond.instanceMethod Lib.objectInit ∈ GW) (h3 : Cond.code Lib.objectInit ⟨#[0xb1]⟩ 1 none ∈ GW) (dg : decode cc pc = .ok (.invokespecial idx, 3)) (k : PG K X nL Q n c sz (pc + 3) ls [] μ) : PG K X nL Q n c sz pc ls [vR a] μ := fun H locs la hz hP hS hl hμ hL hs => by
  obtain ⟨hx, hb, hml, hown, hts, hK, -, -, ⟨hf1, hf2⟩, hcl, hsl⟩ := id C
  refine W.objInit (a := kad K a) (rest := []) hx hb hown (hts _ h1) (hts _ h2) (hts _ h3) rfl (by rw [hml]; exact hl.1) rfl dg (by omega) ?_ (k H locs la hz hP hS hl hμ hL okS.nil)
  show 2 * 0 + 0 + 12 ≤ _
  omega
theorem g_get (C : okG K X cc own nL d mc ms ret) {idx ci k : Nat} {a : Int} {fs : List PV} {v : PV} (F : FL own idx ci k) (dg : decode cc pc = .ok (.getfield idx, 3)) (ha : 0 ≤ a ∧ a < (n : Int)) (hm : μ a = mO ci fs) (hv : fs[k]? = some v) (kk : PG K X nL Q n c sz (pc + 3) ls (v :: st) μ) : PG K X nL Q n c sz pc ls (vR a :: st) μ := fun H locs la hz hP hS hl hμ hL hs => by
  obtain ⟨q, hc, hk, hw⟩ := F
  have ho : okM (μ a) := hμ a ha.1 ha.2
  rw [hm] at ho
  refine va_get (C := q.1) (T := q.2.1) (N := q.2.2) (fs := fs.map (eV K)) (v := eV K v) C.1 C.2.1 C.2.2.2.2.1 (cls_in ci q hc) C.2.2.2.1 C.2.2.2.2.2.1.1.1 hP a.toNat ?_ hc k hk (C.2.2.2.2.1 _ hw) (fun _ h => h) ?_ dg ?_
  · rw [wln_at μ ha, hm]; rfl
  · rw [List.getElem?_map, hv]; rfl
  · exact kk H locs la hz hP hS hl hμ hL (hs.tl.cons (ho v (List.mem_of_getElem? hv)))
/-- the heap's size, by what was made -/
theorem g_size {H : Heap} {locs : List Loc} {g : JFrame} (h0 : 0 < n) (hc : X.2.2.2.1.heap.size + c = K.2.2.2 + n) (hP : va_P K.2.1 classes (wln K n μ) H) (hS : va_S (upR K) X.2.2.2.1.heap H locs) (kk : H.size = K.2.2.2 + n → W X.1 K.1 X.2.1 X.2.2.1 X.2.2.2.1 X.2.2.2.2.1 X.2.2.2.2.2.1 X.2.2.2.2.2.2.1 X.2.2.2.2.2.2.2.1 X.2.2.2.2.2.2.2.2.1 H locs c sz Q g) : W X.1 K.1 X.2.1 X.2.2.1 X.2.2.2.1 X.2.2.2.2.1 X.2.2.2.2.2.1 X.2.2.2.2.2.2.1 X.2.2.2.2.2.2.2.1 X.2.2.2.2.2.2.2.2.1 H locs c sz Q g := fun T hT X0 => by
  have h1 := X0.heapSize
  rw [hT] at h1
  refine kk ?_ T hT X0
  have h2 := (hP (n - 1) (kad K ((n - 1 : Nat) : Int), eM K (μ ((n - 1 : Nat) : Int))) (by
    have := wln_at (K := K) (n := n) (a := ((n - 1 : Nat) : Int)) μ (by omega)
    rw [show (((n - 1 : Nat) : Int)).toNat = n - 1 by omega] at this
    exact this)).lt
  rw [kad_n] at h2
  omega
/-- a final field that holds a reference -/
def FF (own : String) (ci k : Nat) : Prop := ∃ q : vw_C, classes[ci]? = some q ∧ (q.2.1 k).2.2.2 = true ∧ (q.2.1 k).1 = own ∧ ∃ ty, parseFieldDescriptor (q.2.1 k).2.2.1 = some ty ∧ ∀ x : Nat, narrow ty (.ref x) = .ref x ∧ fits ty (.ref x) = true
theorem g_putF (C : okG K X cc own nL d mc ms ret) (hin : X.2.2.2.2.2.2.2.1.name = "<init>") {idx ci k : Nat} {a b : Int} {fs fs' : List PV} (F : FL own idx ci k) (E : FF own ci k) (dg : decode cc pc = .ok (.putfield idx, 3)) (ha : 0 ≤ a ∧ a < (n : Int)) (hm : μ a = mO ci fs) (hk : k < fs.length) (hfs : fs.set k (vR b) = fs') (kk : PG K X nL Q n c sz (pc + 3) ls st (mup μ a (mO ci fs'))) : PG K X nL Q n c sz pc ls (vR b :: vR a :: st) μ := fun H locs la hz hP hS hl hμ hL hs => by
  subst hfs
  obtain ⟨q, hc, hk0, hw⟩ := F
  obtain ⟨q', hc', hfin, hdecl, ty, hd, hnf⟩ := E
  obtain rfl : q = q' := Option.some.inj (hc.symm.trans hc')
  obtain ⟨ty0, hty, hnm⟩ := cls_ty ci q hc
  have ho : okM (μ a) := hμ a ha.1 ha.2
  rw [hm] at ho
  refine va_putF (C := q.1) (T := q.2.1) (N := q.2.2) (fs := fs.map (eV K)) (v := eV K (vR b)) (A := upR K) C.1 C.2.1 C.2.2.2.2.1 (cls_in ci q hc) ty0 hty hnm C.2.2.2.1 C.2.2.2.2.2.1.1.1 hP (wln_D K n μ) hS a.toNat (a := kad K a) ?_ hc k hk0 (C.2.2.2.2.1 _ hw) (fun _ h => h) hfin hin hdecl hd (hnf _).1 (hnf _).2 (by rw [List.length_map]; exact hk) dg ?_
  · rw [wln_at μ ha, hm]; rfl
  · intro H1 locs1 h1 _ h3
    have e : (List.map (eV K) fs).set k (eV K (vR b)) = (fs.set k (vR b)).map (eV K) := List.map_set.symm
    rw [e, show (Sum.inr (ci, List.map (eV K) (fs.set k (vR b))) : va_E) = eM K (mO ci (fs.set k (vR b))) from rfl, wln_set ha] at h1
    refine g_size (by omega) hz.1 h1 h3 (fun hz1 => kk H1 locs1 la ⟨hz.1, hz1⟩ h1 h3 hl (okN_mup hμ ?_) hL hs.tl.tl)
    intro w hw
    rcases List.mem_or_eq_of_mem_set hw with h | h
    · exact ho w h
    · rw [h]; exact hs.hd
theorem g_iast (C : okG K X cc own nL d mc ms ret) {a i z : Int} {N : Nat} {f : Int → Int} (dg : decode cc pc = .ok (.iastore, 1)) (ha : 0 ≤ a ∧ a < (n : Int)) (hm : μ a = mA N f) (hi : 0 ≤ i ∧ i < (N : Int)) (kk : PG K X nL Q n c sz (pc + 1) ls st (mup μ a (mA N (fup f i z)))) : PG K X nL Q n c sz pc ls (vI z :: vI i :: vR a :: st) μ := fun H locs la hz hP hS hl hμ hL hs => by
  have ho : okM (μ a) := hμ a ha.1 ha.2
  rw [hm] at ho
  have ri : rng i := hs.tl.hd
  have rz : rng z := hs.hd
  refine va_iast (n := N) (f := fun j => Int32.ofInt (f (j : Int))) (cA := K.2.2.1 0) (A := upR K) C.1 C.2.1 C.2.2.2.2.2.1.1.1 hP (wln_D K n μ) hS a.toNat 0 (a := kad K a) ?_ rfl (zi_in hi.1 hi.2 ri) dg ?_
  · rw [wln_at μ ha, hm]; rfl
  · intro H1 locs1 h1 _ h3
    have e : upd (fun j : Nat => Int32.ofInt (f (j : Int))) (Int32.ofInt i).toNatClampNeg (Int32.ofInt z) = fun j : Nat => Int32.ofInt (fup f i z (j : Int)) := by
      funext j
      rw [zi_cl ri]
      unfold upd fup
      by_cases h : j = i.toNat
      · rw [if_pos h, if_pos (by omega)]
      · rw [if_neg h, if_neg (by omega)]
    rw [e, show (Sum.inl (K.2.2.1 0, N, Sum.inl fun j : Nat => Int32.ofInt (fup f i z (j : Int))) : va_E) = eM K (mA N (fup f i z)) from rfl, wln_set ha] at h1
    refine g_size (by omega) hz.1 h1 h3 (fun hz1 => kk H1 locs1 la ⟨hz.1, hz1⟩ h1 h3 hl (okN_mup hμ ?_) hL hs.tl.tl.tl)
    refine ⟨fun j j0 j1 => ?_, fun j hj => ?_⟩
    · show rng (fup f i z j)
      unfold fup
      split
      · exact rz
      · exact ho.1 j j0 j1
    · show fup f i z j = 0
      have hj' : j < 0 ∨ (N : Int) ≤ j := hj
      rw [fup_n _ _ _ (by omega)]
      exact ho.2 j hj
def fuo (f : Int → Option Int) (i v : Int) : Int → Option Int := fun j => if j = i then some v else f j
theorem fuo_e (K : KX) (f : Int → Option Int) {i v : Int} (hi : 0 ≤ i) (ri : rng i) : va_up (fun j : Nat => (f (j : Int)).map (kad K)) (Int32.ofInt i).toNatClampNeg (some (kad K v)) = fun j : Nat => (fuo f i v (j : Int)).map (kad K) := by
  funext j
  rw [zi_cl ri]
  unfold va_up fuo
  by_cases h : j = i.toNat
  · rw [if_pos h, if_pos (by omega)]; rfl
  · rw [if_neg h, if_neg (by omega)]
theorem g_aast (C : okG K X cc own nL d mc ms ret) {a i v : Int} {N t ci : Nat} {f : Int → Option Int} {fs : List PV} (dg : decode cc pc = .ok (.aastore, 1)) (ha : 0 ≤ a ∧ a < (n : Int)) (hm : μ a = mR t N f) (hv : 0 ≤ v ∧ v < (n : Int)) (hmv : μ v = mO ci fs) (ht : (t = 0 ∧ ci = 1) ∨ (t = 1 ∧ ci = 0)) (hi : 0 ≤ i ∧ i < (N : Int)) (kk : PG K X nL Q n c sz (pc + 1) ls st (mup μ a (mR t N (fuo f i v)))) : PG K X nL Q n c sz pc ls (vR v :: vI i :: vR a :: st) μ := fun H locs la hz hP hS hl hμ hL hs => by
  have ri : rng i := hs.tl.hd
  have hw : (wln K n μ)[a.toNat]? = some (kad K a, .inl (K.2.2.1 (t + 1), N, .inr (.inr (.inr (.inr (fun j : Nat => (f (j : Int)).map (kad K))))))) := by rw [wln_at μ ha, hm]; rfl
  have hwv : (wln K n μ)[v.toNat]? = some (kad K v, .inr (ci, fs.map (eV K))) := by rw [wln_at μ hv, hmv]; rfl
  have fin : ∀ (H1 : Heap) (locs1 : List Loc), va_P K.2.1 classes ((wln K n μ).set a.toNat (kad K a, .inl (K.2.2.1 (t + 1), N, .inr (.inr (.inr (.inr (va_up (fun j : Nat => (f (j : Int)).map (kad K)) (Int32.ofInt i).toNatClampNeg (some (kad K v))))))))) H1 → va_S (upR K) X.2.2.2.1.heap H1 locs1 → W X.1 K.1 X.2.1 X.2.2.1 X.2.2.2.1 X.2.2.2.2.1 X.2.2.2.2.2.1 X.2.2.2.2.2.2.1 X.2.2.2.2.2.2.2.1 X.2.2.2.2.2.2.2.2.1 H1 locs1 c sz Q (F0 X.2.2.2.2.1 (pc + 1) la (st.map (eV K))) := by
    intro H1 locs1 h1 h3
    rw [fuo_e K f hi.1 ri, show (Sum.inl (K.2.2.1 (t + 1), N, .inr (.inr (.inr (.inr (fun j : Nat => (fuo f i v (j : Int)).map (kad K)))))) : va_E) = eM K (mR t N (fuo f i v)) from rfl, wln_set ha] at h1
    exact g_size (by omega) hz.1 h1 h3 (fun hz1 => kk H1 locs1 la ⟨hz.1, hz1⟩ h1 h3 hl (okN_mup hμ trivial) hL hs.tl.tl.tl)
  rcases ht with ⟨rfl, rfl⟩ | ⟨rfl, rfl⟩
  · exact va_astq (r := (RX1, TX1, 5)) (n := N) (A := upR K) C.1 C.2.1 C.2.2.2.2.2.1.1.1 hP (wln_D K n μ) hS a.toNat 1 v.toNat 1 (a := kad K a) (v := kad K v) hw rfl hwv rfl (zi_in hi.1 hi.2 ri) dg (fun H1 locs1 h1 _ h3 => fin H1 locs1 h1 h3)
  · exact va_astq (r := (RX0, TX0, 4)) (n := N) (A := upR K) C.1 C.2.1 C.2.2.2.2.2.1.1.1 hP (wln_D K n μ) hS a.toNat 2 v.toNat 0 (a := kad K a) (v := kad K v) hw rfl hwv rfl (zi_in hi.1 hi.2 ri) dg (fun H1 locs1 h1 _ h3 => fin H1 locs1 h1 h3)
theorem st_ref (K : KX) (n : Nat) (st : List PV) : (vR (n : Int) :: st).map (eV K) = Value.ref (K.2.2.2 + n) :: st.map (eV K) := by
  rw [List.map_cons, show eV K (vR (n : Int)) = Value.ref (kad K (n : Int)) from rfl, kad_n]
theorem g_pushed {H H1 : Heap} {o : ME} (hz : H.size = K.2.2.2 + n) (hP : va_P K.2.1 classes (wln K n μ) H) (o1 : ∀ q, q < K.2.2.2 + n → H1[q]? = H[q]?) (he : va_at K.2.1 classes (K.2.2.2 + n, eM K o) H1) : va_P K.2.1 classes (wln K (n + 1) (mup μ (n : Int) o)) H1 := by
  rw [← wln_push]
  refine (hP.kept (fun k x hx => o1 x.1 (by rw [← hz]; exact (hP k x hx).lt))).app (fun k x hx => ?_)
  have hk : k < 1 := (List.getElem?_eq_some_iff.mp hx).1
  rw [show k = 0 by omega] at hx
  cases hx
  exact he
theorem g_new (C : okG K X cc own nL d mc ms ret) {idx ci : Nat} {q : vw_C} {fs : List PV} (hc : classes[ci]? = some q) (w1 : Cond.classLink own idx q.1 ∈ GW) (w2 : Cond.instantiable q.1 q.2.2 ∈ GW) (w3 : Cond.initialized q.1 ∈ GW) (ty : Nat → FieldType) (hty : ∀ k, k < q.2.2 → parseFieldDescriptor (q.2.1 k).2.2.1 = some (ty k)) (hfs : ∀ j, j < q.2.2 → defaultValue (ty j) = vp_V (fs.map (eV K)) j) (hok : ∀ v ∈ fs, okV v) (h1 : c + 1 ≤ mc) (h2 : sz + q.2.2 ≤ ms) (dg : decode cc pc = .ok (.new idx, 3)) (kk : PG K X nL Q (n + 1) (c + 1) (sz + q.2.2) (pc + 3) ls (vR (n : Int) :: st) (mup μ (n : Int) (mO ci fs))) : PG K X nL Q n c sz pc ls st μ := fun H locs la hz hP hS hl hμ hL hs => by
  obtain ⟨hx, hb, hml, hown, hts, hK, -, -, ⟨hf1, hf2⟩, hcl, hsl⟩ := id C
  have hKn := hK.1.1.1 ci q hc
  refine W.newcK hx hb hown (hts _ w1) (hts _ w2) (hts _ w3) rfl dg (by omega) (by omega) hKn.2.1 hz.2 fun H1 kC hkC e1 z1 o1 => ?_
  have hP1 := g_pushed (o := mO ci fs) hz.2 hP o1 ⟨q, hc, (u_born ty hts (cls_in ci q hc) hKn hkC e1 hty).to hfs⟩
  have h9 := kk H1 locs la ⟨by have := hz.1; omega, by omega⟩ hP1 ⟨Nat.le_trans hS.1 (by omega), fun x h1 h2 => (o1 x (by have := hS.1; omega)).trans (hS.2.1 x h1 h2), hS.2.2⟩ hl (okN_push hμ hok) hL (hs.cons trivial)
  rw [st_ref] at h9
  exact h9
theorem g_newa (C : okG K X cc own nL d mc ms ret) {N : Nat} {z : Int} (w1 : Cond.arrayClass .int ∈ GW) (hz0 : z = (N : Int)) (hN : N ≤ 1000) (h1 : c + 1 ≤ mc) (h2 : sz + N ≤ ms) (dg : decode cc pc = .ok (.newarray .int, 2)) (kk : PG K X nL Q (n + 1) (c + 1) (sz + N) (pc + 2) ls (vR (n : Int) :: st) (mup μ (n : Int) (mA N (fun _ => 0)))) : PG K X nL Q n c sz pc ls (vI z :: st) μ := fun H locs la hz hP hS hl hμ hL hs => by
  obtain ⟨hx, hb, hml, hown, hts, hK, -, -, ⟨hf1, hf2⟩, hcl, hsl⟩ := id C
  have rz : rng z := hs.hd
  refine va_newaK (atype := .int) hx hb (hts _ w1) rfl dg rfl ?_ (N := N) (by rw [zi_cl rz]; omega) (by show N * 4 ≤ 536870912; omega) (by omega) (by omega) hz.2 fun H1 cA e1 z1 o1 hAr hNm => ?_
  · intro h
    have := (zi_lt rz (show rng 0 by decide)).mp h
    omega
  · have hcA : cA = K.2.2.1 0 := Option.some.inj (hNm.symm.trans (hK.1.1.2 0 _ rfl).2)
    subst hcA
    have hP1 := g_pushed (o := mA N (fun _ => 0)) hz.2 hP o1 e1
    have h9 := kk H1 locs la ⟨by have := hz.1; omega, by omega⟩ hP1 ⟨Nat.le_trans hS.1 (by omega), fun x h1 h2 => (o1 x (by have := hS.1; omega)).trans (hS.2.1 x h1 h2), hS.2.2⟩ hl (okN_push hμ ⟨fun j _ _ => by show rng 0; decide, fun j _ => rfl⟩) hL (hs.tl.cons trivial)
    rw [st_ref] at h9
    exact h9
theorem g_newq (C : okG K X cc own nL d mc ms ret) {idx N t : Nat} {z : Int} {E : String} (ht : (t = 0 ∧ E = RX1) ∨ (t = 1 ∧ E = RX0)) (w1 : Cond.classLink own idx E ∈ GW) (hz0 : z = (N : Int)) (hN : N ≤ 1000) (h1 : c + 1 ≤ mc) (h2 : sz + N ≤ ms) (dg : decode cc pc = .ok (.anewarray idx, 3)) (kk : PG K X nL Q (n + 1) (c + 1) (sz + N) (pc + 3) ls (vR (n : Int) :: st) (mup μ (n : Int) (mR t N (fun _ => none)))) : PG K X nL Q n c sz pc ls (vI z :: st) μ := fun H locs la hz hP hS hl hμ hL hs => by
  obtain ⟨hx, hb, hml, hown, hts, hK, -, -, ⟨hf1, hf2⟩, hcl, hsl⟩ := id C
  have rz : rng z := hs.hd
  have hao : va_AO E X.2.2.2.1 := by
    rcases ht with ⟨-, rfl⟩ | ⟨-, rfl⟩
    · exact hK.2.1
    · exact hK.2.2
  have hN1 : (Int32.ofInt z).toNatClampNeg = N := by rw [zi_cl rz]; omega
  refine W.anew hx hb hown (hts _ w1) (va_AO.use hao) rfl dg rfl ?_ (by rw [hN1]; omega) (by omega) (by rw [hN1]; omega) fun cA kA comp f1 f2 f3 f4 => ?_
  · intro h
    have := (zi_lt rz (show rng 0 by decide)).mp h
    omega
  · have hcA : cA = K.2.2.1 (t + 1) := by
      rcases ht with ⟨rfl, rfl⟩ | ⟨rfl, rfl⟩
      · obtain ⟨_, _, _, _, _, h⟩ := (hK.1.1.2 1 _ rfl).2
        exact Option.some.inj (f1.symm.trans h)
      · obtain ⟨_, _, _, _, _, h⟩ := (hK.1.1.2 2 _ rfl).2
        exact Option.some.inj (f1.symm.trans h)
    subst hcA
    rw [hN1]
    generalize hH1 : H.push ({ cls := K.2.2.1 (t + 1), slots := Array.replicate N .null } : Cell) = H1
    have z1 : H1.size = H.size + 1 := by rw [← hH1, Array.size_push]
    have e1 : H1[K.2.2.2 + n]? = some (arrV (K.2.2.1 (t + 1)) N (fun _ => .null)) := by rw [← hz.2, ← hH1, Array.getElem?_push_size, ← arrV_new]
    have o1 : ∀ q : Nat, q < K.2.2.2 + n → H1[q]? = H[q]? := fun q hq => by rw [← hH1, Array.getElem?_push, if_neg (by omega)]
    have hP1 := g_pushed (o := mR t N (fun _ => none)) hz.2 hP o1 e1
    have h9 := kk H1 locs la ⟨by have := hz.1; omega, by omega⟩ hP1 ⟨Nat.le_trans hS.1 (by omega), fun x h1 h2 => (o1 x (by have := hS.1; omega)).trans (hS.2.1 x h1 h2), hS.2.2⟩ hl (okN_push hμ trivial) hL (hs.tl.cons trivial)
    rw [st_ref, ← hz.2] at h9
    exact h9
theorem g_vret (C : okG K X cc own nL d mc ms none) (dg : decode cc pc = .ok (.return_, 1)) : PG K X nL (QN K X mc ms n μ) n mc ms pc ls [] μ := fun H locs la hz hP hS hl hμ hL hs =>
  W.vret (hlocks := C.2.2.2.2.2.2.1) C.1 C.2.1 C.2.2.2.2.2.2.2.1 (fun t ht hW => ⟨⟨rfl, hμ, by rw [ht]; exact hz.2, by rw [ht]; exact hP, C.2.2.2.2.2.1.warm hW⟩, hS.F ht⟩) hS.2.2 dg
theorem g_after {A : Array Value} {rest : List PV} {H : Heap} {locs : List Loc} {la : Array Slot} {st0 : List Value} {n1 mc1 ms1 : Nat} {μ1 : Int → ME}
    (hr : va_Run X.1 K.1 X.2.1 X.2.2.1 X.2.2.2.1 X.2.2.2.2.1 X.2.2.2.2.2.1 X.2.2.2.2.2.2.1 X.2.2.2.2.2.2.2.1 X.2.2.2.2.2.2.2.2.1 H locs c sz mc1 ms1 (F0 X.2.2.2.2.1 pc la st0) (rest.map (eV K)) (QG K n1 μ1 A) (upR K))
    (hz : X.2.2.2.1.heap.size + (c + mc1) = K.2.2.2 + n1) (hS : va_S (upR K) X.2.2.2.1.heap H locs) (hl : lv_has la nL (ls.map (eL K))) (hL : okL ls) (hs : okS rest) (kk : PG K X nL Q n1 (c + mc1) (sz + ms1) (pc + 3) ls rest μ1) :
    W X.1 K.1 X.2.1 X.2.2.1 X.2.2.2.1 X.2.2.2.2.1 X.2.2.2.2.2.1 X.2.2.2.2.2.2.1 X.2.2.2.2.2.2.2.1 X.2.2.2.2.2.2.2.2.1 H locs c sz Q (F0 X.2.2.2.2.1 pc la st0) := by
  intro T hT X0
  obtain ⟨v, st₀, t, T', L, h0, X', hLo, e1, e2, ⟨⟨hv, hμ', hz', hP', hK'⟩, hzz, hk⟩, stp⟩ := hr T hT X0
  have hv : v = none := by cases hv; rfl
  subst hv
  rw [h0] at hzz hk
  have hS' : va_S (upR K) X.2.2.2.1.heap T'.heap (locs ++ L) := ⟨Nat.le_trans hS.1 (by rw [e1]; exact hzz), fun q h1 h2 => by rw [e1, hk q (Nat.lt_of_lt_of_le h1 hS.1) h2]; exact hS.2.1 q h1 h2, fun q hq => by
      rcases List.mem_append.mp hq with h | h
      · exact hS.2.2 q h
      · exact hLo q h⟩
  obtain ⟨t2, a1, b1⟩ := kk T'.heap (locs ++ L) la ⟨hz, by rw [e1]; exact hz'⟩ (by rw [e1]; exact hP') hS' hl hμ' hL hs T' rfl X'
  exact ⟨t2, stp t2 a1, b1⟩
theorem g_initN (C : okG K X cc own nL (d + 1) mc ms ret) {idx maxL mc1 ms1 n1 : Nat} {y : MethodName} {host : String} {bytes : ByteArray} {a : Int} {μ1 : Int → ME} (w1 : (own, idx, y, host) ∈ nestW) (w2 : Cond.instanceMethod y ∈ GW) (w4 : Cond.initialized y.cls ∈ GW) (w5 : Cond.code y bytes maxL none ∈ GW) (hyn : y.name = "<init>") (hmx : maxL ≤ 12) (hd : y.cls ≠ "java/lang/invoke/MethodHandle" ∧ y.cls ≠ "java/lang/invoke/VarHandle" ∧ (parseMethodDescriptor y.desc).map (fun d => d.parameters.length) = some 0) (dg : decode cc pc = .ok (.invokespecial idx, 3)) (hM : CI K d mc1 ms1 y bytes maxL a n μ n1 μ1) (hn : n + mc1 = n1) (hsz : (st.map fun v => if isL v = true then 2 else 1).sum ≤ 8) (h1 : c + mc1 ≤ mc) (h2 : sz + ms1 ≤ ms)
    (kk : PG K X nL Q n1 (c + mc1) (sz + ms1) (pc + 3) ls st μ1) : PG K X nL Q n c sz pc ls (vR a :: st) μ := fun H locs la hz hP hS hl hμ hL hs => by
  obtain ⟨hx, hb, hml, hown, hts, hK, -, -, ⟨hf1, hf2⟩, hcl, hsl⟩ := id C
  have hrun := va_runIN (cells := c) (slots := sz) (below := X.2.2.2.2.2.2.1) (meth := X.2.2.2.2.2.2.2.1) (e := X.2.1) (R := X.2.2.1) (locs := locs) (H := H) (n := 0) (mc := mc1) (ms := ms1) (g := F0 X.2.2.2.2.1 pc la ((vR a :: st).map (eV K))) (b := kad K a) (As := []) (rest := st.map (eV K)) ⟨hx, hb, hml, hown, hts⟩ (hM hμ) ⟨va_cnB (host := host) 0 hts (GW_in w5) rfl rfl rfl (hK.1.2 _ w1) (hts _ w4) hd ⟨hf1, by show 8 + (maxL + 11) + 31 * d ≤ _; omega⟩, hyn, hts _ w2⟩
    ⟨Pci_blind a, fun U hU hW => ⟨rfl, by rw [hU]; exact hz.2, by rw [hU]; exact hP, hK.warm hW⟩⟩ rfl rfl hl.1 rfl (lv_room (by rw [cat_sum]; exact hsz)) dg ⟨by omega, by omega⟩
  exact g_after hrun (by have := hz.1; omega) hS hl hL hs.tl kk
theorem g_initI (C : okG K X cc own nL (d + 1) mc ms ret) {idx maxL mc1 ms1 n1 : Nat} {y : MethodName} {bytes : ByteArray} {a : Int} {μ1 : Int → ME} (w1 : Cond.methodLink own idx y ∈ GW) (w2 : Cond.instanceMethod y ∈ GW) (w4 : Cond.initialized y.cls ∈ GW) (w5 : Cond.code y bytes maxL none ∈ GW) (hyn : y.name = "<init>") (hmx : maxL ≤ 12) (hd : y.cls ≠ "java/lang/invoke/MethodHandle" ∧ y.cls ≠ "java/lang/invoke/VarHandle" ∧ (parseMethodDescriptor y.desc).map (fun d => d.parameters.length) = some 0) (dg : decode cc pc = .ok (.invokespecial idx, 3)) (hM : CI K d mc1 ms1 y bytes maxL a n μ n1 μ1) (hn : n + mc1 = n1) (hsz : (st.map fun v => if isL v = true then 2 else 1).sum ≤ 8) (h1 : c + mc1 ≤ mc) (h2 : sz + ms1 ≤ ms)
    (kk : PG K X nL Q n1 (c + mc1) (sz + ms1) (pc + 3) ls st μ1) : PG K X nL Q n c sz pc ls (vR a :: st) μ := fun H locs la hz hP hS hl hμ hL hs => by
  obtain ⟨hx, hb, hml, hown, hts, hK, -, -, ⟨hf1, hf2⟩, hcl, hsl⟩ := id C
  have hrun := va_runI (cells := c) (slots := sz) (below := X.2.2.2.2.2.2.1) (meth := X.2.2.2.2.2.2.2.1) (e := X.2.1) (R := X.2.2.1) (locs := locs) (H := H) (n := 0) (mc := mc1) (ms := ms1) (g := F0 X.2.2.2.2.1 pc la ((vR a :: st).map (eV K))) (b := kad K a) (As := []) (rest := st.map (eV K)) ⟨hx, hb, hml, hown, hts⟩ (hM hμ) (cwI 0 hts (GW_in w5) rfl rfl rfl (hts _ w4) (hts _ w1) (hts _ w2) hyn hd ⟨hf1, by show 8 + (maxL + 11) + 31 * d ≤ _; omega⟩)
    ⟨Pci_blind a, fun U hU hW => ⟨rfl, by rw [hU]; exact hz.2, by rw [hU]; exact hP, hK.warm hW⟩⟩ rfl rfl hl.1 rfl (lv_room (by rw [cat_sum]; exact hsz)) dg ⟨by omega, by omega⟩
  exact g_after hrun (by have := hz.1; omega) hS hl hL hs.tl kk
end GROW
