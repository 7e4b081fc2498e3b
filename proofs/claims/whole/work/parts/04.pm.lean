/-! THE PURE MACHINE: a frame and a memory of whole numbers; addresses are offsets into the region that the law's two objects fill -/
abbrev PV : Type := Int ⊕ (Option Int ⊕ Int)
abbrev vI (z : Int) : PV := .inl z
abbrev vR (a : Int) : PV := .inr (.inl (some a))
abbrev vN : PV := .inr (.inl none)
abbrev vL (z : Int) : PV := .inr (.inr z)
abbrev ME : Type := (Nat × (Int → Int)) ⊕ ((Nat × Nat × (Int → Option Int)) ⊕ (Nat × List PV))
abbrev mA (n : Nat) (f : Int → Int) : ME := .inl (n, f)
abbrev mR (t n : Nat) (f : Int → Option Int) : ME := .inr (.inl (t, n, f))
abbrev mO (ci : Nat) (fs : List PV) : ME := .inr (.inr (ci, fs))
/-- launch; classes' numbers and slots; array classes; the region's first cell -/
abbrev KX : Type := Launch × va_G × (Nat → ClassId) × Nat
abbrev CX : Type := Program × Env × Room × State × MethodId × Array Value × List Frame × Method × Code × Nat × Nat
def kad (K : KX) (a : Int) : Nat := ((K.2.2.2 : Int) + a).toNat
def eV (K : KX) : PV → Value
  | .inl z => .int (Int32.ofInt z)
  | .inr (.inl r) => va_rf (r.map (kad K))
  | .inr (.inr z) => .long (Int64.ofInt z)
def eM (K : KX) : ME → va_E
  | .inl q => .inl (K.2.2.1 0, q.1, .inl (fun j => Int32.ofInt (q.2 (j : Int))))
  | .inr (.inl q) => .inl (K.2.2.1 (q.1 + 1), q.2.1, .inr (.inr (.inr (.inr (fun j => (q.2.2 (j : Int)).map (kad K))))))
  | .inr (.inr q) => .inr (q.1, q.2.map (eV K))
abbrev eL (K : KX) (q : Nat × PV) : Nat × Value := (q.1, eV K q.2)
def wld (K : KX) (μ : Int → ME) : va_W := (List.range 60).map (fun i => (K.2.2.2 + i, eM K (μ (i : Int))))
def reg (K : KX) : Nat → Prop := fun q => K.2.2.2 ≤ q ∧ q < K.2.2.2 + 60
def mup (μ : Int → ME) (a : Int) (o : ME) : Int → ME := fun j => if j = a then o else μ j
theorem mup_s (μ : Int → ME) (a : Int) (o : ME) : mup μ a o a = o := if_pos rfl
theorem mup_n (μ : Int → ME) (a : Int) (o : ME) {j : Int} (h : j ≠ a) : mup μ a o j = μ j := if_neg h
def fup (f : Int → Int) (i v : Int) : Int → Int := fun j => if j = i then v else f j
theorem fup_s (f : Int → Int) (i v : Int) : fup f i v i = v := if_pos rfl
theorem fup_n (f : Int → Int) (i v : Int) {j : Int} (h : j ≠ i) : fup f i v j = f j := if_neg h
abbrev rng (z : Int) : Prop := -2147483648 ≤ z ∧ z < 2147483648
abbrev rnL (z : Int) : Prop := -9223372036854775808 ≤ z ∧ z < 9223372036854775808
def okV : PV → Prop
  | .inl z => rng z
  | .inr (.inl _) => True
  | .inr (.inr z) => rnL z
def okM : ME → Prop
  | .inl q => (∀ j : Int, 0 ≤ j → j < (q.1 : Int) → rng (q.2 j)) ∧ ∀ j : Int, j < 0 ∨ (q.1 : Int) ≤ j → q.2 j = 0
  | .inr (.inl _) => True
  | .inr (.inr q) => ∀ v ∈ q.2, okV v
def okU (K : KX) (μ : Int → ME) : Prop := ∀ a : Int, 0 ≤ a → a < 60 → okM (μ a)
def okL (ls : List (Nat × PV)) : Prop := ∀ q ∈ ls, okV q.2
def okS (st : List PV) : Prop := ∀ v ∈ st, okV v
abbrev IR (a : Int) : Prop := 0 ≤ a ∧ a < 60
abbrev classes : List vw_C := [(RX0, TX0, 4), (RX1, TX1, 5), (RX2, TX2, 5), (RX3, TX3, 3), (RX4, TX4, 16), (RX5, TX5, 31)]
abbrev ktys (K : KX) : List (ClassId × FieldType) := [(K.2.2.1 0, .int), (K.2.2.1 1, .object RX1), (K.2.2.1 2, .object RX0)]
/-- the good words, one list for all methods -/
def GW : List Cond := lw_tbl.filter goodWord
theorem GW_good : ∀ w ∈ GW, goodWord w = true := fun _ h => (List.mem_filter.mp h).2
theorem GW_of {w : Cond} (i : Nat) (h : lw_tbl[i]? = some w) (g : goodWord w = true) : w ∈ GW := List.mem_filter.mpr ⟨List.mem_of_getElem? h, g⟩
theorem GW_in {y : MethodName} {bytes : ByteArray} {n : Nat} {ret : Option FieldType} (h : Cond.code y bytes n ret ∈ GW) : GoodIn GW (.code y bytes n ret :: GW) := fun w hw => by
  rcases List.mem_cons.mp hw with rfl | hw
  · exact ⟨h, good_of_word (GW_good _ h)⟩
  · exact ⟨hw, good_of_word (GW_good _ hw)⟩
/-- words on private members of nest mates: own, place, callee, host -/
def nestW : List (String × Nat × MethodName × String) := [(RX4, 26, yX3_init, RX4), (RX4, 33, yX2_init, RX4), (RX4, 56, yX1_init, RX4), (RX4, 57, yX0_init, RX4), (RX0, 26, yX4_isUpTo, RX4), (RX0, 33, yX4_isBelow, RX4), (RX1, 22, yX4_bearingOf, RX4), (RX1, 29, yX4_worthOfAll, RX4), (RX3, 21, yX4_worthOf, RX4), (RX1, 37, yX4_isGood, RX4), (RX1, 41, yX4_isUpTo, RX4), (RX2, 42, yX4_fillLosses, RX4), (RX2, 46, yX4_worthOfAll, RX4)]
def NW (U : State) : Prop := ∀ q ∈ nestW, va_Nw (.methodLinkNest q.1 q.2.1 q.2.2.1 q.2.2.2) U
theorem NW.warm {s U : State} (hW : s.WarmedH U.vm) (h : NW s) : NW U := fun q hq => (h q hq).warmM hW
theorem NW.same {s U : State} (hv : s.vm = U.vm) (h : NW s) : NW U := fun q hq => (h q hq).same rfl hv
def KW (K : KX) (U : State) : Prop := va_K K.2.1 classes (ktys K) U ∧ NW U
theorem KW.warm {K : KX} {s U : State} (hW : s.WarmedH U.vm) (h : KW K s) : KW K U := ⟨va_K.moved hW.alike h.1, h.2.warm hW⟩
abbrev LWD : Nat := 31
abbrev rmd (d : Nat) : Room := { frames := d, cells := 0, slots := 0, locals := 31 * d }
def okX (K : KX) (X : CX) (cc : ByteArray) (own : String) (nL d : Nat) (ret : Option FieldType) : Prop :=
  X.1.tables.exec = Jvm.exec ∧ X.2.2.2.2.2.2.2.2.1.code = cc ∧ X.2.2.2.2.2.2.2.2.1.maxLocals = nL ∧ X.2.2.2.1.vm.findClass own = some X.2.2.2.2.1.cls ∧
  (∀ w ∈ GW, w.before X.2.2.2.2.2.1 X.2.2.2.1 = true) ∧ KW K X.2.2.2.1 ∧ X.2.2.2.2.2.2.2.1.locks = false ∧ X.2.2.2.2.2.2.2.1.sig.returnType = ret ∧
  (d ≤ X.2.2.1.frames ∧ 31 * d ≤ X.2.2.1.locals) ∧ X.2.2.2.2.2.2.2.2.2.1 ≤ X.2.2.1.cells ∧ X.2.2.2.2.2.2.2.2.2.2 ≤ X.2.2.1.slots
/-- from this frame and this memory the machine comes to a state with Q -/
def PW (K : KX) (X : CX) (nL : Nat) (Q : State → Prop) (pc : Nat) (ls : List (Nat × PV)) (st : List PV) (μ : Int → ME) : Prop :=
  ∀ (H : Heap) (locs : List Loc) (la : Array Slot), va_P K.2.1 classes (wld K μ) H → va_S (reg K) X.2.2.2.1.heap H locs → lv_has la nL (ls.map (eL K)) → okU K μ → okL ls → okS st →
    W X.1 K.1 X.2.1 X.2.2.1 X.2.2.2.1 X.2.2.2.2.1 X.2.2.2.2.2.1 X.2.2.2.2.2.2.1 X.2.2.2.2.2.2.2.1 X.2.2.2.2.2.2.2.2.1 H locs X.2.2.2.2.2.2.2.2.2.1 X.2.2.2.2.2.2.2.2.2.2 Q (F0 X.2.2.2.2.1 pc la (st.map (eV K)))
/-- a method's end -/
def Qct (K : KX) (Post : Option PV → (Int → ME) → Prop) : Array Value → State → Outcome → State → Prop := fun _ st oc t =>
  (∃ (r : Option PV) (μ' : Int → ME), oc = .returned (r.map (eV K)) ∧ Post r μ' ∧ okU K μ' ∧ okS r.toList ∧ va_P K.2.1 classes (wld K μ') t.heap ∧ KW K t) ∧ va_F (reg K) st t
def QM (K : KX) (X : CX) (Post : Option PV → (Int → ME) → Prop) : State → Prop := MQ X.2.2.2.2.2.2.1 (Qct K Post) X.2.2.2.2.2.1 X.2.2.2.1 X.2.2.2.2.2.2.2.2.2.1 X.2.2.2.2.2.2.2.2.2.2 (reg K)
def Pct (K : KX) (av : List PV) (μ : Int → ME) : Array Value → State → Prop := va_Pc (av.map (eV K)) (fun U => va_P K.2.1 classes (wld K μ) U.heap ∧ KW K U)
/-- a method's CONTRACT: with d frames left, from this memory and these arguments -/
def Ct (K : KX) (d : Nat) (y : MethodName) (bytes : ByteArray) (maxL : Nat) (ret : Option FieldType) (av : List PV) (μ : Int → ME) (Post : Option PV → (Int → ME) → Prop) : Prop :=
  okU K μ → okS av → Met K.1 y (.code y bytes maxL ret :: GW) (rmd d) (Pct K av μ) (Qct K Post) 0 0 (reg K)
-- numbers
theorem zi {z : Int} (h : rng z) : (Int32.ofInt z).toInt = z := Int32.toInt_ofInt_of_le h.1 h.2
theorem zl {z : Int} (h : rnL z) : (Int64.ofInt z).toInt = z := Int64.toInt_ofInt_of_le h.1 h.2
theorem zi_lt {x y : Int} (hx : rng x) (hy : rng y) : Int32.ofInt x < Int32.ofInt y ↔ x < y := by rw [Int32.lt_iff_toInt_lt, zi hx, zi hy]
theorem zi_le {x y : Int} (hx : rng x) (hy : rng y) : Int32.ofInt x ≤ Int32.ofInt y ↔ x ≤ y := by rw [Int32.le_iff_toInt_le, zi hx, zi hy]
theorem zi_eq {x y : Int} (hx : rng x) (hy : rng y) : Int32.ofInt x = Int32.ofInt y ↔ x = y := by rw [← Int32.toInt_inj, zi hx, zi hy]
theorem rng_i (x : Int32) : rng x.toInt := ⟨Int32.le_toInt x, Int32.toInt_lt x⟩
theorem rng_l (x : Int64) : rnL x.toInt := ⟨Int64.le_toInt x, Int64.toInt_lt x⟩
theorem zi_cl {z : Int} (h : rng z) : (Int32.ofInt z).toNatClampNeg = z.toNat := by rw [← Int32.toNat_toInt, zi h]
theorem zi_in {z : Int} {n : Nat} (h0 : 0 ≤ z) (h1 : z < (n : Int)) (h : rng z) : vp_in (Int32.ofInt z) n := by
  rw [vp_in_iff, zi h]; exact ⟨h0, h1⟩
theorem b2v {n : Int} (h : -128 ≤ n ∧ n < 128) : (Int8.ofInt n).toInt32 = Int32.ofInt n := by
  rw [← Int32.toInt_inj, Int8.toInt_toInt32, Int8.toInt_ofInt_of_le h.1 h.2, zi ⟨by omega, by omega⟩]
theorem s2v {n : Int} (h : -32768 ≤ n ∧ n < 32768) : (Int16.ofInt n).toInt32 = Int32.ofInt n := by
  rw [← Int32.toInt_inj, Int16.toInt_toInt32, Int16.toInt_ofInt_of_le h.1 h.2, zi ⟨by omega, by omega⟩]
def iwr (z : Int) : Int := (Int32.ofInt z).toInt
theorem iwr_r (z : Int) : rng (iwr z) := rng_i _
theorem iwr_e (z : Int) : Int32.ofInt (iwr z) = Int32.ofInt z := Int32.ofInt_toInt _
theorem iwr_id {z : Int} (h : rng z) : iwr z = z := zi h
def iOr (x y : Int) : Int := (Int32.ofInt x ||| Int32.ofInt y).toInt
def iAnd (x y : Int) : Int := (Int32.ofInt x &&& Int32.ofInt y).toInt
def iShl (x y : Int) : Int := (Int32.ofInt x <<< (Int32.ofInt y &&& 31)).toInt
def iShr (x y : Int) : Int := (Int32.ofInt x >>> (Int32.ofInt y &&& 31)).toInt
def iUshr (x y : Int) : Int := ((Int32.ofInt x).toUInt32 >>> ((Int32.ofInt y).toUInt32 &&& Int32.toUInt32 31)).toInt32.toInt
def i2b (x : Int) : Int := (Int32.ofInt x).toInt8.toInt32.toInt
def i2s (x : Int) : Int := (Int32.ofInt x).toInt16.toInt32.toInt
-- lists
theorem okS.tl {v : PV} {st : List PV} (h : okS (v :: st)) : okS st := fun w hw => h w (List.mem_cons_of_mem _ hw)
theorem okS.hd {v : PV} {st : List PV} (h : okS (v :: st)) : okV v := h v List.mem_cons_self
theorem okS.cons {v : PV} {st : List PV} (hv : okV v) (h : okS st) : okS (v :: st) := fun w hw => by
  rcases List.mem_cons.mp hw with rfl | hw
  · exact hv
  · exact h w hw
theorem okS.nil : okS [] := fun _ h => by cases h
theorem okS.app {a b : List PV} (ha : okS a) (hb : okS b) : okS (a ++ b) := fun v hv => (List.mem_append.mp hv).elim (ha v) (hb v)
def lk : List (Nat × PV) → Nat → Option PV
  | [], _ => none
  | (j, v) :: l, i => bif j == i then some v else lk l i
theorem lk_mem : ∀ {ls : List (Nat × PV)} {i : Nat} {v : PV}, lk ls i = some v → (i, v) ∈ ls
  | [], i, v, h => by cases h
  | (j, w) :: l, i, v, h => by
    simp only [lk] at h
    cases hji : (j == i) with
    | true =>
      rw [hji] at h
      cases h
      rw [beq_iff_eq] at hji
      subst hji
      exact List.mem_cons_self
    | false =>
      rw [hji] at h
      exact List.mem_cons_of_mem _ (lk_mem h)
theorem lk_at {K : KX} {la : Array Slot} {nL : Nat} {ls : List (Nat × PV)} {i : Nat} {v : PV} (hl : lv_has la nL (ls.map (eL K))) (h : lk ls i = some v) : la[i]? = some (.val (eV K v)) :=
  hl.2.2 (i, eV K v) (List.mem_map.mpr ⟨(i, v), lk_mem h, rfl⟩)
theorem okL_at {ls : List (Nat × PV)} {i : Nat} {v : PV} (h : okL ls) (hk : lk ls i = some v) : okV v := h (i, v) (lk_mem hk)
def isL : PV → Bool
  | .inr (.inr _) => true
  | _ => false
theorem cat_eV (K : KX) (v : PV) : (eV K v).category = if isL v = true then 2 else 1 := by
  match v with
  | .inl _ => rfl
  | .inr (.inl none) => rfl
  | .inr (.inl (some _)) => rfl
  | .inr (.inr _) => rfl
/-- a local is set -/
def sl (ls : List (Nat × PV)) (i : Nat) (v : PV) : List (Nat × PV) := (i, v) :: ls.filter (fun q => !(q.1 == i) && !(q.1 + 1 == i && isL q.2))
def slL (ls : List (Nat × PV)) (i : Nat) (v : PV) : List (Nat × PV) := (i, v) :: ls.filter (fun q => !(q.1 == i) && (!(q.1 == i + 1) && !(q.1 + 1 == i && isL q.2)))
theorem isL_cat (K : KX) (v : PV) : ((eV K v).category == 2) = isL v := by
  rw [cat_eV]; cases isL v <;> rfl
theorem sl_map (K : KX) (ls : List (Nat × PV)) (i : Nat) (v : PV) : (i, eV K v) :: (ls.map (eL K)).filter (fun q => !(q.1 == i) && !(q.1 + 1 == i && q.2.category == 2)) = (sl ls i v).map (eL K) := by
  unfold sl
  rw [List.map_cons, List.filter_map]
  congr 2
  apply List.filter_congr
  intro q _
  simp only [Function.comp, isL_cat]
theorem slL_map (K : KX) (ls : List (Nat × PV)) (i : Nat) (v : PV) : (i, eV K v) :: (ls.map (eL K)).filter (fun q => !(q.1 == i) && (!(q.1 == i + 1) && !(q.1 + 1 == i && q.2.category == 2))) = (slL ls i v).map (eL K) := by
  unfold slL
  rw [List.map_cons, List.filter_map]
  congr 2
  apply List.filter_congr
  intro q _
  simp only [Function.comp, isL_cat]
theorem okL_sl {ls : List (Nat × PV)} {i : Nat} {v : PV} (h : okL ls) (hv : okV v) : okL (sl ls i v) := fun q hq => by
  rcases List.mem_cons.mp hq with rfl | hq
  · exact hv
  · exact h q (List.mem_filter.mp hq).1
theorem okL_slL {ls : List (Nat × PV)} {i : Nat} {v : PV} (h : okL ls) (hv : okV v) : okL (slL ls i v) := fun q hq => by
  rcases List.mem_cons.mp hq with rfl | hq
  · exact hv
  · exact h q (List.mem_filter.mp hq).1
/-- the locals with which a method begins -/
def argl : Nat → List PV → List (Nat × PV)
  | _, [] => []
  | i, v :: vs => (i, v) :: argl (bif isL v then i + 2 else i + 1) vs
theorem argl_map (K : KX) : ∀ (i : Nat) (vs : List PV), lv_args i (vs.map (eV K)) = (argl i vs).map (eL K)
  | _, [] => rfl
  | i, v :: vs => by
    simp only [List.map_cons, lv_args, argl]
    rw [← argl_map K, cat_eV]
    cases isL v <;> rfl
theorem okL_argl : ∀ {i : Nat} {vs : List PV}, okS vs → okL (argl i vs)
  | _, [], _ => fun _ h => by cases h
  | i, v :: vs, h => fun q hq => by
    rcases List.mem_cons.mp hq with rfl | hq
    · exact h.hd
    · exact okL_argl h.tl q hq
-- the world
theorem wld_at {K : KX} {a : Int} (μ : Int → ME) (h : IR a) : (wld K μ)[a.toNat]? = some (kad K a, eM K (μ a)) := by
  unfold wld
  have hl : a.toNat < 60 := by omega
  rw [List.getElem?_map, List.getElem?_range hl]
  have e1 : ((a.toNat : Nat) : Int) = a := by omega
  have e2 : K.2.2.2 + a.toNat = kad K a := by unfold kad; omega
  simp only [Option.map_some, e1, e2]
theorem wld_set {K : KX} {a : Int} {μ : Int → ME} {o : ME} (h : IR a) : (wld K μ).set a.toNat (kad K a, eM K o) = wld K (mup μ a o) := by
  apply List.ext_getElem?
  intro j
  by_cases hj : j = a.toNat
  · subst hj
    have hl : a.toNat < (wld K μ).length := by unfold wld; simp; omega
    rw [List.getElem?_set_self hl, wld_at _ h, mup_s]
  · rw [List.getElem?_set_ne (fun q => hj q.symm)]
    unfold wld
    rw [List.getElem?_map, List.getElem?_map]
    by_cases hl : j < 60
    · rw [List.getElem?_range hl]
      simp only [Option.map_some]
      rw [mup_n _ _ _ (by omega)]
    · rw [List.getElem?_eq_none (by simpa using hl)]
      rfl
theorem wld_D (K : KX) (μ : Int → ME) : va_D (reg K) (wld K μ) := by
  have key : ∀ (i : Nat) (p : Nat × va_E), (wld K μ)[i]? = some p → i < 60 ∧ p.1 = K.2.2.2 + i := by
    intro i p h
    unfold wld at h
    rw [List.getElem?_map] at h
    by_cases hl : i < 60
    · rw [List.getElem?_range hl] at h
      cases h
      exact ⟨hl, rfl⟩
    · rw [List.getElem?_eq_none (by simpa using hl)] at h
      cases h
  refine ⟨fun i j p q hi hj hpq => ?_, fun k q hk => ?_⟩
  · have h1 := (key i p hi).2
    have h2 := (key j q hj).2
    omega
  · have h1 := key k q hk
    unfold reg
    omega
theorem okU_mup {K : KX} {μ : Int → ME} {a : Int} {o : ME} (h : okU K μ) (ho : okM o) : okU K (mup μ a o) := fun j h0 h1 => by
  unfold mup
  split
  · exact ho
  · exact h j h0 h1
