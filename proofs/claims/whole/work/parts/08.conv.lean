/-! rows for calls with a functional contract; branches on a truth value; constants folded -/
abbrev pF (v : PV) (μ1 : Int → ME) : Option PV → (Int → ME) → Prop := fun r μ' => r = some v ∧ μ' = μ1
abbrev pU (μ1 : Int → ME) : Option PV → (Int → ME) → Prop := fun r μ' => r = none ∧ μ' = μ1
section PMCONV
variable {K : KX} {X : CX} {nL d : Nat} {Q : State → Prop} {cc : ByteArray} {own : String} {ret : Option FieldType} {pc : Nat} {ls : List (Nat × PV)} {st : List PV} {μ μ1 : Int → ME}
theorem p_callVF (C : okX K X cc own nL (d + 1) ret) {idx n maxL : Nat} {y : MethodName} {bytes : ByteArray} {retc : Option FieldType} {v : PV} {av rest : List PV} {a : Int} {ci : Nat} {fs : List PV} {q : vw_C} (L : LnkV own idx y bytes maxL retc n) (dg : decode cc pc = .ok (.invokevirtual idx, 3)) (hM : Ct K d y bytes maxL retc (vR a :: av) μ (pF v μ1)) (ha : IR a) (hm : μ a = mO ci fs) (hc : classes[ci]? = some q) (hq : q.1 = y.cls) (hn : av.length = n) (hst : st = av.reverse ++ vR a :: rest) (hsz : (rest.map fun v => if isL v = true then 2 else 1).sum ≤ 8)
    (kk : PW K X nL Q (pc + 3) ls (v :: rest) μ1) : PW K X nL Q pc ls st μ :=
  p_callV C L dg hM ha hm hc hq hn hst hsz (fun r μ' h => by obtain ⟨rfl, rfl⟩ := h; exact kk)
theorem p_callSF (C : okX K X cc own nL (d + 1) ret) {idx n maxL : Nat} {y : MethodName} {bytes : ByteArray} {retc : Option FieldType} {v : PV} {av rest : List PV} (L : LnkS own idx y bytes maxL retc n) (dg : decode cc pc = .ok (.invokestatic idx, 3)) (hM : Ct K d y bytes maxL retc av μ (pF v μ1)) (hn : av.length = n) (hst : st = av.reverse ++ rest) (hsz : (rest.map fun v => if isL v = true then 2 else 1).sum ≤ 8)
    (kk : PW K X nL Q (pc + 3) ls (v :: rest) μ1) : PW K X nL Q pc ls st μ :=
  p_callS C L dg hM hn hst hsz (fun r μ' h => by obtain ⟨rfl, rfl⟩ := h; exact kk)
theorem p_callNF (C : okX K X cc own nL (d + 1) ret) {idx n maxL : Nat} {y : MethodName} {host : String} {bytes : ByteArray} {retc : Option FieldType} {v : PV} {av rest : List PV} (L : LnkN own idx y host bytes maxL retc n) (dg : decode cc pc = .ok (.invokestatic idx, 3)) (hM : Ct K d y bytes maxL retc av μ (pF v μ1)) (hn : av.length = n) (hst : st = av.reverse ++ rest) (hsz : (rest.map fun v => if isL v = true then 2 else 1).sum ≤ 8)
    (kk : PW K X nL Q (pc + 3) ls (v :: rest) μ1) : PW K X nL Q pc ls st μ :=
  p_callN C L dg hM hn hst hsz (fun r μ' h => by obtain ⟨rfl, rfl⟩ := h; exact kk)
theorem p_callVU (C : okX K X cc own nL (d + 1) ret) {idx n maxL : Nat} {y : MethodName} {bytes : ByteArray} {retc : Option FieldType} {av rest : List PV} {a : Int} {ci : Nat} {fs : List PV} {q : vw_C} (L : LnkV own idx y bytes maxL retc n) (dg : decode cc pc = .ok (.invokevirtual idx, 3)) (hM : Ct K d y bytes maxL retc (vR a :: av) μ (pU μ1)) (ha : IR a) (hm : μ a = mO ci fs) (hc : classes[ci]? = some q) (hq : q.1 = y.cls) (hn : av.length = n) (hst : st = av.reverse ++ vR a :: rest) (hsz : (rest.map fun v => if isL v = true then 2 else 1).sum ≤ 8)
    (kk : PW K X nL Q (pc + 3) ls rest μ1) : PW K X nL Q pc ls st μ :=
  p_callV C L dg hM ha hm hc hq hn hst hsz (fun r μ' h => by obtain ⟨rfl, rfl⟩ := h; exact kk)
theorem p_callSU (C : okX K X cc own nL (d + 1) ret) {idx n maxL : Nat} {y : MethodName} {bytes : ByteArray} {retc : Option FieldType} {av rest : List PV} (L : LnkS own idx y bytes maxL retc n) (dg : decode cc pc = .ok (.invokestatic idx, 3)) (hM : Ct K d y bytes maxL retc av μ (pU μ1)) (hn : av.length = n) (hst : st = av.reverse ++ rest) (hsz : (rest.map fun v => if isL v = true then 2 else 1).sum ≤ 8)
    (kk : PW K X nL Q (pc + 3) ls rest μ1) : PW K X nL Q pc ls st μ :=
  p_callS C L dg hM hn hst hsz (fun r μ' h => by obtain ⟨rfl, rfl⟩ := h; exact kk)
theorem p_callNU (C : okX K X cc own nL (d + 1) ret) {idx n maxL : Nat} {y : MethodName} {host : String} {bytes : ByteArray} {retc : Option FieldType} {av rest : List PV} (L : LnkN own idx y host bytes maxL retc n) (dg : decode cc pc = .ok (.invokestatic idx, 3)) (hM : Ct K d y bytes maxL retc av μ (pU μ1)) (hn : av.length = n) (hst : st = av.reverse ++ rest) (hsz : (rest.map fun v => if isL v = true then 2 else 1).sum ≤ 8)
    (kk : PW K X nL Q (pc + 3) ls rest μ1) : PW K X nL Q pc ls st μ :=
  p_callN C L dg hM hn hst hsz (fun r μ' h => by obtain ⟨rfl, rfl⟩ := h; exact kk)
theorem p_ifeq_b (C : okX K X cc own nL d ret) {P : Prop} {i : Decidable P} {off : Int} {tgt : Nat} (dg : decode cc pc = .ok (.ifCond .eq off, 3)) (ht : (pc : Int) + off = (tgt : Int)) (k1 : ¬ P → PW K X nL Q tgt ls st μ) (k2 : P → PW K X nL Q (pc + 3) ls st μ) : PW K X nL Q pc ls (vI (@ite Int P i 1 0) :: st) μ :=
  p_if_eq C dg ht (fun h => k1 (fun p => by rw [if_pos p] at h; exact absurd h (by decide))) (fun h => by
    by_cases p : P
    · exact k2 p
    · rw [if_neg p] at h; exact absurd rfl h)
theorem p_ifne_b (C : okX K X cc own nL d ret) {P : Prop} {i : Decidable P} {off : Int} {tgt : Nat} (dg : decode cc pc = .ok (.ifCond .ne off, 3)) (ht : (pc : Int) + off = (tgt : Int)) (k1 : P → PW K X nL Q tgt ls st μ) (k2 : ¬ P → PW K X nL Q (pc + 3) ls st μ) : PW K X nL Q pc ls (vI (@ite Int P i 1 0) :: st) μ :=
  p_if_ne C dg ht (fun h => by
    by_cases p : P
    · exact k1 p
    · rw [if_neg p] at h; exact absurd rfl h) (fun h => k2 (fun p => by rw [if_pos p] at h; exact absurd h (by decide)))
theorem p_iaddC (C : okX K X cc own nL d ret) {x y w : Int} (dg : decode cc pc = .ok (.iadd, 1)) (hw : x + y = w) (hr : rng w) (k : PW K X nL Q (pc + 1) ls (vI w :: st) μ) : PW K X nL Q pc ls (vI y :: vI x :: st) μ := by
  subst hw; exact p_iadd C dg hr k
theorem p_isubC (C : okX K X cc own nL d ret) {x y w : Int} (dg : decode cc pc = .ok (.isub, 1)) (hw : x - y = w) (hr : rng w) (k : PW K X nL Q (pc + 1) ls (vI w :: st) μ) : PW K X nL Q pc ls (vI y :: vI x :: st) μ := by
  subst hw; exact p_isub C dg hr k
theorem p_imulC (C : okX K X cc own nL d ret) {x y w : Int} (dg : decode cc pc = .ok (.imul, 1)) (hw : x * y = w) (hr : rng w) (k : PW K X nL Q (pc + 1) ls (vI w :: st) μ) : PW K X nL Q pc ls (vI y :: vI x :: st) μ := by
  subst hw; exact p_imul C dg hr k
theorem p_iincC (C : okX K X cc own nL d ret) {i : Nat} {n z w : Int} {ls' : List (Nat × PV)} (dg : decode cc pc = .ok (.iinc i n, 3)) (hi : i < nL) (hk : lk ls i = some (vI z)) (hw : z + n = w) (hr : rng w) (h : sl ls i (vI w) = ls') (k : PW K X nL Q (pc + 3) ls' st μ) : PW K X nL Q pc ls st μ := by
  subst hw; exact p_iinc C dg hi hk hr h k
/-- a value under another name -/
theorem p_top {z w : Int} (h : z = w) (k : PW K X nL Q pc ls (vI w :: st) μ) : PW K X nL Q pc ls (vI z :: st) μ := h ▸ k
theorem p_topL {z w : Int} (h : z = w) (k : PW K X nL Q pc ls (vL w :: st) μ) : PW K X nL Q pc ls (vL z :: st) μ := h ▸ k
theorem p_mem {μ' : Int → ME} (h : μ = μ') (k : PW K X nL Q pc ls st μ') : PW K X nL Q pc ls st μ := h ▸ k
theorem p_ls {ls' : List (Nat × PV)} (h : ls = ls') (k : PW K X nL Q pc ls' st μ) : PW K X nL Q pc ls st μ := h ▸ k
end PMCONV
theorem Ct.mono {K : KX} {d maxL : Nat} {y : MethodName} {bytes : ByteArray} {ret : Option FieldType} {av : List PV} {μ : Int → ME} {P P' : Option PV → (Int → ME) → Prop} (h : Ct K d y bytes maxL ret av μ P) (hp : P = P') : Ct K d y bytes maxL ret av μ P' := hp ▸ h
