/-- cells copied -/
def fcp (f g : Int → Int) (sp dp n : Int) : Int → Int := fun k => if dp ≤ k ∧ k < dp + n then f (sp + (k - dp)) else g k
theorem kl_X1_48 : Cond.methodLink RX1 48 arraycopyName ∈ GW := GW_of 383 (by decide +kernel) (by decide +kernel)
theorem kl_X2_50 : Cond.methodLink RX2 50 arraycopyName ∈ GW := GW_of 455 (by decide +kernel) (by decide +kernel)
theorem kl_X4_234 : Cond.methodLink RX4 234 arraycopyName ∈ GW := GW_of 536 (by decide +kernel) (by decide +kernel)
theorem w_cpN : Cond.native arraycopyName ∈ GW := GW_of 385 (by decide +kernel) (by decide +kernel)
theorem w_cpS : Cond.static arraycopyName ∈ GW := GW_of 384 (by decide +kernel) (by decide +kernel)
theorem w_cpI : Cond.initialized "java/lang/System" ∈ GW := GW_of 63 (by decide +kernel) (by decide +kernel)
section PMCOPY
variable {K : KX} {X : CX} {nL d : Nat} {Q : State → Prop} {cc : ByteArray} {own : String} {ret : Option FieldType} {pc : Nat} {ls : List (Nat × PV)} {μ : Int → ME}
theorem p_copy (C : okX K X cc own nL (d + 1) ret) {idx : Nat} {a0 a sp dp n : Int} {n0 n1 : Nat} {f g : Int → Int} (hw : Cond.methodLink own idx arraycopyName ∈ GW) (dg : decode cc pc = .ok (.invokestatic idx, 3)) (ha0 : IR a0) (ha : IR a) (hm0 : μ a0 = mA n0 f) (hm : μ a = mA n1 g) (h1 : 0 ≤ sp) (h2 : 0 ≤ dp) (h3 : 0 ≤ n) (h4 : sp + n ≤ (n0 : Int)) (h5 : dp + n ≤ (n1 : Int)) (kk : PW K X nL Q (pc + 3) ls [] (mup μ a (mA n1 (fcp f g sp dp n)))) : PW K X nL Q pc ls [vI n, vI dp, vR a, vI sp, vR a0] μ := fun H locs la hP hS hl hμ hL hs => by
  have rn : rng n := hs.hd
  have rd : rng dp := hs.tl.hd
  have rs : rng sp := hs.tl.tl.tl.hd
  have o0 : okM (μ a0) := hμ a0 ha0.1 ha0.2
  have o1 : okM (μ a) := hμ a ha.1 ha.2
  rw [hm0] at o0
  rw [hm] at o1
  have ng : ∀ {z : Int}, 0 ≤ z → rng z → ¬ Int32.ofInt z < 0 := fun hz hr h => by
    rw [show (0 : Int32) = Int32.ofInt 0 from rfl, zi_lt hr (by decide)] at h; omega
  refine va_copyi (n0 := n0) (n1 := n1) (f := fun j => Int32.ofInt (f (j : Int))) (g := fun j => Int32.ofInt (g (j : Int))) (c0 := K.2.2.1 0) (c1 := K.2.2.1 0) (A := reg K) (rest := []) C.1 C.2.1 (by rw [C.2.2.1]; exact hl.1.symm) C.2.2.2.1 (C.2.2.2.2.1 _ hw) (C.2.2.2.2.1 _ w_cpN) (C.2.2.2.2.1 _ w_cpS) (C.2.2.2.2.1 _ w_cpI) C.2.2.2.2.2.1.1 hP (wld_D K μ) hS a0.toNat a.toNat 0 0 (a0 := kad K a0) (a := kad K a) (ty := .int) ?_ ?_ rfl rfl rfl (ng h1 rs) (ng h2 rd) (ng h3 rn) ?_ ?_ (fun i _ => rfl) ?_ ?_ dg ?_
  · rw [wld_at μ ha0, hm0]; rfl
  · rw [wld_at μ ha, hm]; rfl
  · rw [zi_cl rs, zi_cl rn]; omega
  · rw [zi_cl rd, zi_cl rn]; omega
  · have := C.2.2.2.2.2.2.2.2.1.1; omega
  · have := C.2.2.2.2.2.2.2.2.1.2
    refine Nat.le_trans ?_ (Nat.le_trans (show 31 ≤ 31 * (d + 1) by omega) this)
    decide
  · intro H1 locs1 g1 _ g3
    have e : va_cpy (fun j : Nat => Int32.ofInt (f (j : Int))) (fun j : Nat => Int32.ofInt (g (j : Int))) (Int32.ofInt sp).toNatClampNeg (Int32.ofInt dp).toNatClampNeg (Int32.ofInt n).toNatClampNeg = fun j : Nat => Int32.ofInt (fcp f g sp dp n (j : Int)) := by
      funext j
      rw [zi_cl rs, zi_cl rd, zi_cl rn]
      unfold va_cpy fcp
      by_cases h : dp.toNat ≤ j ∧ j < dp.toNat + n.toNat
      · rw [if_pos h, if_pos (by omega)]
        dsimp only
        rw [show ((sp.toNat + (j - dp.toNat) : Nat) : Int) = sp + ((j : Int) - dp) by omega]
      · rw [if_neg h, if_neg (by omega)]
    rw [e, show (Sum.inl (K.2.2.1 0, n1, Sum.inl fun j : Nat => Int32.ofInt (fcp f g sp dp n (j : Int))) : va_E) = eM K (mA n1 (fcp f g sp dp n)) from rfl, wld_set ha] at g1
    refine kk H1 locs1 la g1 g3 hl (okU_mup hμ ?_) hL okS.nil
    refine ⟨fun j j0 j1 => ?_, fun j hj => ?_⟩
    · show rng (fcp f g sp dp n j)
      unfold fcp
      split
      · exact o0.1 _ (by omega) (by omega)
      · exact o1.1 j j0 j1
    · show fcp f g sp dp n j = 0
      have hj' : j < 0 ∨ (n1 : Int) ≤ j := hj
      unfold fcp
      rw [if_neg (by omega)]
      exact o1.2 j hj
end PMCOPY
