abbrev pE (v : PV) (P : (Int → ME) → Prop) : Option PV → (Int → ME) → Prop := fun r μ' => r = some v ∧ P μ'
section PMCONV3
variable {K : KX} {X : CX} {nL d : Nat} {Q : State → Prop} {cc : ByteArray} {own : String} {ret : Option FieldType} {pc : Nat} {ls : List (Nat × PV)} {st : List PV} {μ : Int → ME}
theorem p_callVE (C : okX K X cc own nL (d + 1) ret) {idx n maxL : Nat} {y : MethodName} {bytes : ByteArray} {retc : Option FieldType} {v : PV} {P : (Int → ME) → Prop} {av rest : List PV} {a : Int} {ci : Nat} {fs : List PV} {q : vw_C}  (L : LnkV own idx y bytes maxL retc n) (dg : decode cc pc = .ok (.invokevirtual idx, 3)) (hM : Ct K d y bytes maxL retc (vR a :: av) μ (pE v P)) (ha : IR a) (hm : μ a = mO ci fs) (hc : classes[ci]? = some q) (hq : q.1 = y.cls) (hn : av.length = n) (hst : st = av.reverse ++ vR a :: rest) (hsz : (rest.map fun v => if isL v = true then 2 else 1).sum ≤ 8)
    (kk : ∀ μ' : Int → ME, P μ' → PW K X nL Q (pc + 3) ls (v :: rest) μ') : PW K X nL Q pc ls st μ :=
  p_callV C L dg hM ha hm hc hq hn hst hsz (fun r μ' h => by obtain ⟨rfl, h⟩ := h; exact kk μ' h)
theorem p_callSE (C : okX K X cc own nL (d + 1) ret) {idx n maxL : Nat} {y : MethodName} {bytes : ByteArray} {retc : Option FieldType} {v : PV} {P : (Int → ME) → Prop} {av rest : List PV}  (L : LnkS own idx y bytes maxL retc n) (dg : decode cc pc = .ok (.invokestatic idx, 3)) (hM : Ct K d y bytes maxL retc av μ (pE v P)) (hn : av.length = n) (hst : st = av.reverse ++ rest) (hsz : (rest.map fun v => if isL v = true then 2 else 1).sum ≤ 8)
    (kk : ∀ μ' : Int → ME, P μ' → PW K X nL Q (pc + 3) ls (v :: rest) μ') : PW K X nL Q pc ls st μ :=
  p_callS C L dg hM hn hst hsz (fun r μ' h => by obtain ⟨rfl, h⟩ := h; exact kk μ' h)
end PMCONV3
theorem iOr_0 {w : Int} (h : rng w) : iOr w 0 = w := by
  unfold iOr
  rw [show Int32.ofInt 0 = 0 from rfl, Int32.or_zero, zi h]
theorem iOr_r (x y : Int) : rng (iOr x y) := rng_i _
theorem metN_r (nm : Int → Int) (ca : Int → Int → Int) : ∀ t : Nat, rng (metN nm ca t)
  | 0 => by rw [metN]; decide
  | t + 1 => by
    rw [metN]
    split
    · exact iOr_r _ _
    · exact metN_r nm ca t

set_option maxHeartbeats 4000000 in
set_option maxRecDepth 100000 in
theorem k_X5_keep {K : KX} {d : Nat} {μ : Int → ME} {fl tr np ns day at_ rP rS lp lw lf sL sF nr : Int} (h0 : μ 42 = oM fl tr np ns day at_ rP rS lp lw lf sL sF nr) (hns : 0 ≤ ns ∧ ns ≤ 5) {p c x0 y0 : Int → Int} (h1 : μ 50 = mA 5 p) (h2 : μ 51 = mA 20 c) (h3 : μ 54 = mA 5 x0) (h4 : μ 55 = mA 20 y0) : Ct K (d) yX5_keep cX5_keep 2 none [vR 42] μ (pV (fun μ' => ∃ x y : Int → Int, μ' = mup (mup μ 54 (mA 5 x)) 55 (mA 20 y) ∧ (∀ k, 0 ≤ k → k < ns → x k = p k) ∧ (∀ q, 0 ≤ q → q < 4 * ns → y q = c q))) := by
  refine Ct.of (by decide) (Nat.le_of_ble_eq_true rfl) (fun X C => ?_)
  have L20 : ∀ x : Int → Int, (∀ k, 0 ≤ k → k < ns → x k = p k) → PW K X 2 (QM K X (pV (fun μ' => ∃ x y : Int → Int, μ' = mup (mup μ 54 (mA 5 x)) 55 (mA 20 y) ∧ (∀ k, 0 ≤ k → k < ns → x k = p k) ∧ (∀ q, 0 ≤ q → q < 4 * ns → y q = c q)))) 30 [(1, vI 0), (0, vR 42)] [] (mup μ 54 (mA 5 x)) := by
    intro x hx
    have L2 : ∀ (t : Nat) (i : Int) (y : Int → Int), 0 ≤ i → 4 * ns - i = (t : Int) → (∀ q, 0 ≤ q → q < i → y q = c q) → PW K X 2 (QM K X (pV (fun μ' => ∃ x y : Int → Int, μ' = mup (mup μ 54 (mA 5 x)) 55 (mA 20 y) ∧ (∀ k, 0 ≤ k → k < ns → x k = p k) ∧ (∀ q, 0 ≤ q → q < 4 * ns → y q = c q)))) 30 [(1, vI i), (0, vR 42)] [] (mup (mup μ 54 (mA 5 x)) 55 (mA 20 y)) := by
      intro t
      induction t with
      | zero =>
        intro i y g1 g2 g3
        refine p_iload_n (pc := 30) C dX5_keep_30 rfl ?_
        refine p_iconst (pc := 31) C dX5_keep_31 (by decide) ?_
        refine p_aload_n (pc := 32) C dX5_keep_32 rfl ?_
        refine p_get (pc := 33) C fl_X5_71 dX5_keep_33 ⟨by omega, by omega⟩ (by (repeat refine mg_n (by omega) ?_); first | assumption | exact mup_s _ _ _) (by rfl) ?_
        refine p_imul (pc := 36) C dX5_keep_36 ⟨by omega, by omega⟩ ?_
        refine p_icmp_ge (pc := 37) (tgt := 58) C dX5_keep_37 (by decide) (fun c_37 => ?_) (fun h => by exfalso; omega)
        refine p_vret (pc := 58) C dX5_keep_58 ?_
        exact ⟨rfl, x, y, rfl, hx, fun q q0 q1 => g3 q q0 (by omega)⟩
      | succ t ih =>
        intro i y g1 g2 g3
        refine p_iload_n (pc := 30) C dX5_keep_30 rfl ?_
        refine p_iconst (pc := 31) C dX5_keep_31 (by decide) ?_
        refine p_aload_n (pc := 32) C dX5_keep_32 rfl ?_
        refine p_get (pc := 33) C fl_X5_71 dX5_keep_33 ⟨by omega, by omega⟩ (by (repeat refine mg_n (by omega) ?_); first | assumption | exact mup_s _ _ _) (by rfl) ?_
        refine p_imul (pc := 36) C dX5_keep_36 ⟨by omega, by omega⟩ ?_
        refine p_icmp_ge (pc := 37) (tgt := 58) C dX5_keep_37 (by decide) (fun h => by exfalso; omega) (fun c_37 => ?_)
        refine p_aload_n (pc := 40) C dX5_keep_40 rfl ?_
        refine p_get (pc := 41) C fl_X5_46 dX5_keep_41 ⟨by omega, by omega⟩ (by (repeat refine mg_n (by omega) ?_); first | assumption | exact mup_s _ _ _) (by rfl) ?_
        refine p_iload_n (pc := 44) C dX5_keep_44 rfl ?_
        refine p_aload_n (pc := 45) C dX5_keep_45 rfl ?_
        refine p_get (pc := 46) C fl_X5_34 dX5_keep_46 ⟨by omega, by omega⟩ (by (repeat refine mg_n (by omega) ?_); first | assumption | exact mup_s _ _ _) (by rfl) ?_
        refine p_iload_n (pc := 49) C dX5_keep_49 rfl ?_
        refine p_iald (pc := 50) C dX5_keep_50 ⟨by omega, by omega⟩ (by (repeat refine mg_n (by omega) ?_); first | assumption | exact mup_s _ _ _) (by omega) ?_
        refine p_iast (pc := 51) C dX5_keep_51 ⟨by omega, by omega⟩ (by (repeat refine mg_n (by omega) ?_); first | assumption | exact mup_s _ _ _) (by omega) ?_
        try refine p_mem (mup_mup _ _ _ _) ?_
        refine p_iinc (pc := 52) (ls' := [(1, _), (0, _)]) C dX5_keep_52 (by decide) rfl ⟨by omega, by omega⟩ rfl ?_
        refine p_goto (pc := 55) (tgt := 30) C dX5_keep_55 (by decide) ?_
        refine ih (i + 1) _ (by omega) (by omega) (fun q q0 q1 => ?_)
        by_cases e : q = i
        · subst e; rw [fup_s]
        · rw [fup_n _ _ _ e]; exact g3 q q0 (by omega)
    refine p_mem ?_ (L2 (4 * ns).toNat 0 y0 (by omega) (by omega) (fun q q0 q1 => by omega))
    rw [mup_id (μ := mup μ 54 _) (a := 55) (mg_n (by omega) h4)]
  have L : ∀ (t : Nat) (i : Int) (x : Int → Int), 0 ≤ i → ns - i = (t : Int) → (∀ k, 0 ≤ k → k < i → x k = p k) → PW K X 2 (QM K X (pV (fun μ' => ∃ x y : Int → Int, μ' = mup (mup μ 54 (mA 5 x)) 55 (mA 20 y) ∧ (∀ k, 0 ≤ k → k < ns → x k = p k) ∧ (∀ q, 0 ≤ q → q < 4 * ns → y q = c q)))) 2 [(1, vI i), (0, vR 42)] [] (mup μ 54 (mA 5 x)) := by
    intro t
    induction t with
    | zero =>
      intro i x g1 g2 g3
      refine p_iload_n (pc := 2) C dX5_keep_2 rfl ?_
      refine p_aload_n (pc := 3) C dX5_keep_3 rfl ?_
      refine p_get (pc := 4) C fl_X5_71 dX5_keep_4 ⟨by omega, by omega⟩ (by (repeat refine mg_n (by omega) ?_); first | assumption | exact mup_s _ _ _) (by rfl) ?_
      refine p_icmp_ge (pc := 7) (tgt := 28) C dX5_keep_7 (by decide) (fun c_7 => ?_) (fun h => by exfalso; omega)
      refine p_iconst (pc := 28) C dX5_keep_28 (by decide) ?_
      refine p_istore_n (pc := 29) (ls' := [(1, _), (0, _)]) C dX5_keep_29 (by decide) rfl ?_
      exact L20 x (fun k k0 k1 => g3 k k0 (by omega))
    | succ t ih =>
      intro i x g1 g2 g3
      refine p_iload_n (pc := 2) C dX5_keep_2 rfl ?_
      refine p_aload_n (pc := 3) C dX5_keep_3 rfl ?_
      refine p_get (pc := 4) C fl_X5_71 dX5_keep_4 ⟨by omega, by omega⟩ (by (repeat refine mg_n (by omega) ?_); first | assumption | exact mup_s _ _ _) (by rfl) ?_
      refine p_icmp_ge (pc := 7) (tgt := 28) C dX5_keep_7 (by decide) (fun h => by exfalso; omega) (fun c_7 => ?_)
      refine p_aload_n (pc := 10) C dX5_keep_10 rfl ?_
      refine p_get (pc := 11) C fl_X5_43 dX5_keep_11 ⟨by omega, by omega⟩ (by (repeat refine mg_n (by omega) ?_); first | assumption | exact mup_s _ _ _) (by rfl) ?_
      refine p_iload_n (pc := 14) C dX5_keep_14 rfl ?_
      refine p_aload_n (pc := 15) C dX5_keep_15 rfl ?_
      refine p_get (pc := 16) C fl_X5_31 dX5_keep_16 ⟨by omega, by omega⟩ (by (repeat refine mg_n (by omega) ?_); first | assumption | exact mup_s _ _ _) (by rfl) ?_
      refine p_iload_n (pc := 19) C dX5_keep_19 rfl ?_
      refine p_iald (pc := 20) C dX5_keep_20 ⟨by omega, by omega⟩ (by (repeat refine mg_n (by omega) ?_); first | assumption | exact mup_s _ _ _) (by omega) ?_
      refine p_iast (pc := 21) C dX5_keep_21 ⟨by omega, by omega⟩ (by (repeat refine mg_n (by omega) ?_); first | assumption | exact mup_s _ _ _) (by omega) ?_
      try refine p_mem (mup_mup _ _ _ _) ?_
      refine p_iinc (pc := 22) (ls' := [(1, _), (0, _)]) C dX5_keep_22 (by decide) rfl ⟨by omega, by omega⟩ rfl ?_
      refine p_goto (pc := 25) (tgt := 2) C dX5_keep_25 (by decide) ?_
      refine ih (i + 1) _ (by omega) (by omega) (fun q q0 q1 => ?_)
      by_cases e : q = i
      · subst e; rw [fup_s]
      · rw [fup_n _ _ _ e]; exact g3 q q0 (by omega)
  refine p_iconst (pc := 0) C dX5_keep_0 (by decide) ?_
  refine p_istore_n (pc := 1) (ls' := [(1, _), (0, _)]) C dX5_keep_1 (by decide) rfl ?_
  refine p_mem (mup_id h3).symm (L ns.toNat 0 x0 (by omega) (by omega) (fun k k0 k1 => by omega))

set_option maxHeartbeats 4000000 in
set_option maxRecDepth 100000 in
theorem k_X5_putBack {K : KX} {d : Nat} {μ : Int → ME} {fl tr np ns day at_ rP rS lp lw lf sL sF nr : Int} (h0 : μ 42 = oM fl tr np ns day at_ rP rS lp lw lf sL sF nr) (hns : 0 ≤ ns ∧ ns ≤ 5) {p c x0 y0 : Int → Int} (h1 : μ 54 = mA 5 p) (h2 : μ 55 = mA 20 c) (h3 : μ 50 = mA 5 x0) (h4 : μ 51 = mA 20 y0) : Ct K (d) yX5_putBack cX5_putBack 2 none [vR 42] μ (pV (fun μ' => ∃ x y : Int → Int, μ' = mup (mup μ 50 (mA 5 x)) 51 (mA 20 y) ∧ (∀ k, 0 ≤ k → k < ns → x k = p k) ∧ (∀ q, 0 ≤ q → q < 4 * ns → y q = c q))) := by
  refine Ct.of (by decide) (Nat.le_of_ble_eq_true rfl) (fun X C => ?_)
  have L20 : ∀ x : Int → Int, (∀ k, 0 ≤ k → k < ns → x k = p k) → PW K X 2 (QM K X (pV (fun μ' => ∃ x y : Int → Int, μ' = mup (mup μ 50 (mA 5 x)) 51 (mA 20 y) ∧ (∀ k, 0 ≤ k → k < ns → x k = p k) ∧ (∀ q, 0 ≤ q → q < 4 * ns → y q = c q)))) 30 [(1, vI 0), (0, vR 42)] [] (mup μ 50 (mA 5 x)) := by
    intro x hx
    have L2 : ∀ (t : Nat) (i : Int) (y : Int → Int), 0 ≤ i → 4 * ns - i = (t : Int) → (∀ q, 0 ≤ q → q < i → y q = c q) → PW K X 2 (QM K X (pV (fun μ' => ∃ x y : Int → Int, μ' = mup (mup μ 50 (mA 5 x)) 51 (mA 20 y) ∧ (∀ k, 0 ≤ k → k < ns → x k = p k) ∧ (∀ q, 0 ≤ q → q < 4 * ns → y q = c q)))) 30 [(1, vI i), (0, vR 42)] [] (mup (mup μ 50 (mA 5 x)) 51 (mA 20 y)) := by
      intro t
      induction t with
      | zero =>
        intro i y g1 g2 g3
        refine p_iload_n (pc := 30) C dX5_putBack_30 rfl ?_
        refine p_iconst (pc := 31) C dX5_putBack_31 (by decide) ?_
        refine p_aload_n (pc := 32) C dX5_putBack_32 rfl ?_
        refine p_get (pc := 33) C fl_X5_71 dX5_putBack_33 ⟨by omega, by omega⟩ (by (repeat refine mg_n (by omega) ?_); first | assumption | exact mup_s _ _ _) (by rfl) ?_
        refine p_imul (pc := 36) C dX5_putBack_36 ⟨by omega, by omega⟩ ?_
        refine p_icmp_ge (pc := 37) (tgt := 58) C dX5_putBack_37 (by decide) (fun c_37 => ?_) (fun h => by exfalso; omega)
        refine p_vret (pc := 58) C dX5_putBack_58 ?_
        exact ⟨rfl, x, y, rfl, hx, fun q q0 q1 => g3 q q0 (by omega)⟩
      | succ t ih =>
        intro i y g1 g2 g3
        refine p_iload_n (pc := 30) C dX5_putBack_30 rfl ?_
        refine p_iconst (pc := 31) C dX5_putBack_31 (by decide) ?_
        refine p_aload_n (pc := 32) C dX5_putBack_32 rfl ?_
        refine p_get (pc := 33) C fl_X5_71 dX5_putBack_33 ⟨by omega, by omega⟩ (by (repeat refine mg_n (by omega) ?_); first | assumption | exact mup_s _ _ _) (by rfl) ?_
        refine p_imul (pc := 36) C dX5_putBack_36 ⟨by omega, by omega⟩ ?_
        refine p_icmp_ge (pc := 37) (tgt := 58) C dX5_putBack_37 (by decide) (fun h => by exfalso; omega) (fun c_37 => ?_)
        refine p_aload_n (pc := 40) C dX5_putBack_40 rfl ?_
        refine p_get (pc := 41) C fl_X5_34 dX5_putBack_41 ⟨by omega, by omega⟩ (by (repeat refine mg_n (by omega) ?_); first | assumption | exact mup_s _ _ _) (by rfl) ?_
        refine p_iload_n (pc := 44) C dX5_putBack_44 rfl ?_
        refine p_aload_n (pc := 45) C dX5_putBack_45 rfl ?_
        refine p_get (pc := 46) C fl_X5_46 dX5_putBack_46 ⟨by omega, by omega⟩ (by (repeat refine mg_n (by omega) ?_); first | assumption | exact mup_s _ _ _) (by rfl) ?_
        refine p_iload_n (pc := 49) C dX5_putBack_49 rfl ?_
        refine p_iald (pc := 50) C dX5_putBack_50 ⟨by omega, by omega⟩ (by (repeat refine mg_n (by omega) ?_); first | assumption | exact mup_s _ _ _) (by omega) ?_
        refine p_iast (pc := 51) C dX5_putBack_51 ⟨by omega, by omega⟩ (by (repeat refine mg_n (by omega) ?_); first | assumption | exact mup_s _ _ _) (by omega) ?_
        try refine p_mem (mup_mup _ _ _ _) ?_
        refine p_iinc (pc := 52) (ls' := [(1, _), (0, _)]) C dX5_putBack_52 (by decide) rfl ⟨by omega, by omega⟩ rfl ?_
        refine p_goto (pc := 55) (tgt := 30) C dX5_putBack_55 (by decide) ?_
        refine ih (i + 1) _ (by omega) (by omega) (fun q q0 q1 => ?_)
        by_cases e : q = i
        · subst e; rw [fup_s]
        · rw [fup_n _ _ _ e]; exact g3 q q0 (by omega)
    refine p_mem ?_ (L2 (4 * ns).toNat 0 y0 (by omega) (by omega) (fun q q0 q1 => by omega))
    rw [mup_id (μ := mup μ 50 _) (a := 51) (mg_n (by omega) h4)]
  have L : ∀ (t : Nat) (i : Int) (x : Int → Int), 0 ≤ i → ns - i = (t : Int) → (∀ k, 0 ≤ k → k < i → x k = p k) → PW K X 2 (QM K X (pV (fun μ' => ∃ x y : Int → Int, μ' = mup (mup μ 50 (mA 5 x)) 51 (mA 20 y) ∧ (∀ k, 0 ≤ k → k < ns → x k = p k) ∧ (∀ q, 0 ≤ q → q < 4 * ns → y q = c q)))) 2 [(1, vI i), (0, vR 42)] [] (mup μ 50 (mA 5 x)) := by
    intro t
    induction t with
    | zero =>
      intro i x g1 g2 g3
      refine p_iload_n (pc := 2) C dX5_putBack_2 rfl ?_
      refine p_aload_n (pc := 3) C dX5_putBack_3 rfl ?_
      refine p_get (pc := 4) C fl_X5_71 dX5_putBack_4 ⟨by omega, by omega⟩ (by (repeat refine mg_n (by omega) ?_); first | assumption | exact mup_s _ _ _) (by rfl) ?_
      refine p_icmp_ge (pc := 7) (tgt := 28) C dX5_putBack_7 (by decide) (fun c_7 => ?_) (fun h => by exfalso; omega)
      refine p_iconst (pc := 28) C dX5_putBack_28 (by decide) ?_
      refine p_istore_n (pc := 29) (ls' := [(1, _), (0, _)]) C dX5_putBack_29 (by decide) rfl ?_
      exact L20 x (fun k k0 k1 => g3 k k0 (by omega))
    | succ t ih =>
      intro i x g1 g2 g3
      refine p_iload_n (pc := 2) C dX5_putBack_2 rfl ?_
      refine p_aload_n (pc := 3) C dX5_putBack_3 rfl ?_
      refine p_get (pc := 4) C fl_X5_71 dX5_putBack_4 ⟨by omega, by omega⟩ (by (repeat refine mg_n (by omega) ?_); first | assumption | exact mup_s _ _ _) (by rfl) ?_
      refine p_icmp_ge (pc := 7) (tgt := 28) C dX5_putBack_7 (by decide) (fun h => by exfalso; omega) (fun c_7 => ?_)
      refine p_aload_n (pc := 10) C dX5_putBack_10 rfl ?_
      refine p_get (pc := 11) C fl_X5_31 dX5_putBack_11 ⟨by omega, by omega⟩ (by (repeat refine mg_n (by omega) ?_); first | assumption | exact mup_s _ _ _) (by rfl) ?_
      refine p_iload_n (pc := 14) C dX5_putBack_14 rfl ?_
      refine p_aload_n (pc := 15) C dX5_putBack_15 rfl ?_
      refine p_get (pc := 16) C fl_X5_43 dX5_putBack_16 ⟨by omega, by omega⟩ (by (repeat refine mg_n (by omega) ?_); first | assumption | exact mup_s _ _ _) (by rfl) ?_
      refine p_iload_n (pc := 19) C dX5_putBack_19 rfl ?_
      refine p_iald (pc := 20) C dX5_putBack_20 ⟨by omega, by omega⟩ (by (repeat refine mg_n (by omega) ?_); first | assumption | exact mup_s _ _ _) (by omega) ?_
      refine p_iast (pc := 21) C dX5_putBack_21 ⟨by omega, by omega⟩ (by (repeat refine mg_n (by omega) ?_); first | assumption | exact mup_s _ _ _) (by omega) ?_
      try refine p_mem (mup_mup _ _ _ _) ?_
      refine p_iinc (pc := 22) (ls' := [(1, _), (0, _)]) C dX5_putBack_22 (by decide) rfl ⟨by omega, by omega⟩ rfl ?_
      refine p_goto (pc := 25) (tgt := 2) C dX5_putBack_25 (by decide) ?_
      refine ih (i + 1) _ (by omega) (by omega) (fun q q0 q1 => ?_)
      by_cases e : q = i
      · subst e; rw [fup_s]
      · rw [fup_n _ _ _ e]; exact g3 q q0 (by omega)
  refine p_iconst (pc := 0) C dX5_putBack_0 (by decide) ?_
  refine p_istore_n (pc := 1) (ls' := [(1, _), (0, _)]) C dX5_putBack_1 (by decide) rfl ?_
  refine p_mem (mup_id h3).symm (L ns.toNat 0 x0 (by omega) (by omega) (fun k k0 k1 => by omega))

set_option maxHeartbeats 4000000 in
set_option maxRecDepth 100000 in
theorem k_X5_noteLoss {K : KX} {d : Nat} {μ : Int → ME} {k g nk : Int} {nf : Int → Int} {fl tr np ns day at_ rP rS lp lw lf sL sF nr : Int} (h0 : μ 42 = oM fl tr np ns day at_ rP rS lp lw lf sL sF nr) (h1 : μ 48 = mA 5 nf) (h2 : nf k = nk) (hk : 0 ≤ k ∧ k < 5) (hg : g = -9 ∨ (0 ≤ g ∧ g < 4)) (hp : 0 ≤ lp ∧ lp ≤ 1000000) (hw : 0 ≤ lw ∧ lw ≤ 1000000) : Ct K (d) yX5_noteLoss cX5_noteLoss 3 none [vR 42, vI k, vI g] μ (pU (mup μ 42 (oM fl tr np ns day at_ rP rS (lp + (if g = -9 then 0 else 1)) (lw + (if g = -9 then 0 else g + 1)) (if g ≠ -9 ∧ g = nk ∧ lf = -9 then k else lf) sL sF nr))) := by
  refine Ct.of (by decide) (Nat.le_of_ble_eq_true rfl) (fun X C => ?_)
  refine p_iload_n (pc := 0) C dX5_noteLoss_0 rfl ?_
  refine p_bipush (pc := 1) C dX5_noteLoss_1 (by decide) ?_
  refine p_icmp_ne (pc := 3) (tgt := 7) C dX5_noteLoss_3 (by decide) (fun c_3 => ?_) (fun c_3 => ?_)
  · refine p_aload_n (pc := 7) C dX5_noteLoss_7 rfl ?_
    refine p_dup (pc := 8) C dX5_noteLoss_8 rfl ?_
    refine p_get (pc := 9) C fl_X5_157 dX5_noteLoss_9 ⟨by omega, by omega⟩ (by (repeat refine mg_n (by omega) ?_); first | assumption | exact mup_s _ _ _) (by rfl) ?_
    refine p_iconst (pc := 12) C dX5_noteLoss_12 (by decide) ?_
    refine p_iadd (pc := 13) C dX5_noteLoss_13 ⟨by omega, by omega⟩ ?_
    refine p_putL (pc := 14) (fs' := [_, _, _, _, _, _, _, _, _, _, _, _, _, _, _, _, _, _, _, _, _, _, _, _, _, _, _, _, _, _, _]) C fp_X5_157 dX5_noteLoss_14 ⟨by omega, by omega⟩ (by (repeat refine mg_n (by omega) ?_); first | assumption | exact mup_s _ _ _) (by exact Nat.le_of_ble_eq_true rfl) (by rfl) ?_
    try refine p_mem (mup_mup _ _ _ _) ?_
    refine p_aload_n (pc := 17) C dX5_noteLoss_17 rfl ?_
    refine p_dup (pc := 18) C dX5_noteLoss_18 rfl ?_
    refine p_get (pc := 19) C fl_X5_160 dX5_noteLoss_19 ⟨by omega, by omega⟩ (by (repeat refine mg_n (by omega) ?_); first | assumption | exact mup_s _ _ _) (by rfl) ?_
    refine p_iload_n (pc := 22) C dX5_noteLoss_22 rfl ?_
    refine p_iconst (pc := 23) C dX5_noteLoss_23 (by decide) ?_
    refine p_iadd (pc := 24) C dX5_noteLoss_24 ⟨by omega, by omega⟩ ?_
    refine p_iadd (pc := 25) C dX5_noteLoss_25 ⟨by omega, by omega⟩ ?_
    refine p_putL (pc := 26) (fs' := [_, _, _, _, _, _, _, _, _, _, _, _, _, _, _, _, _, _, _, _, _, _, _, _, _, _, _, _, _, _, _]) C fp_X5_160 dX5_noteLoss_26 ⟨by omega, by omega⟩ (by (repeat refine mg_n (by omega) ?_); first | assumption | exact mup_s _ _ _) (by exact Nat.le_of_ble_eq_true rfl) (by rfl) ?_
    try refine p_mem (mup_mup _ _ _ _) ?_
    refine p_aload_n (pc := 29) C dX5_noteLoss_29 rfl ?_
    refine p_aload_n (pc := 30) C dX5_noteLoss_30 rfl ?_
    refine p_get (pc := 31) C fl_X5_163 dX5_noteLoss_31 ⟨by omega, by omega⟩ (by (repeat refine mg_n (by omega) ?_); first | assumption | exact mup_s _ _ _) (by rfl) ?_
    refine p_bipush (pc := 34) C dX5_noteLoss_34 (by decide) ?_
    refine p_icmp_ne (pc := 36) (tgt := 53) C dX5_noteLoss_36 (by decide) (fun c_36 => ?_) (fun c_36 => ?_)
    · refine p_aload_n (pc := 53) C dX5_noteLoss_53 rfl ?_
      refine p_get (pc := 54) C fl_X5_163 dX5_noteLoss_54 ⟨by omega, by omega⟩ (by (repeat refine mg_n (by omega) ?_); first | assumption | exact mup_s _ _ _) (by rfl) ?_
      refine p_putL (pc := 57) (fs' := [_, _, _, _, _, _, _, _, _, _, _, _, _, _, _, _, _, _, _, _, _, _, _, _, _, _, _, _, _, _, _]) C fp_X5_163 dX5_noteLoss_57 ⟨by omega, by omega⟩ (by (repeat refine mg_n (by omega) ?_); first | assumption | exact mup_s _ _ _) (by exact Nat.le_of_ble_eq_true rfl) (by rfl) ?_
      try refine p_mem (mup_mup _ _ _ _) ?_
      refine p_vret (pc := 60) C dX5_noteLoss_60 ?_
      first
        | (refine ⟨rfl, ?_⟩
           rw [if_pos (by omega), if_pos (by omega), if_neg (by omega), Int.add_zero, Int.add_zero, mup_id h0])
        | (refine ⟨rfl, ?_⟩
           rw [if_neg (show ¬ g = -9 by omega), if_neg (show ¬ g = -9 by omega)]
           first | rw [if_pos (by omega)] | rw [if_neg (by omega)])
    · refine p_iload_n (pc := 39) C dX5_noteLoss_39 rfl ?_
      refine p_aload_n (pc := 40) C dX5_noteLoss_40 rfl ?_
      refine p_get (pc := 41) C fl_X5_25 dX5_noteLoss_41 ⟨by omega, by omega⟩ (by (repeat refine mg_n (by omega) ?_); first | assumption | exact mup_s _ _ _) (by rfl) ?_
      refine p_iload_n (pc := 44) C dX5_noteLoss_44 rfl ?_
      refine p_iald (pc := 45) C dX5_noteLoss_45 ⟨by omega, by omega⟩ (by (repeat refine mg_n (by omega) ?_); first | assumption | exact mup_s _ _ _) (by omega) ?_
      refine p_icmp_ne (pc := 46) (tgt := 53) C dX5_noteLoss_46 (by decide) (fun c_46 => ?_) (fun c_46 => ?_)
      · refine p_aload_n (pc := 53) C dX5_noteLoss_53 rfl ?_
        refine p_get (pc := 54) C fl_X5_163 dX5_noteLoss_54 ⟨by omega, by omega⟩ (by (repeat refine mg_n (by omega) ?_); first | assumption | exact mup_s _ _ _) (by rfl) ?_
        refine p_putL (pc := 57) (fs' := [_, _, _, _, _, _, _, _, _, _, _, _, _, _, _, _, _, _, _, _, _, _, _, _, _, _, _, _, _, _, _]) C fp_X5_163 dX5_noteLoss_57 ⟨by omega, by omega⟩ (by (repeat refine mg_n (by omega) ?_); first | assumption | exact mup_s _ _ _) (by exact Nat.le_of_ble_eq_true rfl) (by rfl) ?_
        try refine p_mem (mup_mup _ _ _ _) ?_
        refine p_vret (pc := 60) C dX5_noteLoss_60 ?_
        first
          | (refine ⟨rfl, ?_⟩
             rw [if_pos (by omega), if_pos (by omega), if_neg (by omega), Int.add_zero, Int.add_zero, mup_id h0])
          | (refine ⟨rfl, ?_⟩
             rw [if_neg (show ¬ g = -9 by omega), if_neg (show ¬ g = -9 by omega)]
             first | rw [if_pos (by omega)] | rw [if_neg (by omega)])
      · refine p_iload_n (pc := 49) C dX5_noteLoss_49 rfl ?_
        refine p_goto (pc := 50) (tgt := 57) C dX5_noteLoss_50 (by decide) ?_
        refine p_putL (pc := 57) (fs' := [_, _, _, _, _, _, _, _, _, _, _, _, _, _, _, _, _, _, _, _, _, _, _, _, _, _, _, _, _, _, _]) C fp_X5_163 dX5_noteLoss_57 ⟨by omega, by omega⟩ (by (repeat refine mg_n (by omega) ?_); first | assumption | exact mup_s _ _ _) (by exact Nat.le_of_ble_eq_true rfl) (by rfl) ?_
        try refine p_mem (mup_mup _ _ _ _) ?_
        refine p_vret (pc := 60) C dX5_noteLoss_60 ?_
        first
          | (refine ⟨rfl, ?_⟩
             rw [if_pos (by omega), if_pos (by omega), if_neg (by omega), Int.add_zero, Int.add_zero, mup_id h0])
          | (refine ⟨rfl, ?_⟩
             rw [if_neg (show ¬ g = -9 by omega), if_neg (show ¬ g = -9 by omega)]
             first | rw [if_pos (by omega)] | rw [if_neg (by omega)])
  · refine p_vret (pc := 6) C dX5_noteLoss_6 ?_
    first
      | (refine ⟨rfl, ?_⟩
         rw [if_pos (by omega), if_pos (by omega), if_neg (by omega), Int.add_zero, Int.add_zero, mup_id h0])
      | (refine ⟨rfl, ?_⟩
         rw [if_neg (show ¬ g = -9 by omega), if_neg (show ¬ g = -9 by omega)]
         first | rw [if_pos (by omega)] | rw [if_neg (by omega)])

set_option maxHeartbeats 4000000 in
set_option maxRecDepth 100000 in
theorem k_X5_refusesPair {K : KX} {d : Nat} {μ : Int → ME} {a act : Int} {fl tr np ns day at_ rP rS lp lw lf sL sF nr : Int} (h0 : μ 42 = oM fl tr np ns day at_ rP rS lp lw lf sL sF nr) : Ct K (d + 2) yX5_refusesPair cX5_refusesPair 3 (some .int) [vR 42, vI a, vI act] μ (pF (vI (if ¬ (0 ≤ act ∧ act ≤ 8) then -2 else if act = 8 ∧ ¬ (0 ≤ a ∧ a ≤ 9) then -2 else if act ≠ 8 ∧ ¬ (0 ≤ a ∧ a < ns) then -1 else 0)) μ) := by
  refine Ct.of (by decide) (Nat.le_of_ble_eq_true rfl) (fun X C => ?_)
  refine p_iload_n (pc := 0) C dX5_refusesPair_0 rfl ?_
  refine p_iconst (pc := 1) C dX5_refusesPair_1 (by decide) ?_
  refine p_bipush (pc := 2) C dX5_refusesPair_2 (by decide) ?_
  refine p_callSF (pc := 4) C ln_X5_67 dX5_refusesPair_4 (k_X5_within) rfl rfl (Nat.le_of_ble_eq_true rfl) ?_
  refine p_ifeq_b (pc := 7) (tgt := 23) C dX5_refusesPair_7 (by decide) (fun c_7 => ?_) (fun c_7 => ?_)
  · refine p_bipush (pc := 23) C dX5_refusesPair_23 (by decide) ?_
    refine p_iret (pc := 25) C dX5_refusesPair_25 ?_
    first
      | (exfalso; omega)
      | exact ⟨sv (by rw [if_pos (by omega)]), rfl⟩
      | exact ⟨sv (by rw [if_neg (by omega), if_pos (by omega)]), rfl⟩
      | exact ⟨sv (by rw [if_neg (by omega), if_neg (by omega), if_pos (by omega)]), rfl⟩
      | exact ⟨sv (by rw [if_neg (by omega), if_neg (by omega), if_neg (by omega)]), rfl⟩
  · refine p_iload_n (pc := 10) C dX5_refusesPair_10 rfl ?_
    refine p_bipush (pc := 11) C dX5_refusesPair_11 (by decide) ?_
    refine p_icmp_ne (pc := 13) (tgt := 26) C dX5_refusesPair_13 (by decide) (fun c_13 => ?_) (fun c_13 => ?_)
    · refine p_iload_n (pc := 26) C dX5_refusesPair_26 rfl ?_
      refine p_bipush (pc := 27) C dX5_refusesPair_27 (by decide) ?_
      refine p_icmp_eq (pc := 29) (tgt := 44) C dX5_refusesPair_29 (by decide) (fun c_29 => ?_) (fun c_29 => ?_)
      · refine p_iconst (pc := 44) C dX5_refusesPair_44 (by decide) ?_
        refine p_iret (pc := 45) C dX5_refusesPair_45 ?_
        first
          | (exfalso; omega)
          | exact ⟨sv (by rw [if_pos (by omega)]), rfl⟩
          | exact ⟨sv (by rw [if_neg (by omega), if_pos (by omega)]), rfl⟩
          | exact ⟨sv (by rw [if_neg (by omega), if_neg (by omega), if_pos (by omega)]), rfl⟩
          | exact ⟨sv (by rw [if_neg (by omega), if_neg (by omega), if_neg (by omega)]), rfl⟩
      · refine p_aload_n (pc := 32) C dX5_refusesPair_32 rfl ?_
        refine p_iload_n (pc := 33) C dX5_refusesPair_33 rfl ?_
        refine p_callVF (pc := 34) C ln_X5_127 dX5_refusesPair_34 (k_X5_isShip h0) ⟨by omega, by omega⟩ (by (repeat refine mg_n (by omega) ?_); first | assumption | exact mup_s _ _ _) rfl rfl rfl rfl (Nat.le_of_ble_eq_true rfl) ?_
        refine p_ifne_b (pc := 37) (tgt := 44) C dX5_refusesPair_37 (by decide) (fun c_37 => ?_) (fun c_37 => ?_)
        · refine p_iconst (pc := 44) C dX5_refusesPair_44 (by decide) ?_
          refine p_iret (pc := 45) C dX5_refusesPair_45 ?_
          first
            | (exfalso; omega)
            | exact ⟨sv (by rw [if_pos (by omega)]), rfl⟩
            | exact ⟨sv (by rw [if_neg (by omega), if_pos (by omega)]), rfl⟩
            | exact ⟨sv (by rw [if_neg (by omega), if_neg (by omega), if_pos (by omega)]), rfl⟩
            | exact ⟨sv (by rw [if_neg (by omega), if_neg (by omega), if_neg (by omega)]), rfl⟩
        · refine p_iconst (pc := 40) C dX5_refusesPair_40 (by decide) ?_
          refine p_goto (pc := 41) (tgt := 45) C dX5_refusesPair_41 (by decide) ?_
          refine p_iret (pc := 45) C dX5_refusesPair_45 ?_
          first
            | (exfalso; omega)
            | exact ⟨sv (by rw [if_pos (by omega)]), rfl⟩
            | exact ⟨sv (by rw [if_neg (by omega), if_pos (by omega)]), rfl⟩
            | exact ⟨sv (by rw [if_neg (by omega), if_neg (by omega), if_pos (by omega)]), rfl⟩
            | exact ⟨sv (by rw [if_neg (by omega), if_neg (by omega), if_neg (by omega)]), rfl⟩
    · refine p_iload_n (pc := 16) C dX5_refusesPair_16 rfl ?_
      refine p_callSF (pc := 17) C ln_X5_145 dX5_refusesPair_17 (k_X5_isDigit) rfl rfl (Nat.le_of_ble_eq_true rfl) ?_
      refine p_ifne_b (pc := 20) (tgt := 26) C dX5_refusesPair_20 (by decide) (fun c_20 => ?_) (fun c_20 => ?_)
      · refine p_iload_n (pc := 26) C dX5_refusesPair_26 rfl ?_
        refine p_bipush (pc := 27) C dX5_refusesPair_27 (by decide) ?_
        refine p_icmp_eq (pc := 29) (tgt := 44) C dX5_refusesPair_29 (by decide) (fun c_29 => ?_) (fun c_29 => ?_)
        · refine p_iconst (pc := 44) C dX5_refusesPair_44 (by decide) ?_
          refine p_iret (pc := 45) C dX5_refusesPair_45 ?_
          first
            | (exfalso; omega)
            | exact ⟨sv (by rw [if_pos (by omega)]), rfl⟩
            | exact ⟨sv (by rw [if_neg (by omega), if_pos (by omega)]), rfl⟩
            | exact ⟨sv (by rw [if_neg (by omega), if_neg (by omega), if_pos (by omega)]), rfl⟩
            | exact ⟨sv (by rw [if_neg (by omega), if_neg (by omega), if_neg (by omega)]), rfl⟩
        · refine p_aload_n (pc := 32) C dX5_refusesPair_32 rfl ?_
          refine p_iload_n (pc := 33) C dX5_refusesPair_33 rfl ?_
          refine p_callVF (pc := 34) C ln_X5_127 dX5_refusesPair_34 (k_X5_isShip h0) ⟨by omega, by omega⟩ (by (repeat refine mg_n (by omega) ?_); first | assumption | exact mup_s _ _ _) rfl rfl rfl rfl (Nat.le_of_ble_eq_true rfl) ?_
          refine p_ifne_b (pc := 37) (tgt := 44) C dX5_refusesPair_37 (by decide) (fun c_37 => ?_) (fun c_37 => ?_)
          · refine p_iconst (pc := 44) C dX5_refusesPair_44 (by decide) ?_
            refine p_iret (pc := 45) C dX5_refusesPair_45 ?_
            first
              | (exfalso; omega)
              | exact ⟨sv (by rw [if_pos (by omega)]), rfl⟩
              | exact ⟨sv (by rw [if_neg (by omega), if_pos (by omega)]), rfl⟩
              | exact ⟨sv (by rw [if_neg (by omega), if_neg (by omega), if_pos (by omega)]), rfl⟩
              | exact ⟨sv (by rw [if_neg (by omega), if_neg (by omega), if_neg (by omega)]), rfl⟩
          · refine p_iconst (pc := 40) C dX5_refusesPair_40 (by decide) ?_
            refine p_goto (pc := 41) (tgt := 45) C dX5_refusesPair_41 (by decide) ?_
            refine p_iret (pc := 45) C dX5_refusesPair_45 ?_
            first
              | (exfalso; omega)
              | exact ⟨sv (by rw [if_pos (by omega)]), rfl⟩
              | exact ⟨sv (by rw [if_neg (by omega), if_pos (by omega)]), rfl⟩
              | exact ⟨sv (by rw [if_neg (by omega), if_neg (by omega), if_pos (by omega)]), rfl⟩
              | exact ⟨sv (by rw [if_neg (by omega), if_neg (by omega), if_neg (by omega)]), rfl⟩
      · refine p_bipush (pc := 23) C dX5_refusesPair_23 (by decide) ?_
        refine p_iret (pc := 25) C dX5_refusesPair_25 ?_
        first
          | (exfalso; omega)
          | exact ⟨sv (by rw [if_pos (by omega)]), rfl⟩
          | exact ⟨sv (by rw [if_neg (by omega), if_pos (by omega)]), rfl⟩
          | exact ⟨sv (by rw [if_neg (by omega), if_neg (by omega), if_pos (by omega)]), rfl⟩
          | exact ⟨sv (by rw [if_neg (by omega), if_neg (by omega), if_neg (by omega)]), rfl⟩

set_option maxHeartbeats 4000000 in
set_option maxRecDepth 100000 in
theorem k_X5_metNow {K : KX} {d : Nat} {μ : Int → ME} {S : DS} {pf : Int → Int} {fl tr np ns day at_ rP rS lp lw lf sL sF nr : Int} (h0 : μ 42 = oM fl tr np ns day at_ rP rS lp lw lf sL sF nr) (hnp : np ≤ 6) (hns : 0 ≤ ns ∧ ns ≤ 5) {rg kd nm sg : Int → Int} (hB : MB rg kd nm sg np ns μ) {cf : Int → Int} (hC : μ 51 = mA 20 cf) (hR : MR ns S pf cf) (hN : WN ns kd nm sg) : Ct K (d + 1) yX5_metNow cX5_metNow 3 (some .int) [vR 42] μ (pF (vI (metN nm S.2.1 ns.toNat)) μ) := by
  refine Ct.of (by decide) (Nat.le_of_ble_eq_true rfl) (fun X C => ?_)
  have L : ∀ (t : Nat) (i w : Int), 0 ≤ i → ns - i = (t : Int) → w = metN nm S.2.1 i.toNat → PW K X 3 (QM K X (pF (vI (metN nm S.2.1 ns.toNat)) μ)) 4 [(2, vI i), (1, vI w), (0, vR 42)] [] μ := by
    intro t
    induction t with
    | zero =>
      intro i w g1 g2 g3
      have e : i = ns := by omega
      subst e; subst g3
      refine p_iload_n (pc := 4) C dX5_metNow_4 rfl ?_
      refine p_aload_n (pc := 5) C dX5_metNow_5 rfl ?_
      refine p_get (pc := 6) C fl_X5_71 dX5_metNow_6 ⟨by omega, by omega⟩ (by (repeat refine mg_n (by omega) ?_); first | assumption | exact mup_s _ _ _) (by rfl) ?_
      refine p_icmp_ge (pc := 9) (tgt := 36) C dX5_metNow_9 (by decide) (fun c_9 => ?_) (fun h => by exfalso; omega)
      refine p_iload_n (pc := 36) C dX5_metNow_36 rfl ?_
      refine p_iret (pc := 37) C dX5_metNow_37 ?_
      exact ⟨rfl, rfl⟩
    | succ t ih =>
      intro i w g1 g2 g3
      have e1 : (i + 1).toNat = i.toNat + 1 := by omega
      have e2 : ((i.toNat : Nat) : Int) = i := by omega
      have q := (hR i g1 (by omega)).2 (nm i) (hN i g1 (by omega)).2.1.1 (hN i g1 (by omega)).2.1.2
      refine p_iload_n (pc := 4) C dX5_metNow_4 rfl ?_
      refine p_aload_n (pc := 5) C dX5_metNow_5 rfl ?_
      refine p_get (pc := 6) C fl_X5_71 dX5_metNow_6 ⟨by omega, by omega⟩ (by (repeat refine mg_n (by omega) ?_); first | assumption | exact mup_s _ _ _) (by rfl) ?_
      refine p_icmp_ge (pc := 9) (tgt := 36) C dX5_metNow_9 (by decide) (fun h => by exfalso; omega) (fun c_9 => ?_)
      refine p_iload_n (pc := 12) C dX5_metNow_12 rfl ?_
      refine p_aload_n (pc := 13) C dX5_metNow_13 rfl ?_
      refine p_iload_n (pc := 14) C dX5_metNow_14 rfl ?_
      refine p_callVF (pc := 15) C ln_X5_133 dX5_metNow_15 (k_X5_isMet h0 hnp hns hB (by omega) hC hN) ⟨by omega, by omega⟩ (by (repeat refine mg_n (by omega) ?_); first | assumption | exact mup_s _ _ _) rfl rfl rfl rfl (Nat.le_of_ble_eq_true rfl) ?_
      refine p_ifeq_b (pc := 18) (tgt := 27) C dX5_metNow_18 (by decide) (fun c_18 => ?_) (fun c_18 => ?_)
      · refine p_iconst (pc := 27) C dX5_metNow_27 (by decide) ?_
        refine p_ior (pc := 28) C dX5_metNow_28 ?_
        refine p_istore_n (pc := 29) (ls' := [(1, _), (2, _), (0, _)]) C dX5_metNow_29 (by decide) rfl ?_
        refine p_iinc (pc := 30) (ls' := [(2, _), (1, _), (0, _)]) C dX5_metNow_30 (by decide) rfl ⟨by omega, by omega⟩ rfl ?_
        refine p_goto (pc := 33) (tgt := 4) C dX5_metNow_33 (by decide) ?_
        first
          | exact ih (i + 1) _ (by omega) (by omega) (by rw [e1, metN, e2, if_pos (by omega), g3])
          | exact ih (i + 1) _ (by omega) (by omega) (by rw [e1, metN, e2, if_neg (by omega), g3, iOr_0 (metN_r _ _ _)])
      · refine p_iconst (pc := 21) C dX5_metNow_21 (by decide) ?_
        refine p_iload_n (pc := 22) C dX5_metNow_22 rfl ?_
        refine p_ishl (pc := 23) C dX5_metNow_23 ?_
        refine p_goto (pc := 24) (tgt := 28) C dX5_metNow_24 (by decide) ?_
        refine p_ior (pc := 28) C dX5_metNow_28 ?_
        refine p_istore_n (pc := 29) (ls' := [(1, _), (2, _), (0, _)]) C dX5_metNow_29 (by decide) rfl ?_
        refine p_iinc (pc := 30) (ls' := [(2, _), (1, _), (0, _)]) C dX5_metNow_30 (by decide) rfl ⟨by omega, by omega⟩ rfl ?_
        refine p_goto (pc := 33) (tgt := 4) C dX5_metNow_33 (by decide) ?_
        first
          | exact ih (i + 1) _ (by omega) (by omega) (by rw [e1, metN, e2, if_pos (by omega), g3])
          | exact ih (i + 1) _ (by omega) (by omega) (by rw [e1, metN, e2, if_neg (by omega), g3, iOr_0 (metN_r _ _ _)])
  refine p_iconst (pc := 0) C dX5_metNow_0 (by decide) ?_
  refine p_istore_n (pc := 1) (ls' := [(1, _), (0, _)]) C dX5_metNow_1 (by decide) rfl ?_
  refine p_iconst (pc := 2) C dX5_metNow_2 (by decide) ?_
  refine p_istore_n (pc := 3) (ls' := [(2, _), (1, _), (0, _)]) C dX5_metNow_3 (by decide) rfl ?_
  exact L ns.toNat 0 0 (by omega) (by omega) rfl

theorem bd4_c {f g : Int → Int} {m : Int} (h : ∀ j, 0 ≤ j → j < 4 → f j = g j) (hb : bd4 g m) : bd4 f m := by
  unfold bd4 at *
  rw [h 0 (by omega) (by omega), h 1 (by omega) (by omega), h 2 (by omega) (by omega), h 3 (by omega) (by omega)]
  exact hb

set_option maxHeartbeats 4000000 in
set_option maxRecDepth 100000 in
theorem k_X5_tellVoyage {K : KX} {d : Nat} {μ : Int → ME} {w : Int} {S : DS} {pf : Int → Int} {fl tr np ns day at_ rP rS lp lw lf sL sF nr : Int} (h0 : μ 42 = oM fl tr np ns day at_ rP rS lp lw lf sL sF nr) (hnp : np ≤ 6) (hns : 0 ≤ ns ∧ ns ≤ 5) {rg kd nm sg : Int → Int} (hB : MB rg kd nm sg np ns μ) {cf : Int → Int} (hC : μ 51 = mA 20 cf) (hR : MR ns S pf cf) (hW : WS np ns S) (hN : WN ns kd nm sg) (hw : (0 ≤ w ∧ w ≤ 4) ∨ (10 ≤ w ∧ w < 15)) : Ct K (d + 2) yX5_tellVoyage cX5_tellVoyage 2 (some .int) [vR 42, vI w] μ (pF (vI (if w = 0 then lp else if w = 2 then metN nm S.2.1 ns.toNat else if w = 3 then lw else if w = 4 ∨ w = 1 then lf else if w - 10 < ns then wor (S.2.1 (w - 10)) else -9)) μ) := by
  refine Ct.of (by decide) (Nat.le_of_ble_eq_true rfl) (fun X C => ?_)
  refine p_iload_n (pc := 0) C dX5_tellVoyage_0 rfl ?_
  refine p_bipush (pc := 1) C dX5_tellVoyage_1 (by decide) ?_
  refine p_icmp_lt (pc := 3) (tgt := 31) C dX5_tellVoyage_3 (by decide) (fun c_3 => ?_) (fun c_3 => ?_)
  · refine p_iload_n (pc := 31) C dX5_tellVoyage_31 rfl ?_
    by_cases s_32_0 : w = 0
    · refine p_tin (pc := 32) (off := 32) (tgt := 64) C dX5_tellVoyage_32 (by omega) (by omega) (by rw [s_32_0]; rfl) (by decide) ?_
      refine p_aload_n (pc := 64) C dX5_tellVoyage_64 rfl ?_
      refine p_get (pc := 65) C fl_X5_157 dX5_tellVoyage_65 ⟨by omega, by omega⟩ (by (repeat refine mg_n (by omega) ?_); first | assumption | exact mup_s _ _ _) (by rfl) ?_
      refine p_iret (pc := 68) C dX5_tellVoyage_68 ?_
      first
        | (exfalso; omega)
        | exact ⟨sv (by rw [if_pos (by omega)]), rfl⟩
        | exact ⟨sv (by rw [if_neg (by omega), if_pos (by omega)]), rfl⟩
        | exact ⟨sv (by rw [if_neg (by omega), if_neg (by omega), if_pos (by omega)]), rfl⟩
        | exact ⟨sv (by rw [if_neg (by omega), if_neg (by omega), if_neg (by omega), if_pos (by omega)]), rfl⟩
        | exact ⟨sv (by rw [if_neg (by omega), if_neg (by omega), if_neg (by omega), if_neg (by omega), if_pos (by omega)]; exact wor_c hsl), rfl⟩
        | exact ⟨sv (by rw [if_neg (by omega), if_neg (by omega), if_neg (by omega), if_neg (by omega), if_neg (by omega)]), rfl⟩
    by_cases s_32_1 : w = 1
    · refine p_tin (pc := 32) (off := 47) (tgt := 79) C dX5_tellVoyage_32 (by omega) (by omega) (by rw [s_32_1]; rfl) (by decide) ?_
      refine p_aload_n (pc := 79) C dX5_tellVoyage_79 rfl ?_
      refine p_get (pc := 80) C fl_X5_163 dX5_tellVoyage_80 ⟨by omega, by omega⟩ (by (repeat refine mg_n (by omega) ?_); first | assumption | exact mup_s _ _ _) (by rfl) ?_
      refine p_iret (pc := 83) C dX5_tellVoyage_83 ?_
      first
        | (exfalso; omega)
        | exact ⟨sv (by rw [if_pos (by omega)]), rfl⟩
        | exact ⟨sv (by rw [if_neg (by omega), if_pos (by omega)]), rfl⟩
        | exact ⟨sv (by rw [if_neg (by omega), if_neg (by omega), if_pos (by omega)]), rfl⟩
        | exact ⟨sv (by rw [if_neg (by omega), if_neg (by omega), if_neg (by omega), if_pos (by omega)]), rfl⟩
        | exact ⟨sv (by rw [if_neg (by omega), if_neg (by omega), if_neg (by omega), if_neg (by omega), if_pos (by omega)]; exact wor_c hsl), rfl⟩
        | exact ⟨sv (by rw [if_neg (by omega), if_neg (by omega), if_neg (by omega), if_neg (by omega), if_neg (by omega)]), rfl⟩
    by_cases s_32_2 : w = 2
    · refine p_tin (pc := 32) (off := 37) (tgt := 69) C dX5_tellVoyage_32 (by omega) (by omega) (by rw [s_32_2]; rfl) (by decide) ?_
      refine p_aload_n (pc := 69) C dX5_tellVoyage_69 rfl ?_
      refine p_callVF (pc := 70) C ln_X5_189 dX5_tellVoyage_70 (k_X5_metNow h0 hnp hns hB hC hR hN) ⟨by omega, by omega⟩ (by (repeat refine mg_n (by omega) ?_); first | assumption | exact mup_s _ _ _) rfl rfl rfl rfl (Nat.le_of_ble_eq_true rfl) ?_
      refine p_iret (pc := 73) C dX5_tellVoyage_73 ?_
      first
        | (exfalso; omega)
        | exact ⟨sv (by rw [if_pos (by omega)]), rfl⟩
        | exact ⟨sv (by rw [if_neg (by omega), if_pos (by omega)]), rfl⟩
        | exact ⟨sv (by rw [if_neg (by omega), if_neg (by omega), if_pos (by omega)]), rfl⟩
        | exact ⟨sv (by rw [if_neg (by omega), if_neg (by omega), if_neg (by omega), if_pos (by omega)]), rfl⟩
        | exact ⟨sv (by rw [if_neg (by omega), if_neg (by omega), if_neg (by omega), if_neg (by omega), if_pos (by omega)]; exact wor_c hsl), rfl⟩
        | exact ⟨sv (by rw [if_neg (by omega), if_neg (by omega), if_neg (by omega), if_neg (by omega), if_neg (by omega)]), rfl⟩
    by_cases s_32_3 : w = 3
    · refine p_tin (pc := 32) (off := 42) (tgt := 74) C dX5_tellVoyage_32 (by omega) (by omega) (by rw [s_32_3]; rfl) (by decide) ?_
      refine p_aload_n (pc := 74) C dX5_tellVoyage_74 rfl ?_
      refine p_get (pc := 75) C fl_X5_160 dX5_tellVoyage_75 ⟨by omega, by omega⟩ (by (repeat refine mg_n (by omega) ?_); first | assumption | exact mup_s _ _ _) (by rfl) ?_
      refine p_iret (pc := 78) C dX5_tellVoyage_78 ?_
      first
        | (exfalso; omega)
        | exact ⟨sv (by rw [if_pos (by omega)]), rfl⟩
        | exact ⟨sv (by rw [if_neg (by omega), if_pos (by omega)]), rfl⟩
        | exact ⟨sv (by rw [if_neg (by omega), if_neg (by omega), if_pos (by omega)]), rfl⟩
        | exact ⟨sv (by rw [if_neg (by omega), if_neg (by omega), if_neg (by omega), if_pos (by omega)]), rfl⟩
        | exact ⟨sv (by rw [if_neg (by omega), if_neg (by omega), if_neg (by omega), if_neg (by omega), if_pos (by omega)]; exact wor_c hsl), rfl⟩
        | exact ⟨sv (by rw [if_neg (by omega), if_neg (by omega), if_neg (by omega), if_neg (by omega), if_neg (by omega)]), rfl⟩
    refine p_tout (pc := 32) (tgt := 79) C dX5_tellVoyage_32 (by omega) (by decide) ?_
    refine p_aload_n (pc := 79) C dX5_tellVoyage_79 rfl ?_
    refine p_get (pc := 80) C fl_X5_163 dX5_tellVoyage_80 ⟨by omega, by omega⟩ (by (repeat refine mg_n (by omega) ?_); first | assumption | exact mup_s _ _ _) (by rfl) ?_
    refine p_iret (pc := 83) C dX5_tellVoyage_83 ?_
    first
      | (exfalso; omega)
      | exact ⟨sv (by rw [if_pos (by omega)]), rfl⟩
      | exact ⟨sv (by rw [if_neg (by omega), if_pos (by omega)]), rfl⟩
      | exact ⟨sv (by rw [if_neg (by omega), if_neg (by omega), if_pos (by omega)]), rfl⟩
      | exact ⟨sv (by rw [if_neg (by omega), if_neg (by omega), if_neg (by omega), if_pos (by omega)]), rfl⟩
      | exact ⟨sv (by rw [if_neg (by omega), if_neg (by omega), if_neg (by omega), if_neg (by omega), if_pos (by omega)]; exact wor_c hsl), rfl⟩
      | exact ⟨sv (by rw [if_neg (by omega), if_neg (by omega), if_neg (by omega), if_neg (by omega), if_neg (by omega)]), rfl⟩
  · refine p_aload_n (pc := 6) C dX5_tellVoyage_6 rfl ?_
    refine p_iload_n (pc := 7) C dX5_tellVoyage_7 rfl ?_
    refine p_bipush (pc := 8) C dX5_tellVoyage_8 (by decide) ?_
    refine p_isub (pc := 10) C dX5_tellVoyage_10 ⟨by omega, by omega⟩ ?_
    refine p_callVF (pc := 11) C ln_X5_127 dX5_tellVoyage_11 (k_X5_isShip h0) ⟨by omega, by omega⟩ (by (repeat refine mg_n (by omega) ?_); first | assumption | exact mup_s _ _ _) rfl rfl rfl rfl (Nat.le_of_ble_eq_true rfl) ?_
    refine p_ifeq_b (pc := 14) (tgt := 28) C dX5_tellVoyage_14 (by decide) (fun c_14 => ?_) (fun c_14 => ?_)
    · refine p_bipush (pc := 28) C dX5_tellVoyage_28 (by decide) ?_
      refine p_iret (pc := 30) C dX5_tellVoyage_30 ?_
      first
        | (exfalso; omega)
        | exact ⟨sv (by rw [if_pos (by omega)]), rfl⟩
        | exact ⟨sv (by rw [if_neg (by omega), if_pos (by omega)]), rfl⟩
        | exact ⟨sv (by rw [if_neg (by omega), if_neg (by omega), if_pos (by omega)]), rfl⟩
        | exact ⟨sv (by rw [if_neg (by omega), if_neg (by omega), if_neg (by omega), if_pos (by omega)]), rfl⟩
        | exact ⟨sv (by rw [if_neg (by omega), if_neg (by omega), if_neg (by omega), if_neg (by omega), if_pos (by omega)]; exact wor_c hsl), rfl⟩
        | exact ⟨sv (by rw [if_neg (by omega), if_neg (by omega), if_neg (by omega), if_neg (by omega), if_neg (by omega)]), rfl⟩
    · have hsl : ∀ g, 0 ≤ g → g < 4 → (fun g => cf (4 * (w - 10) + g)) g = S.2.1 (w - 10) g := fun g g0 g1 => (hR (w - 10) (by omega) (by omega)).2 g g0 g1
      have hbs : bd4 (fun g => cf (4 * (w - 10) + g)) 100 := bd4_c hsl ((hW (w - 10) (by omega) (by omega)).2.le (by omega))
      refine p_aload_n (pc := 17) C dX5_tellVoyage_17 rfl ?_
      refine p_iload_n (pc := 18) C dX5_tellVoyage_18 rfl ?_
      refine p_bipush (pc := 19) C dX5_tellVoyage_19 (by decide) ?_
      refine p_isub (pc := 21) C dX5_tellVoyage_21 ⟨by omega, by omega⟩ ?_
      refine p_callVF (pc := 22) C ln_X5_136 dX5_tellVoyage_22 (k_X5_worthOf h0 hnp hns (by omega) hC hbs) ⟨by omega, by omega⟩ (by (repeat refine mg_n (by omega) ?_); first | assumption | exact mup_s _ _ _) rfl rfl rfl rfl (Nat.le_of_ble_eq_true rfl) ?_
      refine p_goto (pc := 25) (tgt := 30) C dX5_tellVoyage_25 (by decide) ?_
      refine p_iret (pc := 30) C dX5_tellVoyage_30 ?_
      first
        | (exfalso; omega)
        | exact ⟨sv (by rw [if_pos (by omega)]), rfl⟩
        | exact ⟨sv (by rw [if_neg (by omega), if_pos (by omega)]), rfl⟩
        | exact ⟨sv (by rw [if_neg (by omega), if_neg (by omega), if_pos (by omega)]), rfl⟩
        | exact ⟨sv (by rw [if_neg (by omega), if_neg (by omega), if_neg (by omega), if_pos (by omega)]), rfl⟩
        | exact ⟨sv (by rw [if_neg (by omega), if_neg (by omega), if_neg (by omega), if_neg (by omega), if_pos (by omega)]; exact wor_c hsl), rfl⟩
        | exact ⟨sv (by rw [if_neg (by omega), if_neg (by omega), if_neg (by omega), if_neg (by omega), if_neg (by omega)]), rfl⟩
