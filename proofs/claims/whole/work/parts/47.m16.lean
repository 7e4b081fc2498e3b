/-- READING the sea -/
theorem mup_x (μ : Int → ME) {a b : Int} (h : a ≠ b) (o p q : ME) : mup (mup (mup μ a o) b p) a q = mup (mup μ a q) b p := by
  rw [mup_comm (mup μ a o) p q (Ne.symm h), mup_mup]
theorem mup_y (μ : Int → ME) {a b c : Int} (h : a ≠ b) (h2 : a ≠ c) (o p q r : ME) : mup (mup (mup (mup μ a o) b p) c q) a r = mup (mup (mup μ a r) b p) c q := by
  rw [mup_comm (mup (mup μ a o) b p) q r (Ne.symm h2), mup_x μ h]
def dgV (G : Int → Int) (x e lo hi : Int) : Int := if x < e ∧ (48 + lo ≤ G x ∧ G x ≤ 48 + hi) then G x - 48 else -9
def dgA (G : Int → Int) (x e lo hi : Int) : Int := if x < e ∧ (48 + lo ≤ G x ∧ G x ≤ 48 + hi) then x + 1 else x
theorem dg_t {G : Int → Int} {x e lo hi : Int} (hl : 0 ≤ lo) (h : ¬ dgV G x e lo hi = -9) : (x < e ∧ (48 + lo ≤ G x ∧ G x ≤ 48 + hi)) ∧ dgV G x e lo hi = G x - 48 ∧ dgA G x e lo hi = x + 1 := by
  by_cases c : x < e ∧ (48 + lo ≤ G x ∧ G x ≤ 48 + hi)
  · exact ⟨c, if_pos c, if_pos c⟩
  · exact absurd (if_neg c) h
theorem dg_f {G : Int → Int} {x e lo hi : Int} (hl : 0 ≤ lo) (h : dgV G x e lo hi = -9) : ¬ (x < e ∧ (48 + lo ≤ G x ∧ G x ≤ 48 + hi)) ∧ dgA G x e lo hi = x := by
  by_cases c : x < e ∧ (48 + lo ≤ G x ∧ G x ≤ 48 + hi)
  · unfold dgV at h; rw [if_pos c] at h; omega
  · exact ⟨c, if_neg c⟩
def sgA (G : Int → Int) (x e c : Int) : Int := if x < e ∧ G x = c then x + 1 else x
def hiF (j q : Int) : Int := if j = 1 then 3 else if j = 3 then q - 1 else 9
theorem sc_hi {j v q : Int} (h1 : 1 ≤ j) (h2 : j < 8) : scP (j + 1) v q ↔ (48 + 0 ≤ v ∧ v ≤ 48 + hiF j q) := by
  unfold hiF
  split
  · constructor <;> intro h <;> omega
  · split
    · constructor <;> intro h <;> omega
    · constructor <;> intro h <;> omega
theorem cs_0t {G : Int → Int} {a n q : Int} (h : 0 < n ∧ G a = 59) : csN G a n q 0 9 = csN G a n q 1 8 := by
  rw [csN, if_pos (by rw [Int.add_zero]; omega)]; rfl
theorem cs_0f {G : Int → Int} {a n q : Int} (h : ¬ (0 < n ∧ G a = 59)) : csN G a n q 0 9 = 0 := by
  rw [csN, if_neg (by rw [Int.add_zero]; omega)]
theorem cs_1f {G : Int → Int} {a n q : Int} (h : ¬ (1 < n ∧ (G (a + 1) = 98 ∨ G (a + 1) = 99 ∨ G (a + 1) = 115))) : csN G a n q 1 8 = 1 := by
  rw [csN, if_neg (by omega)]
theorem cs_1t {G : Int → Int} {a n q : Int} (h : 1 < n ∧ (G (a + 1) = 98 ∨ G (a + 1) = 99 ∨ G (a + 1) = 115)) : csN G a n q 1 8 = csN G a n q 2 7 := by
  rw [csN, if_pos (by omega)]; rfl
theorem cpN_n (F : Int → Int) (fr n : Int) : ∀ (t : Nat) (p : Int), 1 + p ≤ n → 1 + cpN F fr n p t ≤ n
  | 0, p, h => h
  | t + 1, p, h => by
    rw [cpN]; split
    · exact cpN_n F fr n t (p + 1) (by omega)
    · exact h
theorem csN_n (F : Int → Int) (a n q : Int) : ∀ (t : Nat) (p : Int), p ≤ n → csN F a n q p t ≤ n
  | 0, p, h => h
  | t + 1, p, h => by
    rw [csN]; split
    · exact csN_n F a n q t (p + 1) (by omega)
    · exact h

set_option maxHeartbeats 4000000 in
set_option maxRecDepth 100000 in
theorem k_X5_digit {K : KX} {d : Nat} {μ : Int → ME} {e lo hi : Int} {fl tr np ns day at_ rP rS lp lw lf sL sF nr : Int} (h0 : μ 42 = oM fl tr np ns day at_ rP rS lp lw lf sL sF nr) {G : Int → Int} (h45 : μ 45 = mA 240 G) (ha : 0 ≤ at_ ∧ e ≤ 240) (hl : (0 ≤ lo ∧ lo ≤ 9) ∧ hi ≤ 9 ∧ -1 ≤ hi) : Ct K (d + 1) yX5_digit cX5_digit 4 (some .int) [vR 42, vI e, vI lo, vI hi] μ (pF (vI (dgV G at_ e lo hi)) (mup μ 42 (oM (fl) tr (np) (ns) (day) (dgA G at_ e lo hi) (rP) (rS) lp lw lf sL sF (nr)))) := by
  refine Ct.of (by decide) (Nat.le_of_ble_eq_true rfl) (fun X C => ?_)
  refine p_aload_n (pc := 0) C dX5_digit_0 rfl ?_
  refine p_get (pc := 1) C fl_X5_77 dX5_digit_1 ⟨by omega, by omega⟩ (by (repeat refine mg_n (by omega) ?_); first | assumption | exact mup_s _ _ _) (by rfl) ?_
  refine p_iload_n (pc := 4) C dX5_digit_4 rfl ?_
  refine p_icmp_ge (pc := 5) (tgt := 31) C dX5_digit_5 (by decide) (fun c_5 => ?_) (fun c_5 => ?_)
  · refine p_bipush (pc := 31) C dX5_digit_31 (by decide) ?_
    refine p_iret (pc := 33) C dX5_digit_33 ?_
    first
      | exact ⟨sv (by unfold dgV; rw [if_neg (by omega)]), by rw [show dgA G at_ e lo hi = at_ from if_neg (by omega)]; exact (mup_id h0).symm⟩
      | exact ⟨sv (by unfold dgV; rw [if_pos ⟨by omega, c_28⟩]), by rw [show dgA G at_ e lo hi = at_ + 1 from if_pos ⟨by omega, c_28⟩]⟩
  · refine p_aload_n (pc := 8) C dX5_digit_8 rfl ?_
    refine p_get (pc := 9) C fl_X5_16 dX5_digit_9 ⟨by omega, by omega⟩ (by (repeat refine mg_n (by omega) ?_); first | assumption | exact mup_s _ _ _) (by rfl) ?_
    refine p_aload_n (pc := 12) C dX5_digit_12 rfl ?_
    refine p_get (pc := 13) C fl_X5_77 dX5_digit_13 ⟨by omega, by omega⟩ (by (repeat refine mg_n (by omega) ?_); first | assumption | exact mup_s _ _ _) (by rfl) ?_
    refine p_iald (pc := 16) C dX5_digit_16 ⟨by omega, by omega⟩ (by (repeat refine mg_n (by omega) ?_); first | assumption | exact mup_s _ _ _) (by omega) ?_
    refine p_bipush (pc := 17) C dX5_digit_17 (by decide) ?_
    refine p_iload_n (pc := 19) C dX5_digit_19 rfl ?_
    refine p_iadd (pc := 20) C dX5_digit_20 ⟨by omega, by omega⟩ ?_
    refine p_bipush (pc := 21) C dX5_digit_21 (by decide) ?_
    refine p_iload_n (pc := 23) C dX5_digit_23 rfl ?_
    refine p_iadd (pc := 24) C dX5_digit_24 ⟨by omega, by omega⟩ ?_
    refine p_callSF (pc := 25) C ln_X5_67 dX5_digit_25 (k_X5_within) rfl rfl (Nat.le_of_ble_eq_true rfl) ?_
    refine p_ifne_b (pc := 28) (tgt := 34) C dX5_digit_28 (by decide) (fun c_28 => ?_) (fun c_28 => ?_)
    · refine p_aload_n (pc := 34) C dX5_digit_34 rfl ?_
      refine p_dup (pc := 35) C dX5_digit_35 rfl ?_
      refine p_get (pc := 36) C fl_X5_77 dX5_digit_36 ⟨by omega, by omega⟩ (by (repeat refine mg_n (by omega) ?_); first | assumption | exact mup_s _ _ _) (by rfl) ?_
      refine p_iconst (pc := 39) C dX5_digit_39 (by decide) ?_
      refine p_iadd (pc := 40) C dX5_digit_40 ⟨by omega, by omega⟩ ?_
      refine p_putL (pc := 41) (fs' := [_, _, _, _, _, _, _, _, _, _, _, _, _, _, _, _, _, _, _, _, _, _, _, _, _, _, _, _, _, _, _]) C fp_X5_77 dX5_digit_41 ⟨by omega, by omega⟩ (by (repeat refine mg_n (by omega) ?_); first | assumption | exact mup_s _ _ _) (by exact Nat.le_of_ble_eq_true rfl) (by rfl) ?_
      try refine p_mem (mup_mup _ _ _ _) ?_
      refine p_aload_n (pc := 44) C dX5_digit_44 rfl ?_
      refine p_get (pc := 45) C fl_X5_16 dX5_digit_45 ⟨by omega, by omega⟩ (by (repeat refine mg_n (by omega) ?_); first | assumption | exact mup_s _ _ _) (by rfl) ?_
      refine p_aload_n (pc := 48) C dX5_digit_48 rfl ?_
      refine p_get (pc := 49) C fl_X5_77 dX5_digit_49 ⟨by omega, by omega⟩ (by (repeat refine mg_n (by omega) ?_); first | assumption | exact mup_s _ _ _) (by rfl) ?_
      refine p_iconst (pc := 52) C dX5_digit_52 (by decide) ?_
      refine p_isub (pc := 53) C dX5_digit_53 ⟨by omega, by omega⟩ ?_
      refine p_top (show at_ + 1 - 1 = at_ by omega) ?_
      refine p_iald (pc := 54) C dX5_digit_54 ⟨by omega, by omega⟩ (by (repeat refine mg_n (by omega) ?_); first | assumption | exact mup_s _ _ _) (by omega) ?_
      refine p_bipush (pc := 55) C dX5_digit_55 (by decide) ?_
      refine p_isub (pc := 57) C dX5_digit_57 ⟨by omega, by omega⟩ ?_
      refine p_iret (pc := 58) C dX5_digit_58 ?_
      first
        | exact ⟨sv (by unfold dgV; rw [if_neg (by omega)]), by rw [show dgA G at_ e lo hi = at_ from if_neg (by omega)]; exact (mup_id h0).symm⟩
        | exact ⟨sv (by unfold dgV; rw [if_pos ⟨by omega, c_28⟩]), by rw [show dgA G at_ e lo hi = at_ + 1 from if_pos ⟨by omega, c_28⟩]⟩
    · refine p_bipush (pc := 31) C dX5_digit_31 (by decide) ?_
      refine p_iret (pc := 33) C dX5_digit_33 ?_
      first
        | exact ⟨sv (by unfold dgV; rw [if_neg (by omega)]), by rw [show dgA G at_ e lo hi = at_ from if_neg (by omega)]; exact (mup_id h0).symm⟩
        | exact ⟨sv (by unfold dgV; rw [if_pos ⟨by omega, c_28⟩]), by rw [show dgA G at_ e lo hi = at_ + 1 from if_pos ⟨by omega, c_28⟩]⟩

set_option maxHeartbeats 4000000 in
set_option maxRecDepth 100000 in
theorem k_X5_isSign {K : KX} {d : Nat} {μ : Int → ME} {e c : Int} {fl tr np ns day at_ rP rS lp lw lf sL sF nr : Int} (h0 : μ 42 = oM fl tr np ns day at_ rP rS lp lw lf sL sF nr) {G : Int → Int} (h45 : μ 45 = mA 240 G) (ha : 0 ≤ at_ ∧ e ≤ 240) : Ct K (d) yX5_isSign cX5_isSign 3 (some .boolean) [vR 42, vI e, vI c] μ (pF (vI (if at_ < e ∧ G at_ = c then 1 else 0)) (mup μ 42 (oM (fl) tr (np) (ns) (day) (sgA G at_ e c) (rP) (rS) lp lw lf sL sF (nr)))) := by
  refine Ct.of (by decide) (Nat.le_of_ble_eq_true rfl) (fun X C => ?_)
  refine p_aload_n (pc := 0) C dX5_isSign_0 rfl ?_
  refine p_get (pc := 1) C fl_X5_77 dX5_isSign_1 ⟨by omega, by omega⟩ (by (repeat refine mg_n (by omega) ?_); first | assumption | exact mup_s _ _ _) (by rfl) ?_
  refine p_iload_n (pc := 4) C dX5_isSign_4 rfl ?_
  refine p_icmp_ge (pc := 5) (tgt := 21) C dX5_isSign_5 (by decide) (fun c_5 => ?_) (fun c_5 => ?_)
  · refine p_iconst (pc := 21) C dX5_isSign_21 (by decide) ?_
    refine p_zret (pc := 22) C dX5_isSign_22 (by first | exact Or.inl rfl | exact Or.inr rfl | (split <;> simp)) ?_
    first
      | exact ⟨sv (by rw [if_neg (by omega)]), by rw [show sgA G at_ e c = at_ from if_neg (by omega)]; exact (mup_id h0).symm⟩
      | exact ⟨sv (by rw [if_pos ⟨by omega, c_18⟩]), by rw [show sgA G at_ e c = at_ + 1 from if_pos ⟨by omega, c_18⟩]⟩
  · refine p_aload_n (pc := 8) C dX5_isSign_8 rfl ?_
    refine p_get (pc := 9) C fl_X5_16 dX5_isSign_9 ⟨by omega, by omega⟩ (by (repeat refine mg_n (by omega) ?_); first | assumption | exact mup_s _ _ _) (by rfl) ?_
    refine p_aload_n (pc := 12) C dX5_isSign_12 rfl ?_
    refine p_get (pc := 13) C fl_X5_77 dX5_isSign_13 ⟨by omega, by omega⟩ (by (repeat refine mg_n (by omega) ?_); first | assumption | exact mup_s _ _ _) (by rfl) ?_
    refine p_iald (pc := 16) C dX5_isSign_16 ⟨by omega, by omega⟩ (by (repeat refine mg_n (by omega) ?_); first | assumption | exact mup_s _ _ _) (by omega) ?_
    refine p_iload_n (pc := 17) C dX5_isSign_17 rfl ?_
    refine p_icmp_eq (pc := 18) (tgt := 23) C dX5_isSign_18 (by decide) (fun c_18 => ?_) (fun c_18 => ?_)
    · refine p_aload_n (pc := 23) C dX5_isSign_23 rfl ?_
      refine p_dup (pc := 24) C dX5_isSign_24 rfl ?_
      refine p_get (pc := 25) C fl_X5_77 dX5_isSign_25 ⟨by omega, by omega⟩ (by (repeat refine mg_n (by omega) ?_); first | assumption | exact mup_s _ _ _) (by rfl) ?_
      refine p_iconst (pc := 28) C dX5_isSign_28 (by decide) ?_
      refine p_iadd (pc := 29) C dX5_isSign_29 ⟨by omega, by omega⟩ ?_
      refine p_putL (pc := 30) (fs' := [_, _, _, _, _, _, _, _, _, _, _, _, _, _, _, _, _, _, _, _, _, _, _, _, _, _, _, _, _, _, _]) C fp_X5_77 dX5_isSign_30 ⟨by omega, by omega⟩ (by (repeat refine mg_n (by omega) ?_); first | assumption | exact mup_s _ _ _) (by exact Nat.le_of_ble_eq_true rfl) (by rfl) ?_
      try refine p_mem (mup_mup _ _ _ _) ?_
      refine p_iconst (pc := 33) C dX5_isSign_33 (by decide) ?_
      refine p_zret (pc := 34) C dX5_isSign_34 (by first | exact Or.inl rfl | exact Or.inr rfl | (split <;> simp)) ?_
      first
        | exact ⟨sv (by rw [if_neg (by omega)]), by rw [show sgA G at_ e c = at_ from if_neg (by omega)]; exact (mup_id h0).symm⟩
        | exact ⟨sv (by rw [if_pos ⟨by omega, c_18⟩]), by rw [show sgA G at_ e c = at_ + 1 from if_pos ⟨by omega, c_18⟩]⟩
    · refine p_iconst (pc := 21) C dX5_isSign_21 (by decide) ?_
      refine p_zret (pc := 22) C dX5_isSign_22 (by first | exact Or.inl rfl | exact Or.inr rfl | (split <;> simp)) ?_
      first
        | exact ⟨sv (by rw [if_neg (by omega)]), by rw [show sgA G at_ e c = at_ from if_neg (by omega)]; exact (mup_id h0).symm⟩
        | exact ⟨sv (by rw [if_pos ⟨by omega, c_18⟩]), by rw [show sgA G at_ e c = at_ + 1 from if_pos ⟨by omega, c_18⟩]⟩

set_option maxHeartbeats 4000000 in
set_option maxRecDepth 100000 in
theorem k_X5_readThePorts {K : KX} {d : Nat} {μ : Int → ME} {e fs n : Int} {fl tr np ns day at_ rP rS lp lw lf sL sF nr : Int} (h0 : μ 42 = oM fl tr np ns day at_ rP rS lp lw lf sL sF nr) (hat : at_ = fs + 1) {G : Int → Int} (h45 : μ 45 = mA 240 G) {g0 : Int → Int} (h52 : μ 52 = mA 6 g0) (he : e = fs + n) (hb : 0 ≤ fs ∧ e ≤ 240) : Ct K (d + 2) yX5_readThePorts cX5_readThePorts 3 (some .boolean) [vR 42, vI e] μ (pE (vI (if 2 ≤ cpN G fs n 0 6 then 1 else 0)) (fun μ' => ∃ (x q : Int) (g : Int → Int), μ' = mup (mup μ 42 (oM (fl) tr (np) (ns) (day) (x) (q) (rS) lp lw lf sL sF (nr))) 52 (mA 6 g) ∧ x = fs + 1 + q ∧ q = cpN G fs n 0 6 ∧ ∀ j, 0 ≤ j → j < q → g j = G (fs + 1 + j) - 48)) := by
  refine Ct.of (by decide) (Nat.le_of_ble_eq_true rfl) (fun X C => ?_)
  have L : ∀ (t : Nat) (p x : Int) (g : Int → Int), (0 ≤ p ∧ p + (t : Int) = 6) → x = fs + 1 + p → cpN G fs n p t = cpN G fs n 0 6 → (∀ j, 0 ≤ j → j < p → g j = G (fs + 1 + j) - 48) → PW K X 3 (QM K X (pE (vI (if 2 ≤ cpN G fs n 0 6 then 1 else 0)) (fun μ' => ∃ (x q : Int) (g : Int → Int), μ' = mup (mup μ 42 (oM (fl) tr (np) (ns) (day) (x) (q) (rS) lp lw lf sL sF (nr))) 52 (mA 6 g) ∧ x = fs + 1 + q ∧ q = cpN G fs n 0 6 ∧ ∀ j, 0 ≤ j → j < q → g j = G (fs + 1 + j) - 48))) 5 [(0, vR 42), (1, vI e)] [] (mup (mup μ 42 (oM (fl) tr (np) (ns) (day) (x) (p) (rS) lp lw lf sL sF (nr))) 52 (mA 6 g)) := by
    intro t
    induction t with
    | zero =>
      intro p x g g1 g2 g3 g4
      rw [cpN] at g3
      refine p_aload_n (pc := 5) C dX5_readThePorts_5 rfl ?_
      refine p_get (pc := 6) C fl_X5_101 dX5_readThePorts_6 ⟨by omega, by omega⟩ (by (repeat refine mg_n (by omega) ?_); first | assumption | exact mup_s _ _ _) (by rfl) ?_
      refine p_bipush (pc := 9) C dX5_readThePorts_9 (by decide) ?_
      refine p_icmp_ge (pc := 11) (tgt := 66) C dX5_readThePorts_11 (by decide) (fun c_11 => ?_) (fun h => by exfalso; omega)
      refine p_iconst (pc := 66) C dX5_readThePorts_66 (by decide) ?_
      refine p_zret (pc := 67) C dX5_readThePorts_67 (by first | exact Or.inl rfl | exact Or.inr rfl | (split <;> simp)) ?_
      exact ⟨sv (by rw [if_pos (by omega)]), x, p, g, rfl, g2, g3, g4⟩
    | succ t ih =>
      intro p x g g1 g2 g3 g4
      rw [cpN] at g3
      refine p_aload_n (pc := 5) C dX5_readThePorts_5 rfl ?_
      refine p_get (pc := 6) C fl_X5_101 dX5_readThePorts_6 ⟨by omega, by omega⟩ (by (repeat refine mg_n (by omega) ?_); first | assumption | exact mup_s _ _ _) (by rfl) ?_
      refine p_bipush (pc := 9) C dX5_readThePorts_9 (by decide) ?_
      refine p_icmp_ge (pc := 11) (tgt := 66) C dX5_readThePorts_11 (by decide) (fun h => by exfalso; omega) (fun c_11 => ?_)
      refine p_aload_n (pc := 14) C dX5_readThePorts_14 rfl ?_
      refine p_iload_n (pc := 15) C dX5_readThePorts_15 rfl ?_
      refine p_iconst (pc := 16) C dX5_readThePorts_16 (by decide) ?_
      refine p_bipush (pc := 17) C dX5_readThePorts_17 (by decide) ?_
      refine p_callVF (pc := 19) C ln_X5_123 dX5_readThePorts_19 (k_X5_digit (mg_n (by omega) (mup_s _ _ _)) (mg_n (by omega) (mg_n (by omega) h45)) (by omega) (by omega)) ⟨by omega, by omega⟩ (by (repeat refine mg_n (by omega) ?_); first | assumption | exact mup_s _ _ _) rfl rfl rfl rfl (Nat.le_of_ble_eq_true rfl) ?_
      refine p_mem (mup_x _ (by omega) _ _ _) ?_
      refine p_istore_n (pc := 22) (ls' := [(2, _), (0, _), (1, _)]) C dX5_readThePorts_22 (by decide) rfl ?_
      refine p_iload_n (pc := 23) C dX5_readThePorts_23 rfl ?_
      refine p_bipush (pc := 24) C dX5_readThePorts_24 (by decide) ?_
      refine p_icmp_ne (pc := 26) (tgt := 43) C dX5_readThePorts_26 (by decide) (fun c_26 => ?_) (fun c_26 => ?_)
      · obtain ⟨hc, hv, ha⟩ := dg_t (by omega) c_26
        refine p_mem (by rw [ha]) ?_
        rw [if_pos (by subst g2; omega)] at g3
        refine p_aload_n (pc := 43) C dX5_readThePorts_43 rfl ?_
        refine p_get (pc := 44) C fl_X5_37 dX5_readThePorts_44 ⟨by omega, by omega⟩ (by (repeat refine mg_n (by omega) ?_); first | assumption | exact mup_s _ _ _) (by rfl) ?_
        refine p_aload_n (pc := 47) C dX5_readThePorts_47 rfl ?_
        refine p_get (pc := 48) C fl_X5_101 dX5_readThePorts_48 ⟨by omega, by omega⟩ (by (repeat refine mg_n (by omega) ?_); first | assumption | exact mup_s _ _ _) (by rfl) ?_
        refine p_iload_n (pc := 51) C dX5_readThePorts_51 rfl ?_
        refine p_iast (pc := 52) C dX5_readThePorts_52 ⟨by omega, by omega⟩ (by (repeat refine mg_n (by omega) ?_); first | assumption | exact mup_s _ _ _) (by omega) ?_
        try refine p_mem (mup_mup _ _ _ _) ?_
        refine p_aload_n (pc := 53) C dX5_readThePorts_53 rfl ?_
        refine p_dup (pc := 54) C dX5_readThePorts_54 rfl ?_
        refine p_get (pc := 55) C fl_X5_101 dX5_readThePorts_55 ⟨by omega, by omega⟩ (by (repeat refine mg_n (by omega) ?_); first | assumption | exact mup_s _ _ _) (by rfl) ?_
        refine p_iconst (pc := 58) C dX5_readThePorts_58 (by decide) ?_
        refine p_iadd (pc := 59) C dX5_readThePorts_59 ⟨by omega, by omega⟩ ?_
        refine p_putL (pc := 60) (fs' := [_, _, _, _, _, _, _, _, _, _, _, _, _, _, _, _, _, _, _, _, _, _, _, _, _, _, _, _, _, _, _]) C fp_X5_101 dX5_readThePorts_60 ⟨by omega, by omega⟩ (by (repeat refine mg_n (by omega) ?_); first | assumption | exact mup_s _ _ _) (by exact Nat.le_of_ble_eq_true rfl) (by rfl) ?_
        try refine p_mem (mup_mup _ _ _ _) ?_
        refine p_goto (pc := 63) (tgt := 5) C dX5_readThePorts_63 (by decide) ?_
        refine p_pick [1, 2] (ls' := [(0, _), (1, _)]) rfl ?_
        refine p_mem (mup_x _ (by omega) _ _ _) ?_
        refine ih (p + 1) (x + 1) _ (by omega) (by omega) g3 (fun j j0 j1 => ?_)
        by_cases e1 : j = p
        · subst e1; rw [fup_s, hv, g2]
        · rw [fup_n _ _ _ e1]; exact g4 j j0 (by omega)
      · obtain ⟨hc, ha⟩ := dg_f (by omega) c_26
        refine p_mem (by rw [ha]) ?_
        rw [if_neg (by subst g2; omega)] at g3
        refine p_aload_n (pc := 29) C dX5_readThePorts_29 rfl ?_
        refine p_get (pc := 30) C fl_X5_101 dX5_readThePorts_30 ⟨by omega, by omega⟩ (by (repeat refine mg_n (by omega) ?_); first | assumption | exact mup_s _ _ _) (by rfl) ?_
        refine p_iconst (pc := 33) C dX5_readThePorts_33 (by decide) ?_
        refine p_icmp_lt (pc := 34) (tgt := 41) C dX5_readThePorts_34 (by decide) (fun c_34 => ?_) (fun c_34 => ?_)
        · refine p_iconst (pc := 41) C dX5_readThePorts_41 (by decide) ?_
          refine p_zret (pc := 42) C dX5_readThePorts_42 (by first | exact Or.inl rfl | exact Or.inr rfl | (split <;> simp)) ?_
          first
            | exact ⟨sv (by rw [if_pos (by omega)]), x, p, g, rfl, g2, g3, g4⟩
            | exact ⟨sv (by rw [if_neg (by omega)]), x, p, g, rfl, g2, g3, g4⟩
        · refine p_iconst (pc := 37) C dX5_readThePorts_37 (by decide) ?_
          refine p_goto (pc := 38) (tgt := 42) C dX5_readThePorts_38 (by decide) ?_
          refine p_zret (pc := 42) C dX5_readThePorts_42 (by first | exact Or.inl rfl | exact Or.inr rfl | (split <;> simp)) ?_
          first
            | exact ⟨sv (by rw [if_pos (by omega)]), x, p, g, rfl, g2, g3, g4⟩
            | exact ⟨sv (by rw [if_neg (by omega)]), x, p, g, rfl, g2, g3, g4⟩
  refine p_aload_n (pc := 0) C dX5_readThePorts_0 rfl ?_
  refine p_iconst (pc := 1) C dX5_readThePorts_1 (by decide) ?_
  refine p_putL (pc := 2) (fs' := [_, _, _, _, _, _, _, _, _, _, _, _, _, _, _, _, _, _, _, _, _, _, _, _, _, _, _, _, _, _, _]) C fp_X5_101 dX5_readThePorts_2 ⟨by omega, by omega⟩ (by (repeat refine mg_n (by omega) ?_); first | assumption | exact mup_s _ _ _) (by exact Nat.le_of_ble_eq_true rfl) (by rfl) ?_
  try refine p_mem (mup_mup _ _ _ _) ?_
  refine p_mem (mup_id (a := 52) (mg_n (by omega) h52)).symm ?_
  exact L 6 0 _ _ (by omega) (by omega) rfl (fun j j0 j1 => by omega)

set_option maxHeartbeats 4000000 in
set_option maxRecDepth 100000 in
theorem k_X5_readShip {K : KX} {d : Nat} {μ : Int → ME} {e a : Int} {fl tr np ns day at_ rP rS lp lw lf sL sF nr : Int} (h0 : μ 42 = oM fl tr np ns day at_ rP rS lp lw lf sL sF nr) (hat : at_ = a + 1) {G : Int → Int} (h45 : μ 45 = mA 240 G) {g0 : Int → Int} (h53 : μ 53 = mA 40 g0) (hb : 0 ≤ a ∧ e ≤ 240) (hq : 2 ≤ rP ∧ rP ≤ 6) (hk : 0 ≤ rS ∧ rS < 5) : Ct K (d + 2) yX5_readShip cX5_readShip 5 (some .boolean) [vR 42, vI e] μ (pE (vI (if csN G a (e - a) rP 1 8 = 9 then 1 else 0)) (fun μ' => ∃ (x k : Int) (g : Int → Int), μ' = mup (mup μ 42 (oM (fl) tr (np) (ns) (day) (x) (rP) (k) lp lw lf sL sF (nr))) 53 (mA 40 g) ∧ x = a + csN G a (e - a) rP 1 8 ∧ (csN G a (e - a) rP 1 8 = 9 → k = rS + 1) ∧ (∀ j, j < 8 * rS → g j = g0 j) ∧ (csN G a (e - a) rP 1 8 = 9 → g (8 * rS) = kbc (G (a + 1)) ∧ ∀ j, 1 ≤ j → j < 8 → g (8 * rS + j) = G (a + 1 + j) - 48))) := by
  refine Ct.of (by decide) (Nat.le_of_ble_eq_true rfl) (fun X C => ?_)
  have L : ∀ (t : Nat) (j x cd : Int) (g : Int → Int), (1 ≤ j ∧ j + (t : Int) = 8) → x = a + 1 + j → csN G a (e - a) rP (j + 1) t = csN G a (e - a) rP 1 8 → (∀ j, j < 8 * rS → g j = g0 j) → g (8 * rS) = kbc (G (a + 1)) → (∀ i, 1 ≤ i → i < j → g (8 * rS + i) = G (a + 1 + i) - 48) → PW K X 5 (QM K X (pE (vI (if csN G a (e - a) rP 1 8 = 9 then 1 else 0)) (fun μ' => ∃ (x k : Int) (g : Int → Int), μ' = mup (mup μ 42 (oM (fl) tr (np) (ns) (day) (x) (rP) (k) lp lw lf sL sF (nr))) 53 (mA 40 g) ∧ x = a + csN G a (e - a) rP 1 8 ∧ (csN G a (e - a) rP 1 8 = 9 → k = rS + 1) ∧ (∀ j, j < 8 * rS → g j = g0 j) ∧ (csN G a (e - a) rP 1 8 = 9 → g (8 * rS) = kbc (G (a + 1)) ∧ ∀ j, 1 ≤ j → j < 8 → g (8 * rS + j) = G (a + 1 + j) - 48)))) 94 [(4, vI j), (3, vI (8 * rS)), (2, vI cd), (0, vR 42), (1, vI e)] [] (mup (mup μ 42 (oM (fl) tr (np) (ns) (day) (x) (rP) (rS) lp lw lf sL sF (nr))) 53 (mA 40 g)) := by
    intro t
    induction t with
    | zero =>
      intro j x cd g g1 g2 g3 g4 g5 g6
      rw [csN] at g3
      refine p_iload (pc := 94) C dX5_readShip_94 rfl ?_
      refine p_bipush (pc := 96) C dX5_readShip_96 (by decide) ?_
      refine p_icmp_ge (pc := 98) (tgt := 165) C dX5_readShip_98 (by decide) (fun c_98 => ?_) (fun h => by exfalso; omega)
      refine p_aload_n (pc := 165) C dX5_readShip_165 rfl ?_
      refine p_dup (pc := 166) C dX5_readShip_166 rfl ?_
      refine p_get (pc := 167) C fl_X5_104 dX5_readShip_167 ⟨by omega, by omega⟩ (by (repeat refine mg_n (by omega) ?_); first | assumption | exact mup_s _ _ _) (by rfl) ?_
      refine p_iconst (pc := 170) C dX5_readShip_170 (by decide) ?_
      refine p_iadd (pc := 171) C dX5_readShip_171 ⟨by omega, by omega⟩ ?_
      refine p_putL (pc := 172) (fs' := [_, _, _, _, _, _, _, _, _, _, _, _, _, _, _, _, _, _, _, _, _, _, _, _, _, _, _, _, _, _, _]) C fp_X5_104 dX5_readShip_172 ⟨by omega, by omega⟩ (by (repeat refine mg_n (by omega) ?_); first | assumption | exact mup_s _ _ _) (by exact Nat.le_of_ble_eq_true rfl) (by rfl) ?_
      try refine p_mem (mup_mup _ _ _ _) ?_
      refine p_iconst (pc := 175) C dX5_readShip_175 (by decide) ?_
      refine p_zret (pc := 176) C dX5_readShip_176 (by first | exact Or.inl rfl | exact Or.inr rfl | (split <;> simp)) ?_
      refine ⟨sv (by rw [if_pos (by omega)]), x, rS + 1, g, mup_x _ (by omega) _ _ _, by omega, fun z => rfl, g4, fun z => ⟨g5, fun i i1 i2 => g6 i i1 (by omega)⟩⟩
    | succ t ih =>
      intro j x cd g g1 g2 g3 g4 g5 g6
      rw [csN] at g3
      refine p_iload (pc := 94) C dX5_readShip_94 rfl ?_
      refine p_bipush (pc := 96) C dX5_readShip_96 (by decide) ?_
      refine p_icmp_ge (pc := 98) (tgt := 165) C dX5_readShip_98 (by decide) (fun h => by exfalso; omega) (fun c_98 => ?_)
      refine p_aload_n (pc := 101) C dX5_readShip_101 rfl ?_
      refine p_get (pc := 102) C fl_X5_40 dX5_readShip_102 ⟨by omega, by omega⟩ (by (repeat refine mg_n (by omega) ?_); first | assumption | exact mup_s _ _ _) (by rfl) ?_
      refine p_iload_n (pc := 105) C dX5_readShip_105 rfl ?_
      refine p_iload (pc := 106) C dX5_readShip_106 rfl ?_
      refine p_iadd (pc := 108) C dX5_readShip_108 ⟨by omega, by omega⟩ ?_
      refine p_aload_n (pc := 109) C dX5_readShip_109 rfl ?_
      refine p_iload_n (pc := 110) C dX5_readShip_110 rfl ?_
      refine p_iconst (pc := 111) C dX5_readShip_111 (by decide) ?_
      refine p_iload (pc := 112) C dX5_readShip_112 rfl ?_
      refine p_iconst (pc := 114) C dX5_readShip_114 (by decide) ?_
      refine p_icmp_ne (pc := 115) (tgt := 122) C dX5_readShip_115 (by decide) (fun c_115 => ?_) (fun c_115 => ?_)
      · refine p_iload (pc := 122) C dX5_readShip_122 rfl ?_
        refine p_iconst (pc := 124) C dX5_readShip_124 (by decide) ?_
        refine p_icmp_ne (pc := 125) (tgt := 137) C dX5_readShip_125 (by decide) (fun c_125 => ?_) (fun c_125 => ?_)
        · refine p_bipush (pc := 137) C dX5_readShip_137 (by decide) ?_
          refine p_top (show _ = hiF j rP by unfold hiF; first | rw [if_pos (by omega)] | rw [if_neg (by omega), if_pos (by omega)] | rw [if_neg (by omega), if_neg (by omega)]) ?_
          have hsc := sc_hi (v := G x) (q := rP) g1.1 (show j < 8 by omega)
          refine p_callVF (pc := 139) C ln_X5_123 dX5_readShip_139 (k_X5_digit (mg_n (by omega) (mup_s _ _ _)) (mg_n (by omega) (mg_n (by omega) h45)) (by omega) (by unfold hiF; omega)) ⟨by omega, by omega⟩ (by (repeat refine mg_n (by omega) ?_); first | assumption | exact mup_s _ _ _) rfl rfl rfl rfl (Nat.le_of_ble_eq_true rfl) ?_
          refine p_mem (mup_x _ (by omega) _ _ _) ?_
          refine p_iast (pc := 142) C dX5_readShip_142 ⟨by omega, by omega⟩ (by (repeat refine mg_n (by omega) ?_); first | assumption | exact mup_s _ _ _) (by omega) ?_
          try refine p_mem (mup_mup _ _ _ _) ?_
          refine p_aload_n (pc := 143) C dX5_readShip_143 rfl ?_
          refine p_get (pc := 144) C fl_X5_40 dX5_readShip_144 ⟨by omega, by omega⟩ (by (repeat refine mg_n (by omega) ?_); first | assumption | exact mup_s _ _ _) (by rfl) ?_
          refine p_iload_n (pc := 147) C dX5_readShip_147 rfl ?_
          refine p_iload (pc := 148) C dX5_readShip_148 rfl ?_
          refine p_iadd (pc := 150) C dX5_readShip_150 ⟨by omega, by omega⟩ ?_
          refine p_iald (pc := 151) C dX5_readShip_151 ⟨by omega, by omega⟩ (by (repeat refine mg_n (by omega) ?_); first | assumption | exact mup_s _ _ _) (by omega) ?_
          try refine p_top (fup_s _ _ _) ?_
          refine p_bipush (pc := 152) C dX5_readShip_152 (by decide) ?_
          refine p_icmp_ne (pc := 154) (tgt := 159) C dX5_readShip_154 (by decide) (fun c_154 => ?_) (fun c_154 => ?_)
          · obtain ⟨hc, hv, ha⟩ := dg_t (by omega) c_154
            refine p_mem (by rw [ha]) ?_
            rw [if_pos ⟨by omega, by rw [show a + (j + 1) = x by omega]; exact hsc.mpr hc.2⟩] at g3
            refine p_iinc (pc := 159) (ls' := [(4, _), (3, _), (2, _), (0, _), (1, _)]) C dX5_readShip_159 (by decide) rfl ⟨by omega, by omega⟩ rfl ?_
            refine p_goto (pc := 162) (tgt := 94) C dX5_readShip_162 (by decide) ?_
            refine ih (j + 1) (x + 1) _ _ (by omega) (by omega) g3 (fun i i1 => by rw [fup_n _ _ _ (by omega)]; exact g4 i i1) (by rw [fup_n _ _ _ (by omega)]; exact g5) (fun i i0 i1 => ?_)
            by_cases e1 : i = j
            · subst e1; rw [fup_s, hv, g2]
            · rw [fup_n _ _ _ (by omega)]; exact g6 i i0 (by omega)
          · obtain ⟨hc, ha⟩ := dg_f (by omega) c_154
            refine p_mem (by rw [ha]) ?_
            rw [if_neg (fun z => hc ⟨by omega, by rw [← hsc, g2, show a + 1 + j = a + (j + 1) by omega]; exact z.2⟩)] at g3
            refine p_iconst (pc := 157) C dX5_readShip_157 (by decide) ?_
            refine p_zret (pc := 158) C dX5_readShip_158 (by first | exact Or.inl rfl | exact Or.inr rfl | (split <;> simp)) ?_
            exact ⟨sv (by rw [if_neg (by omega)]), x, rS, _, rfl, by omega, fun z => by omega, fun i i1 => by rw [fup_n _ _ _ (by omega)]; exact g4 i i1, fun z => by omega⟩
        · refine p_aload_n (pc := 128) C dX5_readShip_128 rfl ?_
          refine p_get (pc := 129) C fl_X5_101 dX5_readShip_129 ⟨by omega, by omega⟩ (by (repeat refine mg_n (by omega) ?_); first | assumption | exact mup_s _ _ _) (by rfl) ?_
          refine p_iconst (pc := 132) C dX5_readShip_132 (by decide) ?_
          refine p_isub (pc := 133) C dX5_readShip_133 ⟨by omega, by omega⟩ ?_
          refine p_goto (pc := 134) (tgt := 139) C dX5_readShip_134 (by decide) ?_
          refine p_top (show _ = hiF j rP by unfold hiF; first | rw [if_pos (by omega)] | rw [if_neg (by omega), if_pos (by omega)] | rw [if_neg (by omega), if_neg (by omega)]) ?_
          have hsc := sc_hi (v := G x) (q := rP) g1.1 (show j < 8 by omega)
          refine p_callVF (pc := 139) C ln_X5_123 dX5_readShip_139 (k_X5_digit (mg_n (by omega) (mup_s _ _ _)) (mg_n (by omega) (mg_n (by omega) h45)) (by omega) (by unfold hiF; omega)) ⟨by omega, by omega⟩ (by (repeat refine mg_n (by omega) ?_); first | assumption | exact mup_s _ _ _) rfl rfl rfl rfl (Nat.le_of_ble_eq_true rfl) ?_
          refine p_mem (mup_x _ (by omega) _ _ _) ?_
          refine p_iast (pc := 142) C dX5_readShip_142 ⟨by omega, by omega⟩ (by (repeat refine mg_n (by omega) ?_); first | assumption | exact mup_s _ _ _) (by omega) ?_
          try refine p_mem (mup_mup _ _ _ _) ?_
          refine p_aload_n (pc := 143) C dX5_readShip_143 rfl ?_
          refine p_get (pc := 144) C fl_X5_40 dX5_readShip_144 ⟨by omega, by omega⟩ (by (repeat refine mg_n (by omega) ?_); first | assumption | exact mup_s _ _ _) (by rfl) ?_
          refine p_iload_n (pc := 147) C dX5_readShip_147 rfl ?_
          refine p_iload (pc := 148) C dX5_readShip_148 rfl ?_
          refine p_iadd (pc := 150) C dX5_readShip_150 ⟨by omega, by omega⟩ ?_
          refine p_iald (pc := 151) C dX5_readShip_151 ⟨by omega, by omega⟩ (by (repeat refine mg_n (by omega) ?_); first | assumption | exact mup_s _ _ _) (by omega) ?_
          try refine p_top (fup_s _ _ _) ?_
          refine p_bipush (pc := 152) C dX5_readShip_152 (by decide) ?_
          refine p_icmp_ne (pc := 154) (tgt := 159) C dX5_readShip_154 (by decide) (fun c_154 => ?_) (fun c_154 => ?_)
          · obtain ⟨hc, hv, ha⟩ := dg_t (by omega) c_154
            refine p_mem (by rw [ha]) ?_
            rw [if_pos ⟨by omega, by rw [show a + (j + 1) = x by omega]; exact hsc.mpr hc.2⟩] at g3
            refine p_iinc (pc := 159) (ls' := [(4, _), (3, _), (2, _), (0, _), (1, _)]) C dX5_readShip_159 (by decide) rfl ⟨by omega, by omega⟩ rfl ?_
            refine p_goto (pc := 162) (tgt := 94) C dX5_readShip_162 (by decide) ?_
            refine ih (j + 1) (x + 1) _ _ (by omega) (by omega) g3 (fun i i1 => by rw [fup_n _ _ _ (by omega)]; exact g4 i i1) (by rw [fup_n _ _ _ (by omega)]; exact g5) (fun i i0 i1 => ?_)
            by_cases e1 : i = j
            · subst e1; rw [fup_s, hv, g2]
            · rw [fup_n _ _ _ (by omega)]; exact g6 i i0 (by omega)
          · obtain ⟨hc, ha⟩ := dg_f (by omega) c_154
            refine p_mem (by rw [ha]) ?_
            rw [if_neg (fun z => hc ⟨by omega, by rw [← hsc, g2, show a + 1 + j = a + (j + 1) by omega]; exact z.2⟩)] at g3
            refine p_iconst (pc := 157) C dX5_readShip_157 (by decide) ?_
            refine p_zret (pc := 158) C dX5_readShip_158 (by first | exact Or.inl rfl | exact Or.inr rfl | (split <;> simp)) ?_
            exact ⟨sv (by rw [if_neg (by omega)]), x, rS, _, rfl, by omega, fun z => by omega, fun i i1 => by rw [fup_n _ _ _ (by omega)]; exact g4 i i1, fun z => by omega⟩
      · refine p_iconst (pc := 118) C dX5_readShip_118 (by decide) ?_
        refine p_goto (pc := 119) (tgt := 139) C dX5_readShip_119 (by decide) ?_
        refine p_top (show _ = hiF j rP by unfold hiF; first | rw [if_pos (by omega)] | rw [if_neg (by omega), if_pos (by omega)] | rw [if_neg (by omega), if_neg (by omega)]) ?_
        have hsc := sc_hi (v := G x) (q := rP) g1.1 (show j < 8 by omega)
        refine p_callVF (pc := 139) C ln_X5_123 dX5_readShip_139 (k_X5_digit (mg_n (by omega) (mup_s _ _ _)) (mg_n (by omega) (mg_n (by omega) h45)) (by omega) (by unfold hiF; omega)) ⟨by omega, by omega⟩ (by (repeat refine mg_n (by omega) ?_); first | assumption | exact mup_s _ _ _) rfl rfl rfl rfl (Nat.le_of_ble_eq_true rfl) ?_
        refine p_mem (mup_x _ (by omega) _ _ _) ?_
        refine p_iast (pc := 142) C dX5_readShip_142 ⟨by omega, by omega⟩ (by (repeat refine mg_n (by omega) ?_); first | assumption | exact mup_s _ _ _) (by omega) ?_
        try refine p_mem (mup_mup _ _ _ _) ?_
        refine p_aload_n (pc := 143) C dX5_readShip_143 rfl ?_
        refine p_get (pc := 144) C fl_X5_40 dX5_readShip_144 ⟨by omega, by omega⟩ (by (repeat refine mg_n (by omega) ?_); first | assumption | exact mup_s _ _ _) (by rfl) ?_
        refine p_iload_n (pc := 147) C dX5_readShip_147 rfl ?_
        refine p_iload (pc := 148) C dX5_readShip_148 rfl ?_
        refine p_iadd (pc := 150) C dX5_readShip_150 ⟨by omega, by omega⟩ ?_
        refine p_iald (pc := 151) C dX5_readShip_151 ⟨by omega, by omega⟩ (by (repeat refine mg_n (by omega) ?_); first | assumption | exact mup_s _ _ _) (by omega) ?_
        try refine p_top (fup_s _ _ _) ?_
        refine p_bipush (pc := 152) C dX5_readShip_152 (by decide) ?_
        refine p_icmp_ne (pc := 154) (tgt := 159) C dX5_readShip_154 (by decide) (fun c_154 => ?_) (fun c_154 => ?_)
        · obtain ⟨hc, hv, ha⟩ := dg_t (by omega) c_154
          refine p_mem (by rw [ha]) ?_
          rw [if_pos ⟨by omega, by rw [show a + (j + 1) = x by omega]; exact hsc.mpr hc.2⟩] at g3
          refine p_iinc (pc := 159) (ls' := [(4, _), (3, _), (2, _), (0, _), (1, _)]) C dX5_readShip_159 (by decide) rfl ⟨by omega, by omega⟩ rfl ?_
          refine p_goto (pc := 162) (tgt := 94) C dX5_readShip_162 (by decide) ?_
          refine ih (j + 1) (x + 1) _ _ (by omega) (by omega) g3 (fun i i1 => by rw [fup_n _ _ _ (by omega)]; exact g4 i i1) (by rw [fup_n _ _ _ (by omega)]; exact g5) (fun i i0 i1 => ?_)
          by_cases e1 : i = j
          · subst e1; rw [fup_s, hv, g2]
          · rw [fup_n _ _ _ (by omega)]; exact g6 i i0 (by omega)
        · obtain ⟨hc, ha⟩ := dg_f (by omega) c_154
          refine p_mem (by rw [ha]) ?_
          rw [if_neg (fun z => hc ⟨by omega, by rw [← hsc, g2, show a + 1 + j = a + (j + 1) by omega]; exact z.2⟩)] at g3
          refine p_iconst (pc := 157) C dX5_readShip_157 (by decide) ?_
          refine p_zret (pc := 158) C dX5_readShip_158 (by first | exact Or.inl rfl | exact Or.inr rfl | (split <;> simp)) ?_
          exact ⟨sv (by rw [if_neg (by omega)]), x, rS, _, rfl, by omega, fun z => by omega, fun i i1 => by rw [fup_n _ _ _ (by omega)]; exact g4 i i1, fun z => by omega⟩
  refine p_aload_n (pc := 0) C dX5_readShip_0 rfl ?_
  refine p_get (pc := 1) C fl_X5_77 dX5_readShip_1 ⟨by omega, by omega⟩ (by (repeat refine mg_n (by omega) ?_); first | assumption | exact mup_s _ _ _) (by rfl) ?_
  refine p_iload_n (pc := 4) C dX5_readShip_4 rfl ?_
  refine p_icmp_ge (pc := 5) (tgt := 20) C dX5_readShip_5 (by decide) (fun c_5 => ?_) (fun c_5 => ?_)
  · refine p_iconst (pc := 20) C dX5_readShip_20 (by decide) ?_
    refine p_istore_n (pc := 21) (ls' := [(2, _), (0, _), (1, _)]) C dX5_readShip_21 (by decide) rfl ?_
    refine p_bipush (pc := 22) C dX5_readShip_22 (by decide) ?_
    refine p_aload_n (pc := 24) C dX5_readShip_24 rfl ?_
    refine p_get (pc := 25) C fl_X5_104 dX5_readShip_25 ⟨by omega, by omega⟩ (by (repeat refine mg_n (by omega) ?_); first | assumption | exact mup_s _ _ _) (by rfl) ?_
    refine p_imul (pc := 28) C dX5_readShip_28 ⟨by omega, by omega⟩ ?_
    refine p_istore_n (pc := 29) (ls' := [(3, _), (2, _), (0, _), (1, _)]) C dX5_readShip_29 (by decide) rfl ?_
    refine p_aload_n (pc := 30) C dX5_readShip_30 rfl ?_
    refine p_get (pc := 31) C fl_X5_40 dX5_readShip_31 ⟨by omega, by omega⟩ (by (repeat refine mg_n (by omega) ?_); first | assumption | exact mup_s _ _ _) (by rfl) ?_
    refine p_iload_n (pc := 34) C dX5_readShip_34 rfl ?_
    refine p_iload_n (pc := 35) C dX5_readShip_35 rfl ?_
    refine p_bipush (pc := 36) C dX5_readShip_36 (by decide) ?_
    refine p_icmp_ne (pc := 38) (tgt := 45) C dX5_readShip_38 (by decide) (fun c_38 => ?_) (fun h => absurd h (by decide))
    refine p_iload_n (pc := 45) C dX5_readShip_45 rfl ?_
    refine p_bipush (pc := 46) C dX5_readShip_46 (by decide) ?_
    refine p_icmp_ne (pc := 48) (tgt := 55) C dX5_readShip_48 (by decide) (fun c_48 => ?_) (fun h => absurd h (by decide))
    refine p_iload_n (pc := 55) C dX5_readShip_55 rfl ?_
    refine p_bipush (pc := 56) C dX5_readShip_56 (by decide) ?_
    refine p_icmp_ne (pc := 58) (tgt := 65) C dX5_readShip_58 (by decide) (fun c_58 => ?_) (fun h => absurd h (by decide))
    refine p_bipush (pc := 65) C dX5_readShip_65 (by decide) ?_
    refine p_iast (pc := 67) C dX5_readShip_67 ⟨by omega, by omega⟩ (by (repeat refine mg_n (by omega) ?_); first | assumption | exact mup_s _ _ _) (by omega) ?_
    try refine p_mem (mup_mup _ _ _ _) ?_
    refine p_aload_n (pc := 68) C dX5_readShip_68 rfl ?_
    refine p_get (pc := 69) C fl_X5_40 dX5_readShip_69 ⟨by omega, by omega⟩ (by (repeat refine mg_n (by omega) ?_); first | assumption | exact mup_s _ _ _) (by rfl) ?_
    refine p_iload_n (pc := 72) C dX5_readShip_72 rfl ?_
    refine p_iald (pc := 73) C dX5_readShip_73 ⟨by omega, by omega⟩ (by (repeat refine mg_n (by omega) ?_); first | assumption | exact mup_s _ _ _) (by omega) ?_
    try refine p_top (fup_s _ _ _) ?_
    refine p_bipush (pc := 74) C dX5_readShip_74 (by decide) ?_
    refine p_icmp_ne (pc := 76) (tgt := 81) C dX5_readShip_76 (by decide) (fun c_76 => ?_) (fun c_76 => ?_)
    · refine p_aload_n (pc := 81) C dX5_readShip_81 rfl ?_
      refine p_dup (pc := 82) C dX5_readShip_82 rfl ?_
      refine p_get (pc := 83) C fl_X5_77 dX5_readShip_83 ⟨by omega, by omega⟩ (by (repeat refine mg_n (by omega) ?_); first | assumption | exact mup_s _ _ _) (by rfl) ?_
      refine p_iconst (pc := 86) C dX5_readShip_86 (by decide) ?_
      refine p_iadd (pc := 87) C dX5_readShip_87 ⟨by omega, by omega⟩ ?_
      refine p_putL (pc := 88) (fs' := [_, _, _, _, _, _, _, _, _, _, _, _, _, _, _, _, _, _, _, _, _, _, _, _, _, _, _, _, _, _, _]) C fp_X5_77 dX5_readShip_88 ⟨by omega, by omega⟩ (by (repeat refine mg_n (by omega) ?_); first | assumption | exact mup_s _ _ _) (by exact Nat.le_of_ble_eq_true rfl) (by rfl) ?_
      try refine p_mem (mup_mup _ _ _ _) ?_
      refine p_iconst (pc := 91) C dX5_readShip_91 (by decide) ?_
      refine p_istore (pc := 92) (ls' := [(4, _), (3, _), (2, _), (0, _), (1, _)]) C dX5_readShip_92 (by decide) rfl ?_
      first
        | (exfalso; omega)
        | (have c1 : csN G a (e - a) rP 1 8 = csN G a (e - a) rP 2 7 := cs_1t (by rw [← hat]; omega)
           refine p_mem (mup_comm _ _ _ (by omega)) ?_
           exact L 7 1 _ _ _ (by omega) (by omega) c1.symm (fun i i1 => fup_n _ _ _ (by omega)) (by rw [fup_s]; unfold kbc; rw [← hat]; first | rw [if_pos (by omega)] | rw [if_neg (by omega), if_pos (by omega)] | rw [if_neg (by omega), if_neg (by omega), if_pos (by omega)]) (fun i i1 i2 => by omega))
    · refine p_iconst (pc := 79) C dX5_readShip_79 (by decide) ?_
      refine p_zret (pc := 80) C dX5_readShip_80 (by first | exact Or.inl rfl | exact Or.inr rfl | (split <;> simp)) ?_
      first
        | (exfalso; omega)
        | (have c1 : csN G a (e - a) rP 1 8 = 1 := cs_1f (by rw [← hat]; omega)
           exact ⟨sv (by rw [if_neg (by omega)]), at_, rS, _, by rw [mup_id (a := 42) h0], by omega, fun z => by omega, fun i i1 => fup_n _ _ _ (by omega), fun z => by omega⟩)
  · refine p_aload_n (pc := 8) C dX5_readShip_8 rfl ?_
    refine p_get (pc := 9) C fl_X5_16 dX5_readShip_9 ⟨by omega, by omega⟩ (by (repeat refine mg_n (by omega) ?_); first | assumption | exact mup_s _ _ _) (by rfl) ?_
    refine p_aload_n (pc := 12) C dX5_readShip_12 rfl ?_
    refine p_get (pc := 13) C fl_X5_77 dX5_readShip_13 ⟨by omega, by omega⟩ (by (repeat refine mg_n (by omega) ?_); first | assumption | exact mup_s _ _ _) (by rfl) ?_
    refine p_iald (pc := 16) C dX5_readShip_16 ⟨by omega, by omega⟩ (by (repeat refine mg_n (by omega) ?_); first | assumption | exact mup_s _ _ _) (by omega) ?_
    try refine p_top (fup_s _ _ _) ?_
    refine p_goto (pc := 17) (tgt := 21) C dX5_readShip_17 (by decide) ?_
    refine p_istore_n (pc := 21) (ls' := [(2, _), (0, _), (1, _)]) C dX5_readShip_21 (by decide) rfl ?_
    refine p_bipush (pc := 22) C dX5_readShip_22 (by decide) ?_
    refine p_aload_n (pc := 24) C dX5_readShip_24 rfl ?_
    refine p_get (pc := 25) C fl_X5_104 dX5_readShip_25 ⟨by omega, by omega⟩ (by (repeat refine mg_n (by omega) ?_); first | assumption | exact mup_s _ _ _) (by rfl) ?_
    refine p_imul (pc := 28) C dX5_readShip_28 ⟨by omega, by omega⟩ ?_
    refine p_istore_n (pc := 29) (ls' := [(3, _), (2, _), (0, _), (1, _)]) C dX5_readShip_29 (by decide) rfl ?_
    refine p_aload_n (pc := 30) C dX5_readShip_30 rfl ?_
    refine p_get (pc := 31) C fl_X5_40 dX5_readShip_31 ⟨by omega, by omega⟩ (by (repeat refine mg_n (by omega) ?_); first | assumption | exact mup_s _ _ _) (by rfl) ?_
    refine p_iload_n (pc := 34) C dX5_readShip_34 rfl ?_
    refine p_iload_n (pc := 35) C dX5_readShip_35 rfl ?_
    refine p_bipush (pc := 36) C dX5_readShip_36 (by decide) ?_
    refine p_icmp_ne (pc := 38) (tgt := 45) C dX5_readShip_38 (by decide) (fun c_38 => ?_) (fun c_38 => ?_)
    · refine p_iload_n (pc := 45) C dX5_readShip_45 rfl ?_
      refine p_bipush (pc := 46) C dX5_readShip_46 (by decide) ?_
      refine p_icmp_ne (pc := 48) (tgt := 55) C dX5_readShip_48 (by decide) (fun c_48 => ?_) (fun c_48 => ?_)
      · refine p_iload_n (pc := 55) C dX5_readShip_55 rfl ?_
        refine p_bipush (pc := 56) C dX5_readShip_56 (by decide) ?_
        refine p_icmp_ne (pc := 58) (tgt := 65) C dX5_readShip_58 (by decide) (fun c_58 => ?_) (fun c_58 => ?_)
        · refine p_bipush (pc := 65) C dX5_readShip_65 (by decide) ?_
          refine p_iast (pc := 67) C dX5_readShip_67 ⟨by omega, by omega⟩ (by (repeat refine mg_n (by omega) ?_); first | assumption | exact mup_s _ _ _) (by omega) ?_
          try refine p_mem (mup_mup _ _ _ _) ?_
          refine p_aload_n (pc := 68) C dX5_readShip_68 rfl ?_
          refine p_get (pc := 69) C fl_X5_40 dX5_readShip_69 ⟨by omega, by omega⟩ (by (repeat refine mg_n (by omega) ?_); first | assumption | exact mup_s _ _ _) (by rfl) ?_
          refine p_iload_n (pc := 72) C dX5_readShip_72 rfl ?_
          refine p_iald (pc := 73) C dX5_readShip_73 ⟨by omega, by omega⟩ (by (repeat refine mg_n (by omega) ?_); first | assumption | exact mup_s _ _ _) (by omega) ?_
          try refine p_top (fup_s _ _ _) ?_
          refine p_bipush (pc := 74) C dX5_readShip_74 (by decide) ?_
          refine p_icmp_ne (pc := 76) (tgt := 81) C dX5_readShip_76 (by decide) (fun c_76 => ?_) (fun c_76 => ?_)
          · refine p_aload_n (pc := 81) C dX5_readShip_81 rfl ?_
            refine p_dup (pc := 82) C dX5_readShip_82 rfl ?_
            refine p_get (pc := 83) C fl_X5_77 dX5_readShip_83 ⟨by omega, by omega⟩ (by (repeat refine mg_n (by omega) ?_); first | assumption | exact mup_s _ _ _) (by rfl) ?_
            refine p_iconst (pc := 86) C dX5_readShip_86 (by decide) ?_
            refine p_iadd (pc := 87) C dX5_readShip_87 ⟨by omega, by omega⟩ ?_
            refine p_putL (pc := 88) (fs' := [_, _, _, _, _, _, _, _, _, _, _, _, _, _, _, _, _, _, _, _, _, _, _, _, _, _, _, _, _, _, _]) C fp_X5_77 dX5_readShip_88 ⟨by omega, by omega⟩ (by (repeat refine mg_n (by omega) ?_); first | assumption | exact mup_s _ _ _) (by exact Nat.le_of_ble_eq_true rfl) (by rfl) ?_
            try refine p_mem (mup_mup _ _ _ _) ?_
            refine p_iconst (pc := 91) C dX5_readShip_91 (by decide) ?_
            refine p_istore (pc := 92) (ls' := [(4, _), (3, _), (2, _), (0, _), (1, _)]) C dX5_readShip_92 (by decide) rfl ?_
            first
              | (exfalso; omega)
              | (have c1 : csN G a (e - a) rP 1 8 = csN G a (e - a) rP 2 7 := cs_1t (by rw [← hat]; omega)
                 refine p_mem (mup_comm _ _ _ (by omega)) ?_
                 exact L 7 1 _ _ _ (by omega) (by omega) c1.symm (fun i i1 => fup_n _ _ _ (by omega)) (by rw [fup_s]; unfold kbc; rw [← hat]; first | rw [if_pos (by omega)] | rw [if_neg (by omega), if_pos (by omega)] | rw [if_neg (by omega), if_neg (by omega), if_pos (by omega)]) (fun i i1 i2 => by omega))
          · refine p_iconst (pc := 79) C dX5_readShip_79 (by decide) ?_
            refine p_zret (pc := 80) C dX5_readShip_80 (by first | exact Or.inl rfl | exact Or.inr rfl | (split <;> simp)) ?_
            first
              | (exfalso; omega)
              | (have c1 : csN G a (e - a) rP 1 8 = 1 := cs_1f (by rw [← hat]; omega)
                 exact ⟨sv (by rw [if_neg (by omega)]), at_, rS, _, by rw [mup_id (a := 42) h0], by omega, fun z => by omega, fun i i1 => fup_n _ _ _ (by omega), fun z => by omega⟩)
        · refine p_iconst (pc := 61) C dX5_readShip_61 (by decide) ?_
          refine p_goto (pc := 62) (tgt := 67) C dX5_readShip_62 (by decide) ?_
          refine p_iast (pc := 67) C dX5_readShip_67 ⟨by omega, by omega⟩ (by (repeat refine mg_n (by omega) ?_); first | assumption | exact mup_s _ _ _) (by omega) ?_
          try refine p_mem (mup_mup _ _ _ _) ?_
          refine p_aload_n (pc := 68) C dX5_readShip_68 rfl ?_
          refine p_get (pc := 69) C fl_X5_40 dX5_readShip_69 ⟨by omega, by omega⟩ (by (repeat refine mg_n (by omega) ?_); first | assumption | exact mup_s _ _ _) (by rfl) ?_
          refine p_iload_n (pc := 72) C dX5_readShip_72 rfl ?_
          refine p_iald (pc := 73) C dX5_readShip_73 ⟨by omega, by omega⟩ (by (repeat refine mg_n (by omega) ?_); first | assumption | exact mup_s _ _ _) (by omega) ?_
          try refine p_top (fup_s _ _ _) ?_
          refine p_bipush (pc := 74) C dX5_readShip_74 (by decide) ?_
          refine p_icmp_ne (pc := 76) (tgt := 81) C dX5_readShip_76 (by decide) (fun c_76 => ?_) (fun c_76 => ?_)
          · refine p_aload_n (pc := 81) C dX5_readShip_81 rfl ?_
            refine p_dup (pc := 82) C dX5_readShip_82 rfl ?_
            refine p_get (pc := 83) C fl_X5_77 dX5_readShip_83 ⟨by omega, by omega⟩ (by (repeat refine mg_n (by omega) ?_); first | assumption | exact mup_s _ _ _) (by rfl) ?_
            refine p_iconst (pc := 86) C dX5_readShip_86 (by decide) ?_
            refine p_iadd (pc := 87) C dX5_readShip_87 ⟨by omega, by omega⟩ ?_
            refine p_putL (pc := 88) (fs' := [_, _, _, _, _, _, _, _, _, _, _, _, _, _, _, _, _, _, _, _, _, _, _, _, _, _, _, _, _, _, _]) C fp_X5_77 dX5_readShip_88 ⟨by omega, by omega⟩ (by (repeat refine mg_n (by omega) ?_); first | assumption | exact mup_s _ _ _) (by exact Nat.le_of_ble_eq_true rfl) (by rfl) ?_
            try refine p_mem (mup_mup _ _ _ _) ?_
            refine p_iconst (pc := 91) C dX5_readShip_91 (by decide) ?_
            refine p_istore (pc := 92) (ls' := [(4, _), (3, _), (2, _), (0, _), (1, _)]) C dX5_readShip_92 (by decide) rfl ?_
            first
              | (exfalso; omega)
              | (have c1 : csN G a (e - a) rP 1 8 = csN G a (e - a) rP 2 7 := cs_1t (by rw [← hat]; omega)
                 refine p_mem (mup_comm _ _ _ (by omega)) ?_
                 exact L 7 1 _ _ _ (by omega) (by omega) c1.symm (fun i i1 => fup_n _ _ _ (by omega)) (by rw [fup_s]; unfold kbc; rw [← hat]; first | rw [if_pos (by omega)] | rw [if_neg (by omega), if_pos (by omega)] | rw [if_neg (by omega), if_neg (by omega), if_pos (by omega)]) (fun i i1 i2 => by omega))
          · refine p_iconst (pc := 79) C dX5_readShip_79 (by decide) ?_
            refine p_zret (pc := 80) C dX5_readShip_80 (by first | exact Or.inl rfl | exact Or.inr rfl | (split <;> simp)) ?_
            first
              | (exfalso; omega)
              | (have c1 : csN G a (e - a) rP 1 8 = 1 := cs_1f (by rw [← hat]; omega)
                 exact ⟨sv (by rw [if_neg (by omega)]), at_, rS, _, by rw [mup_id (a := 42) h0], by omega, fun z => by omega, fun i i1 => fup_n _ _ _ (by omega), fun z => by omega⟩)
      · refine p_iconst (pc := 51) C dX5_readShip_51 (by decide) ?_
        refine p_goto (pc := 52) (tgt := 67) C dX5_readShip_52 (by decide) ?_
        refine p_iast (pc := 67) C dX5_readShip_67 ⟨by omega, by omega⟩ (by (repeat refine mg_n (by omega) ?_); first | assumption | exact mup_s _ _ _) (by omega) ?_
        try refine p_mem (mup_mup _ _ _ _) ?_
        refine p_aload_n (pc := 68) C dX5_readShip_68 rfl ?_
        refine p_get (pc := 69) C fl_X5_40 dX5_readShip_69 ⟨by omega, by omega⟩ (by (repeat refine mg_n (by omega) ?_); first | assumption | exact mup_s _ _ _) (by rfl) ?_
        refine p_iload_n (pc := 72) C dX5_readShip_72 rfl ?_
        refine p_iald (pc := 73) C dX5_readShip_73 ⟨by omega, by omega⟩ (by (repeat refine mg_n (by omega) ?_); first | assumption | exact mup_s _ _ _) (by omega) ?_
        try refine p_top (fup_s _ _ _) ?_
        refine p_bipush (pc := 74) C dX5_readShip_74 (by decide) ?_
        refine p_icmp_ne (pc := 76) (tgt := 81) C dX5_readShip_76 (by decide) (fun c_76 => ?_) (fun c_76 => ?_)
        · refine p_aload_n (pc := 81) C dX5_readShip_81 rfl ?_
          refine p_dup (pc := 82) C dX5_readShip_82 rfl ?_
          refine p_get (pc := 83) C fl_X5_77 dX5_readShip_83 ⟨by omega, by omega⟩ (by (repeat refine mg_n (by omega) ?_); first | assumption | exact mup_s _ _ _) (by rfl) ?_
          refine p_iconst (pc := 86) C dX5_readShip_86 (by decide) ?_
          refine p_iadd (pc := 87) C dX5_readShip_87 ⟨by omega, by omega⟩ ?_
          refine p_putL (pc := 88) (fs' := [_, _, _, _, _, _, _, _, _, _, _, _, _, _, _, _, _, _, _, _, _, _, _, _, _, _, _, _, _, _, _]) C fp_X5_77 dX5_readShip_88 ⟨by omega, by omega⟩ (by (repeat refine mg_n (by omega) ?_); first | assumption | exact mup_s _ _ _) (by exact Nat.le_of_ble_eq_true rfl) (by rfl) ?_
          try refine p_mem (mup_mup _ _ _ _) ?_
          refine p_iconst (pc := 91) C dX5_readShip_91 (by decide) ?_
          refine p_istore (pc := 92) (ls' := [(4, _), (3, _), (2, _), (0, _), (1, _)]) C dX5_readShip_92 (by decide) rfl ?_
          first
            | (exfalso; omega)
            | (have c1 : csN G a (e - a) rP 1 8 = csN G a (e - a) rP 2 7 := cs_1t (by rw [← hat]; omega)
               refine p_mem (mup_comm _ _ _ (by omega)) ?_
               exact L 7 1 _ _ _ (by omega) (by omega) c1.symm (fun i i1 => fup_n _ _ _ (by omega)) (by rw [fup_s]; unfold kbc; rw [← hat]; first | rw [if_pos (by omega)] | rw [if_neg (by omega), if_pos (by omega)] | rw [if_neg (by omega), if_neg (by omega), if_pos (by omega)]) (fun i i1 i2 => by omega))
        · refine p_iconst (pc := 79) C dX5_readShip_79 (by decide) ?_
          refine p_zret (pc := 80) C dX5_readShip_80 (by first | exact Or.inl rfl | exact Or.inr rfl | (split <;> simp)) ?_
          first
            | (exfalso; omega)
            | (have c1 : csN G a (e - a) rP 1 8 = 1 := cs_1f (by rw [← hat]; omega)
               exact ⟨sv (by rw [if_neg (by omega)]), at_, rS, _, by rw [mup_id (a := 42) h0], by omega, fun z => by omega, fun i i1 => fup_n _ _ _ (by omega), fun z => by omega⟩)
    · refine p_iconst (pc := 41) C dX5_readShip_41 (by decide) ?_
      refine p_goto (pc := 42) (tgt := 67) C dX5_readShip_42 (by decide) ?_
      refine p_iast (pc := 67) C dX5_readShip_67 ⟨by omega, by omega⟩ (by (repeat refine mg_n (by omega) ?_); first | assumption | exact mup_s _ _ _) (by omega) ?_
      try refine p_mem (mup_mup _ _ _ _) ?_
      refine p_aload_n (pc := 68) C dX5_readShip_68 rfl ?_
      refine p_get (pc := 69) C fl_X5_40 dX5_readShip_69 ⟨by omega, by omega⟩ (by (repeat refine mg_n (by omega) ?_); first | assumption | exact mup_s _ _ _) (by rfl) ?_
      refine p_iload_n (pc := 72) C dX5_readShip_72 rfl ?_
      refine p_iald (pc := 73) C dX5_readShip_73 ⟨by omega, by omega⟩ (by (repeat refine mg_n (by omega) ?_); first | assumption | exact mup_s _ _ _) (by omega) ?_
      try refine p_top (fup_s _ _ _) ?_
      refine p_bipush (pc := 74) C dX5_readShip_74 (by decide) ?_
      refine p_icmp_ne (pc := 76) (tgt := 81) C dX5_readShip_76 (by decide) (fun c_76 => ?_) (fun c_76 => ?_)
      · refine p_aload_n (pc := 81) C dX5_readShip_81 rfl ?_
        refine p_dup (pc := 82) C dX5_readShip_82 rfl ?_
        refine p_get (pc := 83) C fl_X5_77 dX5_readShip_83 ⟨by omega, by omega⟩ (by (repeat refine mg_n (by omega) ?_); first | assumption | exact mup_s _ _ _) (by rfl) ?_
        refine p_iconst (pc := 86) C dX5_readShip_86 (by decide) ?_
        refine p_iadd (pc := 87) C dX5_readShip_87 ⟨by omega, by omega⟩ ?_
        refine p_putL (pc := 88) (fs' := [_, _, _, _, _, _, _, _, _, _, _, _, _, _, _, _, _, _, _, _, _, _, _, _, _, _, _, _, _, _, _]) C fp_X5_77 dX5_readShip_88 ⟨by omega, by omega⟩ (by (repeat refine mg_n (by omega) ?_); first | assumption | exact mup_s _ _ _) (by exact Nat.le_of_ble_eq_true rfl) (by rfl) ?_
        try refine p_mem (mup_mup _ _ _ _) ?_
        refine p_iconst (pc := 91) C dX5_readShip_91 (by decide) ?_
        refine p_istore (pc := 92) (ls' := [(4, _), (3, _), (2, _), (0, _), (1, _)]) C dX5_readShip_92 (by decide) rfl ?_
        first
          | (exfalso; omega)
          | (have c1 : csN G a (e - a) rP 1 8 = csN G a (e - a) rP 2 7 := cs_1t (by rw [← hat]; omega)
             refine p_mem (mup_comm _ _ _ (by omega)) ?_
             exact L 7 1 _ _ _ (by omega) (by omega) c1.symm (fun i i1 => fup_n _ _ _ (by omega)) (by rw [fup_s]; unfold kbc; rw [← hat]; first | rw [if_pos (by omega)] | rw [if_neg (by omega), if_pos (by omega)] | rw [if_neg (by omega), if_neg (by omega), if_pos (by omega)]) (fun i i1 i2 => by omega))
      · refine p_iconst (pc := 79) C dX5_readShip_79 (by decide) ?_
        refine p_zret (pc := 80) C dX5_readShip_80 (by first | exact Or.inl rfl | exact Or.inr rfl | (split <;> simp)) ?_
        first
          | (exfalso; omega)
          | (have c1 : csN G a (e - a) rP 1 8 = 1 := cs_1f (by rw [← hat]; omega)
             exact ⟨sv (by rw [if_neg (by omega)]), at_, rS, _, by rw [mup_id (a := 42) h0], by omega, fun z => by omega, fun i i1 => fup_n _ _ _ (by omega), fun z => by omega⟩)
