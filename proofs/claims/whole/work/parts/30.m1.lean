/-- THE REFERENCE's OBJECT -/
abbrev oM (fl tr np ns day at_ rP rS lp lw lf sL sF nr : Int) : ME := mO 5 [vI fl, vI tr, vR 43, vR 44, vR 45, vI np, vI ns, vI day, vR 46, vR 47, vR 48, vR 49, vR 50, vR 51, vI at_, vI rP, vI rS, vR 52, vR 53, vR 54, vR 55, vI lp, vI lw, vI lf, vR 56, vI sL, vI sF, vI nr, vR 57, vR 58, vR 59]
/-- its tables that days don't change -/
def MB (rg kd nm sg : Int → Int) (np ns : Int) (μ : Int → ME) : Prop :=
  (∃ f, μ 46 = mA 6 f ∧ ∀ p, 0 ≤ p → p < np → f p = rg p) ∧ (∃ f, μ 47 = mA 5 f ∧ ∀ k, 0 ≤ k → k < ns → f k = kd k) ∧ (∃ f, μ 48 = mA 5 f ∧ ∀ k, 0 ≤ k → k < ns → f k = nm k) ∧ (∃ f, μ 49 = mA 5 f ∧ ∀ k, 0 ≤ k → k < ns → f k = sg k)
/-- ports and loads -/
def MR (ns : Int) (S : DS) (pf cf : Int → Int) : Prop := ∀ k, 0 ≤ k → k < ns → pf k = S.1 k ∧ ∀ g, 0 ≤ g → g < 4 → cf (4 * k + g) = S.2.1 k g
theorem gtg_c {f g : Int → Int} {nm : Int} (h : ∀ j, 0 ≤ j → j < 4 → f j = g j) (hn : 0 ≤ nm ∧ nm < 4) : gtg f nm = gtg g nm := by
  unfold gtg
  rw [h 0 (by omega) (by omega), h 1 (by omega) (by omega), h 2 (by omega) (by omega), h 3 (by omega) (by omega), h nm hn.1 hn.2]
theorem pcs_c {f g : Int → Int} (h : ∀ j, 0 ≤ j → j < 4 → f j = g j) : pcs f = pcs g := by
  unfold pcs
  rw [h 0 (by omega) (by omega), h 1 (by omega) (by omega), h 2 (by omega) (by omega), h 3 (by omega) (by omega)]

set_option maxHeartbeats 4000000 in
set_option maxRecDepth 100000 in
theorem k_X5_within {K : KX} {d : Nat} {μ : Int → ME} {v a b : Int} : Ct K (d) yX5_within cX5_within 3 (some .boolean) [vI v, vI a, vI b] μ (pF (vI (if a ≤ v ∧ v ≤ b then 1 else 0)) μ) := by
  refine Ct.of (by decide) (Nat.le_of_ble_eq_true rfl) (fun X C => ?_)
  refine p_iload_n (pc := 0) C dX5_within_0 rfl ?_
  refine p_iload_n (pc := 1) C dX5_within_1 rfl ?_
  refine p_icmp_lt (pc := 2) (tgt := 14) C dX5_within_2 (by decide) (fun c_2 => ?_) (fun c_2 => ?_)
  · refine p_iconst (pc := 14) C dX5_within_14 (by decide) ?_
    refine p_zret (pc := 15) C dX5_within_15 (by first | exact Or.inl rfl | exact Or.inr rfl | (split <;> simp)) ?_
    exact ⟨by first | rfl | (rw [if_pos (by omega)]) | (rw [if_neg (by omega)]) | (congr 2; omega), rfl⟩
  · refine p_iload_n (pc := 5) C dX5_within_5 rfl ?_
    refine p_iload_n (pc := 6) C dX5_within_6 rfl ?_
    refine p_icmp_gt (pc := 7) (tgt := 14) C dX5_within_7 (by decide) (fun c_7 => ?_) (fun c_7 => ?_)
    · refine p_iconst (pc := 14) C dX5_within_14 (by decide) ?_
      refine p_zret (pc := 15) C dX5_within_15 (by first | exact Or.inl rfl | exact Or.inr rfl | (split <;> simp)) ?_
      exact ⟨by first | rfl | (rw [if_pos (by omega)]) | (rw [if_neg (by omega)]) | (congr 2; omega), rfl⟩
    · refine p_iconst (pc := 10) C dX5_within_10 (by decide) ?_
      refine p_goto (pc := 11) (tgt := 15) C dX5_within_11 (by decide) ?_
      refine p_zret (pc := 15) C dX5_within_15 (by first | exact Or.inl rfl | exact Or.inr rfl | (split <;> simp)) ?_
      exact ⟨by first | rfl | (rw [if_pos (by omega)]) | (rw [if_neg (by omega)]) | (congr 2; omega), rfl⟩

set_option maxHeartbeats 4000000 in
set_option maxRecDepth 100000 in
theorem k_X5_isSheet {K : KX} {d : Nat} {μ : Int → ME} {v : Int} : Ct K (d + 1) yX5_isSheet cX5_isSheet 1 (some .boolean) [vI v] μ (pF (vI (if 0 ≤ v ∧ v < 4 then 1 else 0)) μ) := by
  refine Ct.of (by decide) (Nat.le_of_ble_eq_true rfl) (fun X C => ?_)
  refine p_iload_n (pc := 0) C dX5_isSheet_0 rfl ?_
  refine p_iconst (pc := 1) C dX5_isSheet_1 (by decide) ?_
  refine p_iconst (pc := 2) C dX5_isSheet_2 (by decide) ?_
  refine p_callSF (pc := 3) C ln_X5_67 dX5_isSheet_3 (k_X5_within) rfl rfl (Nat.le_of_ble_eq_true rfl) ?_
  refine p_zret (pc := 6) C dX5_isSheet_6 (by first | exact Or.inl rfl | exact Or.inr rfl | (split <;> simp)) ?_
  exact ⟨sv (by first | rfl | (split <;> split <;> omega)), rfl⟩

set_option maxHeartbeats 4000000 in
set_option maxRecDepth 100000 in
theorem k_X5_isSort {K : KX} {d : Nat} {μ : Int → ME} {v : Int} : Ct K (d + 1) yX5_isSort cX5_isSort 1 (some .boolean) [vI v] μ (pF (vI (if 0 ≤ v ∧ v < 3 then 1 else 0)) μ) := by
  refine Ct.of (by decide) (Nat.le_of_ble_eq_true rfl) (fun X C => ?_)
  refine p_iload_n (pc := 0) C dX5_isSort_0 rfl ?_
  refine p_iconst (pc := 1) C dX5_isSort_1 (by decide) ?_
  refine p_iconst (pc := 2) C dX5_isSort_2 (by decide) ?_
  refine p_callSF (pc := 3) C ln_X5_67 dX5_isSort_3 (k_X5_within) rfl rfl (Nat.le_of_ble_eq_true rfl) ?_
  refine p_zret (pc := 6) C dX5_isSort_6 (by first | exact Or.inl rfl | exact Or.inr rfl | (split <;> simp)) ?_
  exact ⟨sv (by first | rfl | (split <;> split <;> omega)), rfl⟩

set_option maxHeartbeats 4000000 in
set_option maxRecDepth 100000 in
theorem k_X5_isGood {K : KX} {d : Nat} {μ : Int → ME} {v : Int} : Ct K (d + 1) yX5_isGood cX5_isGood 1 (some .boolean) [vI v] μ (pF (vI (if 0 ≤ v ∧ v < 4 then 1 else 0)) μ) := by
  refine Ct.of (by decide) (Nat.le_of_ble_eq_true rfl) (fun X C => ?_)
  refine p_iload_n (pc := 0) C dX5_isGood_0 rfl ?_
  refine p_iconst (pc := 1) C dX5_isGood_1 (by decide) ?_
  refine p_iconst (pc := 2) C dX5_isGood_2 (by decide) ?_
  refine p_callSF (pc := 3) C ln_X5_67 dX5_isGood_3 (k_X5_within) rfl rfl (Nat.le_of_ble_eq_true rfl) ?_
  refine p_zret (pc := 6) C dX5_isGood_6 (by first | exact Or.inl rfl | exact Or.inr rfl | (split <;> simp)) ?_
  exact ⟨sv (by first | rfl | (split <;> split <;> omega)), rfl⟩

set_option maxHeartbeats 4000000 in
set_option maxRecDepth 100000 in
theorem k_X5_isDigit {K : KX} {d : Nat} {μ : Int → ME} {v : Int} : Ct K (d + 1) yX5_isDigit cX5_isDigit 1 (some .boolean) [vI v] μ (pF (vI (if 0 ≤ v ∧ v ≤ 9 then 1 else 0)) μ) := by
  refine Ct.of (by decide) (Nat.le_of_ble_eq_true rfl) (fun X C => ?_)
  refine p_iload_n (pc := 0) C dX5_isDigit_0 rfl ?_
  refine p_iconst (pc := 1) C dX5_isDigit_1 (by decide) ?_
  refine p_bipush (pc := 2) C dX5_isDigit_2 (by decide) ?_
  refine p_callSF (pc := 4) C ln_X5_67 dX5_isDigit_4 (k_X5_within) rfl rfl (Nat.le_of_ble_eq_true rfl) ?_
  refine p_zret (pc := 7) C dX5_isDigit_7 (by first | exact Or.inl rfl | exact Or.inr rfl | (split <;> simp)) ?_
  exact ⟨sv (by first | rfl | (split <;> split <;> omega)), rfl⟩

set_option maxHeartbeats 4000000 in
set_option maxRecDepth 100000 in
theorem k_X5_isShip {K : KX} {d : Nat} {μ : Int → ME} {k : Int} {fl tr np ns day at_ rP rS lp lw lf sL sF nr : Int} (h0 : μ 42 = oM fl tr np ns day at_ rP rS lp lw lf sL sF nr) : Ct K (d) yX5_isShip cX5_isShip 2 (some .boolean) [vR 42, vI k] μ (pF (vI (if 0 ≤ k ∧ k < ns then 1 else 0)) μ) := by
  refine Ct.of (by decide) (Nat.le_of_ble_eq_true rfl) (fun X C => ?_)
  refine p_iload_n (pc := 0) C dX5_isShip_0 rfl ?_
  refine p_if_lt (pc := 1) (tgt := 16) C dX5_isShip_1 (by decide) (fun c_1 => ?_) (fun c_1 => ?_)
  · refine p_iconst (pc := 16) C dX5_isShip_16 (by decide) ?_
    refine p_zret (pc := 17) C dX5_isShip_17 (by first | exact Or.inl rfl | exact Or.inr rfl | (split <;> simp)) ?_
    exact ⟨by first | rfl | (rw [if_pos (by omega)]) | (rw [if_neg (by omega)]) | (congr 2; omega), rfl⟩
  · refine p_iload_n (pc := 4) C dX5_isShip_4 rfl ?_
    refine p_aload_n (pc := 5) C dX5_isShip_5 rfl ?_
    refine p_get (pc := 6) C fl_X5_71 dX5_isShip_6 ⟨by omega, by omega⟩ (by assumption) (by rfl) ?_
    refine p_icmp_ge (pc := 9) (tgt := 16) C dX5_isShip_9 (by decide) (fun c_9 => ?_) (fun c_9 => ?_)
    · refine p_iconst (pc := 16) C dX5_isShip_16 (by decide) ?_
      refine p_zret (pc := 17) C dX5_isShip_17 (by first | exact Or.inl rfl | exact Or.inr rfl | (split <;> simp)) ?_
      exact ⟨by first | rfl | (rw [if_pos (by omega)]) | (rw [if_neg (by omega)]) | (congr 2; omega), rfl⟩
    · refine p_iconst (pc := 12) C dX5_isShip_12 (by decide) ?_
      refine p_goto (pc := 13) (tgt := 17) C dX5_isShip_13 (by decide) ?_
      refine p_zret (pc := 17) C dX5_isShip_17 (by first | exact Or.inl rfl | exact Or.inr rfl | (split <;> simp)) ?_
      exact ⟨by first | rfl | (rw [if_pos (by omega)]) | (rw [if_neg (by omega)]) | (congr 2; omega), rfl⟩

set_option maxHeartbeats 4000000 in
set_option maxRecDepth 100000 in
theorem k_X5_isPort {K : KX} {d : Nat} {μ : Int → ME} {k : Int} {fl tr np ns day at_ rP rS lp lw lf sL sF nr : Int} (h0 : μ 42 = oM fl tr np ns day at_ rP rS lp lw lf sL sF nr) : Ct K (d) yX5_isPort cX5_isPort 2 (some .boolean) [vR 42, vI k] μ (pF (vI (if 0 ≤ k ∧ k < np then 1 else 0)) μ) := by
  refine Ct.of (by decide) (Nat.le_of_ble_eq_true rfl) (fun X C => ?_)
  refine p_iload_n (pc := 0) C dX5_isPort_0 rfl ?_
  refine p_if_lt (pc := 1) (tgt := 16) C dX5_isPort_1 (by decide) (fun c_1 => ?_) (fun c_1 => ?_)
  · refine p_iconst (pc := 16) C dX5_isPort_16 (by decide) ?_
    refine p_zret (pc := 17) C dX5_isPort_17 (by first | exact Or.inl rfl | exact Or.inr rfl | (split <;> simp)) ?_
    exact ⟨by first | rfl | (rw [if_pos (by omega)]) | (rw [if_neg (by omega)]) | (congr 2; omega), rfl⟩
  · refine p_iload_n (pc := 4) C dX5_isPort_4 rfl ?_
    refine p_aload_n (pc := 5) C dX5_isPort_5 rfl ?_
    refine p_get (pc := 6) C fl_X5_74 dX5_isPort_6 ⟨by omega, by omega⟩ (by assumption) (by rfl) ?_
    refine p_icmp_ge (pc := 9) (tgt := 16) C dX5_isPort_9 (by decide) (fun c_9 => ?_) (fun c_9 => ?_)
    · refine p_iconst (pc := 16) C dX5_isPort_16 (by decide) ?_
      refine p_zret (pc := 17) C dX5_isPort_17 (by first | exact Or.inl rfl | exact Or.inr rfl | (split <;> simp)) ?_
      exact ⟨by first | rfl | (rw [if_pos (by omega)]) | (rw [if_neg (by omega)]) | (congr 2; omega), rfl⟩
    · refine p_iconst (pc := 12) C dX5_isPort_12 (by decide) ?_
      refine p_goto (pc := 13) (tgt := 17) C dX5_isPort_13 (by decide) ?_
      refine p_zret (pc := 17) C dX5_isPort_17 (by first | exact Or.inl rfl | exact Or.inr rfl | (split <;> simp)) ?_
      exact ⟨by first | rfl | (rw [if_pos (by omega)]) | (rw [if_neg (by omega)]) | (congr 2; omega), rfl⟩

set_option maxHeartbeats 4000000 in
set_option maxRecDepth 100000 in
theorem k_X5_fails {K : KX} {d : Nat} {μ : Int → ME} {v : Int} (hv : 0 ≤ v ∧ v ≤ 100) {fl tr np ns day at_ rP rS lp lw lf sL sF nr : Int} (h0 : μ 42 = oM fl tr np ns day at_ rP rS lp lw lf sL sF nr) : Ct K (d) yX5_fails cX5_fails 2 (some .int) [vR 42, vI v] μ (pF (vI (-10 - v)) (mup μ 42 (oM (v) tr np ns day at_ rP rS lp lw lf sL sF nr))) := by
  refine Ct.of (by decide) (Nat.le_of_ble_eq_true rfl) (fun X C => ?_)
  refine p_aload_n (pc := 0) C dX5_fails_0 rfl ?_
  refine p_iload_n (pc := 1) C dX5_fails_1 rfl ?_
  refine p_putL (pc := 2) (fs' := [_, _, _, _, _, _, _, _, _, _, _, _, _, _, _, _, _, _, _, _, _, _, _, _, _, _, _, _, _, _, _]) C fp_X5_61 dX5_fails_2 ⟨by omega, by omega⟩ (by assumption) (by exact Nat.le_of_ble_eq_true rfl) (by rfl) ?_
  try refine p_mem (mup_mup _ _ _ _) ?_
  refine p_bipush (pc := 5) C dX5_fails_5 (by decide) ?_
  refine p_iload_n (pc := 7) C dX5_fails_7 rfl ?_
  refine p_isub (pc := 8) C dX5_fails_8 ⟨by omega, by omega⟩ ?_
  refine p_iret (pc := 9) C dX5_fails_9 ?_
  exact ⟨by first | rfl | (rw [if_pos (by omega)]) | (rw [if_neg (by omega)]) | (congr 2; omega), rfl⟩

set_option maxHeartbeats 4000000 in
set_option maxRecDepth 100000 in
theorem k_X5_lost {K : KX} {d : Nat} {μ : Int → ME} {v : Int} {fl tr np ns day at_ rP rS lp lw lf sL sF nr : Int} (h0 : μ 42 = oM fl tr np ns day at_ rP rS lp lw lf sL sF nr) : Ct K (d) yX5_lost cX5_lost 2 (some .long) [vR 42, vI v] μ (pF (vL (-9223372036854775808)) (mup μ 42 (oM (v) tr np ns day at_ rP rS lp lw lf sL sF nr))) := by
  refine Ct.of (by decide) (Nat.le_of_ble_eq_true rfl) (fun X C => ?_)
  refine p_aload_n (pc := 0) C dX5_lost_0 rfl ?_
  refine p_iload_n (pc := 1) C dX5_lost_1 rfl ?_
  refine p_putL (pc := 2) (fs' := [_, _, _, _, _, _, _, _, _, _, _, _, _, _, _, _, _, _, _, _, _, _, _, _, _, _, _, _, _, _, _]) C fp_X5_61 dX5_lost_2 ⟨by omega, by omega⟩ (by assumption) (by exact Nat.le_of_ble_eq_true rfl) (by rfl) ?_
  try refine p_mem (mup_mup _ _ _ _) ?_
  refine p_ldc2 (pc := 5) C kc_X5_65 dX5_lost_5 ?_
  refine p_lret (pc := 8) C dX5_lost_8 ?_
  exact ⟨svL (by decide +kernel), rfl⟩

set_option maxHeartbeats 4000000 in
set_option maxRecDepth 100000 in
theorem k_X5_begins {K : KX} {d : Nat} {μ : Int → ME} {v : Int} {fl tr np ns day at_ rP rS lp lw lf sL sF nr : Int} (h0 : μ 42 = oM fl tr np ns day at_ rP rS lp lw lf sL sF nr) : Ct K (d) yX5_begins cX5_begins 2 none [vR 42, vI v] μ (pU (mup μ 42 (oM fl (iwr (iwr (31 * tr) + v)) np ns day at_ rP rS lp lw lf sL sF nr))) := by
  refine Ct.of (by decide) (Nat.le_of_ble_eq_true rfl) (fun X C => ?_)
  refine p_aload_n (pc := 0) C dX5_begins_0 rfl ?_
  refine p_bipush (pc := 1) C dX5_begins_1 (by decide) ?_
  refine p_aload_n (pc := 3) C dX5_begins_3 rfl ?_
  refine p_get (pc := 4) C fl_X5_233 dX5_begins_4 ⟨by omega, by omega⟩ (by assumption) (by rfl) ?_
  refine p_imulw (pc := 7) C dX5_begins_7 ?_
  refine p_iload_n (pc := 8) C dX5_begins_8 rfl ?_
  refine p_iaddw (pc := 9) C dX5_begins_9 ?_
  refine p_putL (pc := 10) (fs' := [_, _, _, _, _, _, _, _, _, _, _, _, _, _, _, _, _, _, _, _, _, _, _, _, _, _, _, _, _, _, _]) C fp_X5_233 dX5_begins_10 ⟨by omega, by omega⟩ (by assumption) (by exact Nat.le_of_ble_eq_true rfl) (by rfl) ?_
  try refine p_mem (mup_mup _ _ _ _) ?_
  refine p_vret (pc := 13) C dX5_begins_13 ?_
  exact ⟨rfl, rfl⟩

/-- the first fault of taking cells of a sheet of sort so and length le -/
def agT (so le l i n : Int) : Int := if so ≠ -9 ∧ so ≠ l then 2 else if so = -9 then 1 else if n < 0 then 4 else if (0 ≤ i ∧ i ≤ le) ∧ n ≤ le - i then 0 else 3

set_option maxHeartbeats 4000000 in
set_option maxRecDepth 100000 in
theorem k_X5_against {K : KX} {d : Nat} {μ : Int → ME} {s l i n : Int} {so le : Int → Int} {fl tr np ns day at_ rP rS lp lw lf sL sF nr : Int} (h0 : μ 42 = oM fl tr np ns day at_ rP rS lp lw lf sL sF nr) (h1 : μ 43 = mA 4 so) (h2 : μ 44 = mA 4 le) (hs : 0 ≤ s ∧ s < 4) (hle : so s ≠ -9 → 0 ≤ le s ∧ le s ≤ 60) : Ct K (d) yX5_against cX5_against 5 (some .int) [vR 42, vI s, vI l, vI i, vI n] μ (pF (vI (agT (so s) (le s) l i n)) μ) := by
  refine Ct.of (by decide) (Nat.le_of_ble_eq_true rfl) (fun X C => ?_)
  refine p_aload_n (pc := 0) C dX5_against_0 rfl ?_
  refine p_get (pc := 1) C fl_X5_9 dX5_against_1 ⟨by omega, by omega⟩ (by assumption) (by rfl) ?_
  refine p_iload_n (pc := 4) C dX5_against_4 rfl ?_
  refine p_iald (pc := 5) C dX5_against_5 ⟨by omega, by omega⟩ (by assumption) (by omega) ?_
  refine p_bipush (pc := 6) C dX5_against_6 (by decide) ?_
  refine p_icmp_eq (pc := 8) (tgt := 23) C dX5_against_8 (by decide) (fun c_8 => ?_) (fun c_8 => ?_)
  · refine p_aload_n (pc := 23) C dX5_against_23 rfl ?_
    refine p_get (pc := 24) C fl_X5_9 dX5_against_24 ⟨by omega, by omega⟩ (by assumption) (by rfl) ?_
    refine p_iload_n (pc := 27) C dX5_against_27 rfl ?_
    refine p_iald (pc := 28) C dX5_against_28 ⟨by omega, by omega⟩ (by assumption) (by omega) ?_
    refine p_bipush (pc := 29) C dX5_against_29 (by decide) ?_
    refine p_icmp_ne (pc := 31) (tgt := 36) C dX5_against_31 (by decide) (fun c_31 => ?_) (fun c_31 => ?_)
    · refine p_iload (pc := 36) C dX5_against_36 rfl ?_
      refine p_if_ge (pc := 38) (tgt := 43) C dX5_against_38 (by decide) (fun c_38 => ?_) (fun c_38 => ?_)
      · refine p_iload_n (pc := 43) C dX5_against_43 rfl ?_
        refine p_if_lt (pc := 44) (tgt := 70) C dX5_against_44 (by decide) (fun c_44 => ?_) (fun c_44 => ?_)
        · refine p_iconst (pc := 70) C dX5_against_70 (by decide) ?_
          refine p_goto (pc := 71) (tgt := 75) C dX5_against_71 (by decide) ?_
          refine p_iret (pc := 75) C dX5_against_75 ?_
          exact ⟨sv (by unfold agT; first | (exfalso; omega) | rw [if_pos (by omega)] | rw [if_neg (by omega), if_pos (by omega)] | rw [if_neg (by omega), if_neg (by omega), if_pos (by omega)] | rw [if_neg (by omega), if_neg (by omega), if_neg (by omega), if_pos (by omega)] | rw [if_neg (by omega), if_neg (by omega), if_neg (by omega), if_neg (by omega)]), rfl⟩
        · refine p_iload_n (pc := 47) C dX5_against_47 rfl ?_
          refine p_aload_n (pc := 48) C dX5_against_48 rfl ?_
          refine p_get (pc := 49) C fl_X5_13 dX5_against_49 ⟨by omega, by omega⟩ (by assumption) (by rfl) ?_
          refine p_iload_n (pc := 52) C dX5_against_52 rfl ?_
          refine p_iald (pc := 53) C dX5_against_53 ⟨by omega, by omega⟩ (by assumption) (by omega) ?_
          refine p_icmp_gt (pc := 54) (tgt := 70) C dX5_against_54 (by decide) (fun c_54 => ?_) (fun c_54 => ?_)
          · refine p_iconst (pc := 70) C dX5_against_70 (by decide) ?_
            refine p_goto (pc := 71) (tgt := 75) C dX5_against_71 (by decide) ?_
            refine p_iret (pc := 75) C dX5_against_75 ?_
            exact ⟨sv (by unfold agT; first | (exfalso; omega) | rw [if_pos (by omega)] | rw [if_neg (by omega), if_pos (by omega)] | rw [if_neg (by omega), if_neg (by omega), if_pos (by omega)] | rw [if_neg (by omega), if_neg (by omega), if_neg (by omega), if_pos (by omega)] | rw [if_neg (by omega), if_neg (by omega), if_neg (by omega), if_neg (by omega)]), rfl⟩
          · refine p_iload (pc := 57) C dX5_against_57 rfl ?_
            refine p_aload_n (pc := 59) C dX5_against_59 rfl ?_
            refine p_get (pc := 60) C fl_X5_13 dX5_against_60 ⟨by omega, by omega⟩ (by assumption) (by rfl) ?_
            refine p_iload_n (pc := 63) C dX5_against_63 rfl ?_
            refine p_iald (pc := 64) C dX5_against_64 ⟨by omega, by omega⟩ (by assumption) (by omega) ?_
            refine p_iload_n (pc := 65) C dX5_against_65 rfl ?_
            refine p_isub (pc := 66) C dX5_against_66 ⟨by omega, by omega⟩ ?_
            refine p_icmp_le (pc := 67) (tgt := 74) C dX5_against_67 (by decide) (fun c_67 => ?_) (fun c_67 => ?_)
            · refine p_iconst (pc := 74) C dX5_against_74 (by decide) ?_
              refine p_iret (pc := 75) C dX5_against_75 ?_
              exact ⟨sv (by unfold agT; first | (exfalso; omega) | rw [if_pos (by omega)] | rw [if_neg (by omega), if_pos (by omega)] | rw [if_neg (by omega), if_neg (by omega), if_pos (by omega)] | rw [if_neg (by omega), if_neg (by omega), if_neg (by omega), if_pos (by omega)] | rw [if_neg (by omega), if_neg (by omega), if_neg (by omega), if_neg (by omega)]), rfl⟩
            · refine p_iconst (pc := 70) C dX5_against_70 (by decide) ?_
              refine p_goto (pc := 71) (tgt := 75) C dX5_against_71 (by decide) ?_
              refine p_iret (pc := 75) C dX5_against_75 ?_
              exact ⟨sv (by unfold agT; first | (exfalso; omega) | rw [if_pos (by omega)] | rw [if_neg (by omega), if_pos (by omega)] | rw [if_neg (by omega), if_neg (by omega), if_pos (by omega)] | rw [if_neg (by omega), if_neg (by omega), if_neg (by omega), if_pos (by omega)] | rw [if_neg (by omega), if_neg (by omega), if_neg (by omega), if_neg (by omega)]), rfl⟩
      · refine p_iconst (pc := 41) C dX5_against_41 (by decide) ?_
        refine p_iret (pc := 42) C dX5_against_42 ?_
        exact ⟨sv (by unfold agT; first | (exfalso; omega) | rw [if_pos (by omega)] | rw [if_neg (by omega), if_pos (by omega)] | rw [if_neg (by omega), if_neg (by omega), if_pos (by omega)] | rw [if_neg (by omega), if_neg (by omega), if_neg (by omega), if_pos (by omega)] | rw [if_neg (by omega), if_neg (by omega), if_neg (by omega), if_neg (by omega)]), rfl⟩
    · refine p_iconst (pc := 34) C dX5_against_34 (by decide) ?_
      refine p_iret (pc := 35) C dX5_against_35 ?_
      exact ⟨sv (by unfold agT; first | (exfalso; omega) | rw [if_pos (by omega)] | rw [if_neg (by omega), if_pos (by omega)] | rw [if_neg (by omega), if_neg (by omega), if_pos (by omega)] | rw [if_neg (by omega), if_neg (by omega), if_neg (by omega), if_pos (by omega)] | rw [if_neg (by omega), if_neg (by omega), if_neg (by omega), if_neg (by omega)]), rfl⟩
  · refine p_aload_n (pc := 11) C dX5_against_11 rfl ?_
    refine p_get (pc := 12) C fl_X5_9 dX5_against_12 ⟨by omega, by omega⟩ (by assumption) (by rfl) ?_
    refine p_iload_n (pc := 15) C dX5_against_15 rfl ?_
    refine p_iald (pc := 16) C dX5_against_16 ⟨by omega, by omega⟩ (by assumption) (by omega) ?_
    refine p_iload_n (pc := 17) C dX5_against_17 rfl ?_
    refine p_icmp_eq (pc := 18) (tgt := 23) C dX5_against_18 (by decide) (fun c_18 => ?_) (fun c_18 => ?_)
    · refine p_aload_n (pc := 23) C dX5_against_23 rfl ?_
      refine p_get (pc := 24) C fl_X5_9 dX5_against_24 ⟨by omega, by omega⟩ (by assumption) (by rfl) ?_
      refine p_iload_n (pc := 27) C dX5_against_27 rfl ?_
      refine p_iald (pc := 28) C dX5_against_28 ⟨by omega, by omega⟩ (by assumption) (by omega) ?_
      refine p_bipush (pc := 29) C dX5_against_29 (by decide) ?_
      refine p_icmp_ne (pc := 31) (tgt := 36) C dX5_against_31 (by decide) (fun c_31 => ?_) (fun c_31 => ?_)
      · refine p_iload (pc := 36) C dX5_against_36 rfl ?_
        refine p_if_ge (pc := 38) (tgt := 43) C dX5_against_38 (by decide) (fun c_38 => ?_) (fun c_38 => ?_)
        · refine p_iload_n (pc := 43) C dX5_against_43 rfl ?_
          refine p_if_lt (pc := 44) (tgt := 70) C dX5_against_44 (by decide) (fun c_44 => ?_) (fun c_44 => ?_)
          · refine p_iconst (pc := 70) C dX5_against_70 (by decide) ?_
            refine p_goto (pc := 71) (tgt := 75) C dX5_against_71 (by decide) ?_
            refine p_iret (pc := 75) C dX5_against_75 ?_
            exact ⟨sv (by unfold agT; first | (exfalso; omega) | rw [if_pos (by omega)] | rw [if_neg (by omega), if_pos (by omega)] | rw [if_neg (by omega), if_neg (by omega), if_pos (by omega)] | rw [if_neg (by omega), if_neg (by omega), if_neg (by omega), if_pos (by omega)] | rw [if_neg (by omega), if_neg (by omega), if_neg (by omega), if_neg (by omega)]), rfl⟩
          · refine p_iload_n (pc := 47) C dX5_against_47 rfl ?_
            refine p_aload_n (pc := 48) C dX5_against_48 rfl ?_
            refine p_get (pc := 49) C fl_X5_13 dX5_against_49 ⟨by omega, by omega⟩ (by assumption) (by rfl) ?_
            refine p_iload_n (pc := 52) C dX5_against_52 rfl ?_
            refine p_iald (pc := 53) C dX5_against_53 ⟨by omega, by omega⟩ (by assumption) (by omega) ?_
            refine p_icmp_gt (pc := 54) (tgt := 70) C dX5_against_54 (by decide) (fun c_54 => ?_) (fun c_54 => ?_)
            · refine p_iconst (pc := 70) C dX5_against_70 (by decide) ?_
              refine p_goto (pc := 71) (tgt := 75) C dX5_against_71 (by decide) ?_
              refine p_iret (pc := 75) C dX5_against_75 ?_
              exact ⟨sv (by unfold agT; first | (exfalso; omega) | rw [if_pos (by omega)] | rw [if_neg (by omega), if_pos (by omega)] | rw [if_neg (by omega), if_neg (by omega), if_pos (by omega)] | rw [if_neg (by omega), if_neg (by omega), if_neg (by omega), if_pos (by omega)] | rw [if_neg (by omega), if_neg (by omega), if_neg (by omega), if_neg (by omega)]), rfl⟩
            · refine p_iload (pc := 57) C dX5_against_57 rfl ?_
              refine p_aload_n (pc := 59) C dX5_against_59 rfl ?_
              refine p_get (pc := 60) C fl_X5_13 dX5_against_60 ⟨by omega, by omega⟩ (by assumption) (by rfl) ?_
              refine p_iload_n (pc := 63) C dX5_against_63 rfl ?_
              refine p_iald (pc := 64) C dX5_against_64 ⟨by omega, by omega⟩ (by assumption) (by omega) ?_
              refine p_iload_n (pc := 65) C dX5_against_65 rfl ?_
              refine p_isub (pc := 66) C dX5_against_66 ⟨by omega, by omega⟩ ?_
              refine p_icmp_le (pc := 67) (tgt := 74) C dX5_against_67 (by decide) (fun c_67 => ?_) (fun c_67 => ?_)
              · refine p_iconst (pc := 74) C dX5_against_74 (by decide) ?_
                refine p_iret (pc := 75) C dX5_against_75 ?_
                exact ⟨sv (by unfold agT; first | (exfalso; omega) | rw [if_pos (by omega)] | rw [if_neg (by omega), if_pos (by omega)] | rw [if_neg (by omega), if_neg (by omega), if_pos (by omega)] | rw [if_neg (by omega), if_neg (by omega), if_neg (by omega), if_pos (by omega)] | rw [if_neg (by omega), if_neg (by omega), if_neg (by omega), if_neg (by omega)]), rfl⟩
              · refine p_iconst (pc := 70) C dX5_against_70 (by decide) ?_
                refine p_goto (pc := 71) (tgt := 75) C dX5_against_71 (by decide) ?_
                refine p_iret (pc := 75) C dX5_against_75 ?_
                exact ⟨sv (by unfold agT; first | (exfalso; omega) | rw [if_pos (by omega)] | rw [if_neg (by omega), if_pos (by omega)] | rw [if_neg (by omega), if_neg (by omega), if_pos (by omega)] | rw [if_neg (by omega), if_neg (by omega), if_neg (by omega), if_pos (by omega)] | rw [if_neg (by omega), if_neg (by omega), if_neg (by omega), if_neg (by omega)]), rfl⟩
        · refine p_iconst (pc := 41) C dX5_against_41 (by decide) ?_
          refine p_iret (pc := 42) C dX5_against_42 ?_
          exact ⟨sv (by unfold agT; first | (exfalso; omega) | rw [if_pos (by omega)] | rw [if_neg (by omega), if_pos (by omega)] | rw [if_neg (by omega), if_neg (by omega), if_pos (by omega)] | rw [if_neg (by omega), if_neg (by omega), if_neg (by omega), if_pos (by omega)] | rw [if_neg (by omega), if_neg (by omega), if_neg (by omega), if_neg (by omega)]), rfl⟩
      · refine p_iconst (pc := 34) C dX5_against_34 (by decide) ?_
        refine p_iret (pc := 35) C dX5_against_35 ?_
        exact ⟨sv (by unfold agT; first | (exfalso; omega) | rw [if_pos (by omega)] | rw [if_neg (by omega), if_pos (by omega)] | rw [if_neg (by omega), if_neg (by omega), if_pos (by omega)] | rw [if_neg (by omega), if_neg (by omega), if_neg (by omega), if_pos (by omega)] | rw [if_neg (by omega), if_neg (by omega), if_neg (by omega), if_neg (by omega)]), rfl⟩
    · refine p_iconst (pc := 21) C dX5_against_21 (by decide) ?_
      refine p_iret (pc := 22) C dX5_against_22 ?_
      exact ⟨sv (by unfold agT; first | (exfalso; omega) | rw [if_pos (by omega)] | rw [if_neg (by omega), if_pos (by omega)] | rw [if_neg (by omega), if_neg (by omega), if_pos (by omega)] | rw [if_neg (by omega), if_neg (by omega), if_neg (by omega), if_pos (by omega)] | rw [if_neg (by omega), if_neg (by omega), if_neg (by omega), if_neg (by omega)]), rfl⟩

set_option maxHeartbeats 4000000 in
set_option maxRecDepth 100000 in
theorem k_X5_bearsOf {K : KX} {d : Nat} {μ : Int → ME} {k : Int} {fl tr np ns day at_ rP rS lp lw lf sL sF nr : Int} (h0 : μ 42 = oM fl tr np ns day at_ rP rS lp lw lf sL sF nr) (hnp : np ≤ 6) (hns : 0 ≤ ns ∧ ns ≤ 5) {rg kd nm sg : Int → Int} (hB : MB rg kd nm sg np ns μ) (hk : 0 ≤ k ∧ k < ns) (hN : WN ns kd nm sg) : Ct K (d) yX5_bearsOf cX5_bearsOf 2 (some .int) [vR 42, vI k] μ (pF (vI (brg (kd k) (sg k))) μ) := by
  refine Ct.of (by decide) (Nat.le_of_ble_eq_true rfl) (fun X C => ?_)
  obtain ⟨⟨rgf, B1, C1⟩, ⟨kf, B2, C2⟩, ⟨nf, B3, C3⟩, ⟨sf, B4, C4⟩⟩ := id hB
  obtain ⟨n1, n2, n3⟩ := hN k hk.1 hk.2
  have q1 := C2 k hk.1 hk.2
  have q2 := C4 k hk.1 hk.2
  rw [← q1, ← q2]
  refine p_aload_n (pc := 0) C dX5_bearsOf_0 rfl ?_
  refine p_get (pc := 1) C fl_X5_22 dX5_bearsOf_1 ⟨by omega, by omega⟩ (by assumption) (by rfl) ?_
  refine p_iload_n (pc := 4) C dX5_bearsOf_4 rfl ?_
  refine p_iald (pc := 5) C dX5_bearsOf_5 ⟨by omega, by omega⟩ (by assumption) (by omega) ?_
  refine p_if_ne (pc := 6) (tgt := 18) C dX5_bearsOf_6 (by decide) (fun c_6 => ?_) (fun c_6 => ?_)
  · refine p_aload_n (pc := 18) C dX5_bearsOf_18 rfl ?_
    refine p_get (pc := 19) C fl_X5_22 dX5_bearsOf_19 ⟨by omega, by omega⟩ (by assumption) (by rfl) ?_
    refine p_iload_n (pc := 22) C dX5_bearsOf_22 rfl ?_
    refine p_iald (pc := 23) C dX5_bearsOf_23 ⟨by omega, by omega⟩ (by assumption) (by omega) ?_
    refine p_iconst (pc := 24) C dX5_bearsOf_24 (by decide) ?_
    refine p_icmp_ne (pc := 25) (tgt := 39) C dX5_bearsOf_25 (by decide) (fun c_25 => ?_) (fun c_25 => ?_)
    · refine p_iconst (pc := 39) C dX5_bearsOf_39 (by decide) ?_
      refine p_aload_n (pc := 40) C dX5_bearsOf_40 rfl ?_
      refine p_get (pc := 41) C fl_X5_28 dX5_bearsOf_41 ⟨by omega, by omega⟩ (by assumption) (by rfl) ?_
      refine p_iload_n (pc := 44) C dX5_bearsOf_44 rfl ?_
      refine p_iald (pc := 45) C dX5_bearsOf_45 ⟨by omega, by omega⟩ (by assumption) (by omega) ?_
      refine p_imul (pc := 46) C dX5_bearsOf_46 ⟨by omega, by omega⟩ ?_
      refine p_iret (pc := 47) C dX5_bearsOf_47 ?_
      exact ⟨sv (by unfold brg; first | rw [if_pos (by omega)] | rw [if_neg (by omega), if_pos (by omega)] | rw [if_neg (by omega), if_neg (by omega)]), rfl⟩
    · refine p_aload_n (pc := 28) C dX5_bearsOf_28 rfl ?_
      refine p_get (pc := 29) C fl_X5_28 dX5_bearsOf_29 ⟨by omega, by omega⟩ (by assumption) (by rfl) ?_
      refine p_iload_n (pc := 32) C dX5_bearsOf_32 rfl ?_
      refine p_iald (pc := 33) C dX5_bearsOf_33 ⟨by omega, by omega⟩ (by assumption) (by omega) ?_
      refine p_iconst (pc := 34) C dX5_bearsOf_34 (by decide) ?_
      refine p_iadd (pc := 35) C dX5_bearsOf_35 ⟨by omega, by omega⟩ ?_
      refine p_goto (pc := 36) (tgt := 47) C dX5_bearsOf_36 (by decide) ?_
      refine p_iret (pc := 47) C dX5_bearsOf_47 ?_
      exact ⟨sv (by unfold brg; first | rw [if_pos (by omega)] | rw [if_neg (by omega), if_pos (by omega)] | rw [if_neg (by omega), if_neg (by omega)]), rfl⟩
  · refine p_aload_n (pc := 9) C dX5_bearsOf_9 rfl ?_
    refine p_get (pc := 10) C fl_X5_28 dX5_bearsOf_10 ⟨by omega, by omega⟩ (by assumption) (by rfl) ?_
    refine p_iload_n (pc := 13) C dX5_bearsOf_13 rfl ?_
    refine p_iald (pc := 14) C dX5_bearsOf_14 ⟨by omega, by omega⟩ (by assumption) (by omega) ?_
    refine p_goto (pc := 15) (tgt := 47) C dX5_bearsOf_15 (by decide) ?_
    refine p_iret (pc := 47) C dX5_bearsOf_47 ?_
    exact ⟨sv (by unfold brg; first | rw [if_pos (by omega)] | rw [if_neg (by omega), if_pos (by omega)] | rw [if_neg (by omega), if_neg (by omega)]), rfl⟩

set_option maxHeartbeats 4000000 in
set_option maxRecDepth 100000 in
theorem k_X5_isMet {K : KX} {d : Nat} {μ : Int → ME} {k : Int} {fl tr np ns day at_ rP rS lp lw lf sL sF nr : Int} (h0 : μ 42 = oM fl tr np ns day at_ rP rS lp lw lf sL sF nr) (hnp : np ≤ 6) (hns : 0 ≤ ns ∧ ns ≤ 5) {rg kd nm sg : Int → Int} (hB : MB rg kd nm sg np ns μ) (hk : 0 ≤ k ∧ k < ns) {cf : Int → Int} (hC : μ 51 = mA 20 cf) (hN : WN ns kd nm sg) : Ct K (d) yX5_isMet cX5_isMet 2 (some .boolean) [vR 42, vI k] μ (pF (vI (if cf (4 * k + nm k) = 0 then 1 else 0)) μ) := by
  refine Ct.of (by decide) (Nat.le_of_ble_eq_true rfl) (fun X C => ?_)
  obtain ⟨⟨rgf, B1, C1⟩, ⟨kf, B2, C2⟩, ⟨nf, B3, C3⟩, ⟨sf, B4, C4⟩⟩ := id hB
  obtain ⟨n1, n2, n3⟩ := hN k hk.1 hk.2
  have q3 := C3 k hk.1 hk.2
  refine p_aload_n (pc := 0) C dX5_isMet_0 rfl ?_
  refine p_get (pc := 1) C fl_X5_34 dX5_isMet_1 ⟨by omega, by omega⟩ (by assumption) (by rfl) ?_
  refine p_iconst (pc := 4) C dX5_isMet_4 (by decide) ?_
  refine p_iload_n (pc := 5) C dX5_isMet_5 rfl ?_
  refine p_imul (pc := 6) C dX5_isMet_6 ⟨by omega, by omega⟩ ?_
  refine p_aload_n (pc := 7) C dX5_isMet_7 rfl ?_
  refine p_get (pc := 8) C fl_X5_25 dX5_isMet_8 ⟨by omega, by omega⟩ (by assumption) (by rfl) ?_
  refine p_iload_n (pc := 11) C dX5_isMet_11 rfl ?_
  refine p_iald (pc := 12) C dX5_isMet_12 ⟨by omega, by omega⟩ (by assumption) (by omega) ?_
  refine p_iadd (pc := 13) C dX5_isMet_13 ⟨by omega, by omega⟩ ?_
  refine p_iald (pc := 14) C dX5_isMet_14 ⟨by omega, by omega⟩ (by assumption) (by omega) ?_
  refine p_if_ne (pc := 15) (tgt := 22) C dX5_isMet_15 (by decide) (fun c_15 => ?_) (fun c_15 => ?_)
  · refine p_iconst (pc := 22) C dX5_isMet_22 (by decide) ?_
    refine p_zret (pc := 23) C dX5_isMet_23 (by first | exact Or.inl rfl | exact Or.inr rfl | (split <;> simp)) ?_
    exact ⟨by rw [← q3]; first | rw [if_pos (by omega)] | rw [if_neg (by omega)], rfl⟩
  · refine p_iconst (pc := 18) C dX5_isMet_18 (by decide) ?_
    refine p_goto (pc := 19) (tgt := 23) C dX5_isMet_19 (by decide) ?_
    refine p_zret (pc := 23) C dX5_isMet_23 (by first | exact Or.inl rfl | exact Or.inr rfl | (split <;> simp)) ?_
    exact ⟨by rw [← q3]; first | rw [if_pos (by omega)] | rw [if_neg (by omega)], rfl⟩

set_option maxHeartbeats 4000000 in
set_option maxRecDepth 100000 in
theorem k_X5_worthOf {K : KX} {d : Nat} {μ : Int → ME} {k : Int} {fl tr np ns day at_ rP rS lp lw lf sL sF nr : Int} (h0 : μ 42 = oM fl tr np ns day at_ rP rS lp lw lf sL sF nr) (hnp : np ≤ 6) (hns : 0 ≤ ns ∧ ns ≤ 5) (hk : 0 ≤ k ∧ k < ns) {cf : Int → Int} (hC : μ 51 = mA 20 cf) (hb : bd4 (fun g => cf (4 * k + g)) 100) : Ct K (d) yX5_worthOf cX5_worthOf 4 (some .int) [vR 42, vI k] μ (pF (vI (wor (fun g => cf (4 * k + g)))) μ) := by
  refine Ct.of (by decide) (Nat.le_of_ble_eq_true rfl) (fun X C => ?_)
  obtain ⟨⟨b0, b1⟩, ⟨b2, b3⟩, ⟨b4, b5⟩, ⟨b6, b7⟩⟩ := id hb
  dsimp only at b0 b1 b2 b3 b4 b5 b6 b7
  refine p_iconst (pc := 0) C dX5_worthOf_0 (by decide) ?_
  refine p_istore_n (pc := 1) (ls' := [(2, _), (0, _), (1, _)]) C dX5_worthOf_1 (by decide) rfl ?_
  refine p_iconst (pc := 2) C dX5_worthOf_2 (by decide) ?_
  refine p_istore_n (pc := 3) (ls' := [(3, _), (2, _), (0, _), (1, _)]) C dX5_worthOf_3 (by decide) rfl ?_
  refine p_iload_n (pc := 4) C dX5_worthOf_4 rfl ?_
  refine p_iconst (pc := 5) C dX5_worthOf_5 (by decide) ?_
  refine p_icmp_ge (pc := 6) (tgt := 32) C dX5_worthOf_6 (by decide) (fun h => absurd h (by decide)) (fun c_6 => ?_)
  refine p_iload_n (pc := 9) C dX5_worthOf_9 rfl ?_
  refine p_iload_n (pc := 10) C dX5_worthOf_10 rfl ?_
  refine p_iconst (pc := 11) C dX5_worthOf_11 (by decide) ?_
  refine p_iaddC (pc := 12) (w := 1) C dX5_worthOf_12 (by decide) (by decide) ?_
  refine p_aload_n (pc := 13) C dX5_worthOf_13 rfl ?_
  refine p_get (pc := 14) C fl_X5_34 dX5_worthOf_14 ⟨by omega, by omega⟩ (by assumption) (by rfl) ?_
  refine p_iconst (pc := 17) C dX5_worthOf_17 (by decide) ?_
  refine p_iload_n (pc := 18) C dX5_worthOf_18 rfl ?_
  refine p_imul (pc := 19) C dX5_worthOf_19 ⟨by omega, by omega⟩ ?_
  refine p_iload_n (pc := 20) C dX5_worthOf_20 rfl ?_
  refine p_iadd (pc := 21) C dX5_worthOf_21 ⟨by omega, by omega⟩ ?_
  refine p_iald (pc := 22) C dX5_worthOf_22 ⟨by omega, by omega⟩ (by assumption) (by omega) ?_
  refine p_imul (pc := 23) C dX5_worthOf_23 ⟨by omega, by omega⟩ ?_
  refine p_iadd (pc := 24) C dX5_worthOf_24 ⟨by omega, by omega⟩ ?_
  refine p_istore_n (pc := 25) (ls' := [(2, _), (3, _), (0, _), (1, _)]) C dX5_worthOf_25 (by decide) rfl ?_
  refine p_iincC (pc := 26) (w := 1) (ls' := [(3, _), (2, _), (0, _), (1, _)]) C dX5_worthOf_26 (by decide) rfl (by decide) (by decide) rfl ?_
  refine p_goto (pc := 29) (tgt := 4) C dX5_worthOf_29 (by decide) ?_
  refine p_iload_n (pc := 4) C dX5_worthOf_4 rfl ?_
  refine p_iconst (pc := 5) C dX5_worthOf_5 (by decide) ?_
  refine p_icmp_ge (pc := 6) (tgt := 32) C dX5_worthOf_6 (by decide) (fun h => absurd h (by decide)) (fun c_6 => ?_)
  refine p_iload_n (pc := 9) C dX5_worthOf_9 rfl ?_
  refine p_iload_n (pc := 10) C dX5_worthOf_10 rfl ?_
  refine p_iconst (pc := 11) C dX5_worthOf_11 (by decide) ?_
  refine p_iaddC (pc := 12) (w := 2) C dX5_worthOf_12 (by decide) (by decide) ?_
  refine p_aload_n (pc := 13) C dX5_worthOf_13 rfl ?_
  refine p_get (pc := 14) C fl_X5_34 dX5_worthOf_14 ⟨by omega, by omega⟩ (by assumption) (by rfl) ?_
  refine p_iconst (pc := 17) C dX5_worthOf_17 (by decide) ?_
  refine p_iload_n (pc := 18) C dX5_worthOf_18 rfl ?_
  refine p_imul (pc := 19) C dX5_worthOf_19 ⟨by omega, by omega⟩ ?_
  refine p_iload_n (pc := 20) C dX5_worthOf_20 rfl ?_
  refine p_iadd (pc := 21) C dX5_worthOf_21 ⟨by omega, by omega⟩ ?_
  refine p_iald (pc := 22) C dX5_worthOf_22 ⟨by omega, by omega⟩ (by assumption) (by omega) ?_
  refine p_imul (pc := 23) C dX5_worthOf_23 ⟨by omega, by omega⟩ ?_
  refine p_iadd (pc := 24) C dX5_worthOf_24 ⟨by omega, by omega⟩ ?_
  refine p_istore_n (pc := 25) (ls' := [(2, _), (3, _), (0, _), (1, _)]) C dX5_worthOf_25 (by decide) rfl ?_
  refine p_iincC (pc := 26) (w := 2) (ls' := [(3, _), (2, _), (0, _), (1, _)]) C dX5_worthOf_26 (by decide) rfl (by decide) (by decide) rfl ?_
  refine p_goto (pc := 29) (tgt := 4) C dX5_worthOf_29 (by decide) ?_
  refine p_iload_n (pc := 4) C dX5_worthOf_4 rfl ?_
  refine p_iconst (pc := 5) C dX5_worthOf_5 (by decide) ?_
  refine p_icmp_ge (pc := 6) (tgt := 32) C dX5_worthOf_6 (by decide) (fun h => absurd h (by decide)) (fun c_6 => ?_)
  refine p_iload_n (pc := 9) C dX5_worthOf_9 rfl ?_
  refine p_iload_n (pc := 10) C dX5_worthOf_10 rfl ?_
  refine p_iconst (pc := 11) C dX5_worthOf_11 (by decide) ?_
  refine p_iaddC (pc := 12) (w := 3) C dX5_worthOf_12 (by decide) (by decide) ?_
  refine p_aload_n (pc := 13) C dX5_worthOf_13 rfl ?_
  refine p_get (pc := 14) C fl_X5_34 dX5_worthOf_14 ⟨by omega, by omega⟩ (by assumption) (by rfl) ?_
  refine p_iconst (pc := 17) C dX5_worthOf_17 (by decide) ?_
  refine p_iload_n (pc := 18) C dX5_worthOf_18 rfl ?_
  refine p_imul (pc := 19) C dX5_worthOf_19 ⟨by omega, by omega⟩ ?_
  refine p_iload_n (pc := 20) C dX5_worthOf_20 rfl ?_
  refine p_iadd (pc := 21) C dX5_worthOf_21 ⟨by omega, by omega⟩ ?_
  refine p_iald (pc := 22) C dX5_worthOf_22 ⟨by omega, by omega⟩ (by assumption) (by omega) ?_
  refine p_imul (pc := 23) C dX5_worthOf_23 ⟨by omega, by omega⟩ ?_
  refine p_iadd (pc := 24) C dX5_worthOf_24 ⟨by omega, by omega⟩ ?_
  refine p_istore_n (pc := 25) (ls' := [(2, _), (3, _), (0, _), (1, _)]) C dX5_worthOf_25 (by decide) rfl ?_
  refine p_iincC (pc := 26) (w := 3) (ls' := [(3, _), (2, _), (0, _), (1, _)]) C dX5_worthOf_26 (by decide) rfl (by decide) (by decide) rfl ?_
  refine p_goto (pc := 29) (tgt := 4) C dX5_worthOf_29 (by decide) ?_
  refine p_iload_n (pc := 4) C dX5_worthOf_4 rfl ?_
  refine p_iconst (pc := 5) C dX5_worthOf_5 (by decide) ?_
  refine p_icmp_ge (pc := 6) (tgt := 32) C dX5_worthOf_6 (by decide) (fun h => absurd h (by decide)) (fun c_6 => ?_)
  refine p_iload_n (pc := 9) C dX5_worthOf_9 rfl ?_
  refine p_iload_n (pc := 10) C dX5_worthOf_10 rfl ?_
  refine p_iconst (pc := 11) C dX5_worthOf_11 (by decide) ?_
  refine p_iaddC (pc := 12) (w := 4) C dX5_worthOf_12 (by decide) (by decide) ?_
  refine p_aload_n (pc := 13) C dX5_worthOf_13 rfl ?_
  refine p_get (pc := 14) C fl_X5_34 dX5_worthOf_14 ⟨by omega, by omega⟩ (by assumption) (by rfl) ?_
  refine p_iconst (pc := 17) C dX5_worthOf_17 (by decide) ?_
  refine p_iload_n (pc := 18) C dX5_worthOf_18 rfl ?_
  refine p_imul (pc := 19) C dX5_worthOf_19 ⟨by omega, by omega⟩ ?_
  refine p_iload_n (pc := 20) C dX5_worthOf_20 rfl ?_
  refine p_iadd (pc := 21) C dX5_worthOf_21 ⟨by omega, by omega⟩ ?_
  refine p_iald (pc := 22) C dX5_worthOf_22 ⟨by omega, by omega⟩ (by assumption) (by omega) ?_
  refine p_imul (pc := 23) C dX5_worthOf_23 ⟨by omega, by omega⟩ ?_
  refine p_iadd (pc := 24) C dX5_worthOf_24 ⟨by omega, by omega⟩ ?_
  refine p_istore_n (pc := 25) (ls' := [(2, _), (3, _), (0, _), (1, _)]) C dX5_worthOf_25 (by decide) rfl ?_
  refine p_iincC (pc := 26) (w := 4) (ls' := [(3, _), (2, _), (0, _), (1, _)]) C dX5_worthOf_26 (by decide) rfl (by decide) (by decide) rfl ?_
  refine p_goto (pc := 29) (tgt := 4) C dX5_worthOf_29 (by decide) ?_
  refine p_iload_n (pc := 4) C dX5_worthOf_4 rfl ?_
  refine p_iconst (pc := 5) C dX5_worthOf_5 (by decide) ?_
  refine p_icmp_ge (pc := 6) (tgt := 32) C dX5_worthOf_6 (by decide) (fun c_6 => ?_) (fun h => absurd h (by decide))
  refine p_iload_n (pc := 32) C dX5_worthOf_32 rfl ?_
  refine p_iret (pc := 33) C dX5_worthOf_33 ?_
  exact ⟨sv (by simp only [wor]; omega), rfl⟩

set_option maxHeartbeats 4000000 in
set_option maxRecDepth 100000 in
theorem k_X5_piecesOf {K : KX} {d : Nat} {μ : Int → ME} {k : Int} {fl tr np ns day at_ rP rS lp lw lf sL sF nr : Int} (h0 : μ 42 = oM fl tr np ns day at_ rP rS lp lw lf sL sF nr) (hnp : np ≤ 6) (hns : 0 ≤ ns ∧ ns ≤ 5) (hk : 0 ≤ k ∧ k < ns) {cf : Int → Int} (hC : μ 51 = mA 20 cf) (hb : bd4 (fun g => cf (4 * k + g)) 100) : Ct K (d) yX5_piecesOf cX5_piecesOf 4 (some .int) [vR 42, vI k] μ (pF (vI (pcs (fun g => cf (4 * k + g)))) μ) := by
  refine Ct.of (by decide) (Nat.le_of_ble_eq_true rfl) (fun X C => ?_)
  obtain ⟨⟨b0, b1⟩, ⟨b2, b3⟩, ⟨b4, b5⟩, ⟨b6, b7⟩⟩ := id hb
  dsimp only at b0 b1 b2 b3 b4 b5 b6 b7
  refine p_iconst (pc := 0) C dX5_piecesOf_0 (by decide) ?_
  refine p_istore_n (pc := 1) (ls' := [(2, _), (0, _), (1, _)]) C dX5_piecesOf_1 (by decide) rfl ?_
  refine p_iconst (pc := 2) C dX5_piecesOf_2 (by decide) ?_
  refine p_istore_n (pc := 3) (ls' := [(3, _), (2, _), (0, _), (1, _)]) C dX5_piecesOf_3 (by decide) rfl ?_
  refine p_iload_n (pc := 4) C dX5_piecesOf_4 rfl ?_
  refine p_iconst (pc := 5) C dX5_piecesOf_5 (by decide) ?_
  refine p_icmp_ge (pc := 6) (tgt := 28) C dX5_piecesOf_6 (by decide) (fun h => absurd h (by decide)) (fun c_6 => ?_)
  refine p_iload_n (pc := 9) C dX5_piecesOf_9 rfl ?_
  refine p_aload_n (pc := 10) C dX5_piecesOf_10 rfl ?_
  refine p_get (pc := 11) C fl_X5_34 dX5_piecesOf_11 ⟨by omega, by omega⟩ (by assumption) (by rfl) ?_
  refine p_iconst (pc := 14) C dX5_piecesOf_14 (by decide) ?_
  refine p_iload_n (pc := 15) C dX5_piecesOf_15 rfl ?_
  refine p_imul (pc := 16) C dX5_piecesOf_16 ⟨by omega, by omega⟩ ?_
  refine p_iload_n (pc := 17) C dX5_piecesOf_17 rfl ?_
  refine p_iadd (pc := 18) C dX5_piecesOf_18 ⟨by omega, by omega⟩ ?_
  refine p_iald (pc := 19) C dX5_piecesOf_19 ⟨by omega, by omega⟩ (by assumption) (by omega) ?_
  refine p_iadd (pc := 20) C dX5_piecesOf_20 ⟨by omega, by omega⟩ ?_
  refine p_istore_n (pc := 21) (ls' := [(2, _), (3, _), (0, _), (1, _)]) C dX5_piecesOf_21 (by decide) rfl ?_
  refine p_iincC (pc := 22) (w := 1) (ls' := [(3, _), (2, _), (0, _), (1, _)]) C dX5_piecesOf_22 (by decide) rfl (by decide) (by decide) rfl ?_
  refine p_goto (pc := 25) (tgt := 4) C dX5_piecesOf_25 (by decide) ?_
  refine p_iload_n (pc := 4) C dX5_piecesOf_4 rfl ?_
  refine p_iconst (pc := 5) C dX5_piecesOf_5 (by decide) ?_
  refine p_icmp_ge (pc := 6) (tgt := 28) C dX5_piecesOf_6 (by decide) (fun h => absurd h (by decide)) (fun c_6 => ?_)
  refine p_iload_n (pc := 9) C dX5_piecesOf_9 rfl ?_
  refine p_aload_n (pc := 10) C dX5_piecesOf_10 rfl ?_
  refine p_get (pc := 11) C fl_X5_34 dX5_piecesOf_11 ⟨by omega, by omega⟩ (by assumption) (by rfl) ?_
  refine p_iconst (pc := 14) C dX5_piecesOf_14 (by decide) ?_
  refine p_iload_n (pc := 15) C dX5_piecesOf_15 rfl ?_
  refine p_imul (pc := 16) C dX5_piecesOf_16 ⟨by omega, by omega⟩ ?_
  refine p_iload_n (pc := 17) C dX5_piecesOf_17 rfl ?_
  refine p_iadd (pc := 18) C dX5_piecesOf_18 ⟨by omega, by omega⟩ ?_
  refine p_iald (pc := 19) C dX5_piecesOf_19 ⟨by omega, by omega⟩ (by assumption) (by omega) ?_
  refine p_iadd (pc := 20) C dX5_piecesOf_20 ⟨by omega, by omega⟩ ?_
  refine p_istore_n (pc := 21) (ls' := [(2, _), (3, _), (0, _), (1, _)]) C dX5_piecesOf_21 (by decide) rfl ?_
  refine p_iincC (pc := 22) (w := 2) (ls' := [(3, _), (2, _), (0, _), (1, _)]) C dX5_piecesOf_22 (by decide) rfl (by decide) (by decide) rfl ?_
  refine p_goto (pc := 25) (tgt := 4) C dX5_piecesOf_25 (by decide) ?_
  refine p_iload_n (pc := 4) C dX5_piecesOf_4 rfl ?_
  refine p_iconst (pc := 5) C dX5_piecesOf_5 (by decide) ?_
  refine p_icmp_ge (pc := 6) (tgt := 28) C dX5_piecesOf_6 (by decide) (fun h => absurd h (by decide)) (fun c_6 => ?_)
  refine p_iload_n (pc := 9) C dX5_piecesOf_9 rfl ?_
  refine p_aload_n (pc := 10) C dX5_piecesOf_10 rfl ?_
  refine p_get (pc := 11) C fl_X5_34 dX5_piecesOf_11 ⟨by omega, by omega⟩ (by assumption) (by rfl) ?_
  refine p_iconst (pc := 14) C dX5_piecesOf_14 (by decide) ?_
  refine p_iload_n (pc := 15) C dX5_piecesOf_15 rfl ?_
  refine p_imul (pc := 16) C dX5_piecesOf_16 ⟨by omega, by omega⟩ ?_
  refine p_iload_n (pc := 17) C dX5_piecesOf_17 rfl ?_
  refine p_iadd (pc := 18) C dX5_piecesOf_18 ⟨by omega, by omega⟩ ?_
  refine p_iald (pc := 19) C dX5_piecesOf_19 ⟨by omega, by omega⟩ (by assumption) (by omega) ?_
  refine p_iadd (pc := 20) C dX5_piecesOf_20 ⟨by omega, by omega⟩ ?_
  refine p_istore_n (pc := 21) (ls' := [(2, _), (3, _), (0, _), (1, _)]) C dX5_piecesOf_21 (by decide) rfl ?_
  refine p_iincC (pc := 22) (w := 3) (ls' := [(3, _), (2, _), (0, _), (1, _)]) C dX5_piecesOf_22 (by decide) rfl (by decide) (by decide) rfl ?_
  refine p_goto (pc := 25) (tgt := 4) C dX5_piecesOf_25 (by decide) ?_
  refine p_iload_n (pc := 4) C dX5_piecesOf_4 rfl ?_
  refine p_iconst (pc := 5) C dX5_piecesOf_5 (by decide) ?_
  refine p_icmp_ge (pc := 6) (tgt := 28) C dX5_piecesOf_6 (by decide) (fun h => absurd h (by decide)) (fun c_6 => ?_)
  refine p_iload_n (pc := 9) C dX5_piecesOf_9 rfl ?_
  refine p_aload_n (pc := 10) C dX5_piecesOf_10 rfl ?_
  refine p_get (pc := 11) C fl_X5_34 dX5_piecesOf_11 ⟨by omega, by omega⟩ (by assumption) (by rfl) ?_
  refine p_iconst (pc := 14) C dX5_piecesOf_14 (by decide) ?_
  refine p_iload_n (pc := 15) C dX5_piecesOf_15 rfl ?_
  refine p_imul (pc := 16) C dX5_piecesOf_16 ⟨by omega, by omega⟩ ?_
  refine p_iload_n (pc := 17) C dX5_piecesOf_17 rfl ?_
  refine p_iadd (pc := 18) C dX5_piecesOf_18 ⟨by omega, by omega⟩ ?_
  refine p_iald (pc := 19) C dX5_piecesOf_19 ⟨by omega, by omega⟩ (by assumption) (by omega) ?_
  refine p_iadd (pc := 20) C dX5_piecesOf_20 ⟨by omega, by omega⟩ ?_
  refine p_istore_n (pc := 21) (ls' := [(2, _), (3, _), (0, _), (1, _)]) C dX5_piecesOf_21 (by decide) rfl ?_
  refine p_iincC (pc := 22) (w := 4) (ls' := [(3, _), (2, _), (0, _), (1, _)]) C dX5_piecesOf_22 (by decide) rfl (by decide) (by decide) rfl ?_
  refine p_goto (pc := 25) (tgt := 4) C dX5_piecesOf_25 (by decide) ?_
  refine p_iload_n (pc := 4) C dX5_piecesOf_4 rfl ?_
  refine p_iconst (pc := 5) C dX5_piecesOf_5 (by decide) ?_
  refine p_icmp_ge (pc := 6) (tgt := 28) C dX5_piecesOf_6 (by decide) (fun c_6 => ?_) (fun h => absurd h (by decide))
  refine p_iload_n (pc := 28) C dX5_piecesOf_28 rfl ?_
  refine p_iret (pc := 29) C dX5_piecesOf_29 ?_
  exact ⟨sv (by simp only [pcs]; omega), rfl⟩

set_option maxHeartbeats 4000000 in
set_option maxRecDepth 100000 in
theorem k_X5_wouldLose {K : KX} {d : Nat} {μ : Int → ME} {k : Int} {fl tr np ns day at_ rP rS lp lw lf sL sF nr : Int} (h0 : μ 42 = oM fl tr np ns day at_ rP rS lp lw lf sL sF nr) (hnp : np ≤ 6) (hns : 0 ≤ ns ∧ ns ≤ 5) {rg kd nm sg : Int → Int} (hB : MB rg kd nm sg np ns μ) (hk : 0 ≤ k ∧ k < ns) {cf : Int → Int} (hC : μ 51 = mA 20 cf) (hN : WN ns kd nm sg) : Ct K (d + 1) yX5_wouldLose cX5_wouldLose 3 (some .int) [vR 42, vI k] μ (pF (vI (gtg (fun g => cf (4 * k + g)) (nm k))) μ) := by
  refine Ct.of (by decide) (Nat.le_of_ble_eq_true rfl) (fun X C => ?_)
  obtain ⟨⟨rgf, B1, C1⟩, ⟨kf, B2, C2⟩, ⟨nf, B3, C3⟩, ⟨sf, B4, C4⟩⟩ := id hB
  obtain ⟨n1, n2, n3⟩ := hN k hk.1 hk.2
  have q3 := C3 k hk.1 hk.2
  refine p_aload_n (pc := 0) C dX5_wouldLose_0 rfl ?_
  refine p_iload_n (pc := 1) C dX5_wouldLose_1 rfl ?_
  refine p_callVF (pc := 2) C ln_X5_133 dX5_wouldLose_2 (k_X5_isMet h0 hnp hns hB hk hC hN) ⟨by omega, by omega⟩ (by assumption) rfl rfl rfl rfl (Nat.le_of_ble_eq_true rfl) ?_
  refine p_ifne_b (pc := 5) (tgt := 15) C dX5_wouldLose_5 (by decide) (fun c_5 => ?_) (fun c_5 => ?_)
  · refine p_iconst (pc := 15) C dX5_wouldLose_15 (by decide) ?_
    refine p_istore_n (pc := 16) (ls' := [(2, _), (0, _), (1, _)]) C dX5_wouldLose_16 (by decide) rfl ?_
    refine p_iload_n (pc := 17) C dX5_wouldLose_17 rfl ?_
    refine p_iconst (pc := 18) C dX5_wouldLose_18 (by decide) ?_
    refine p_icmp_ge (pc := 19) (tgt := 43) C dX5_wouldLose_19 (by decide) (fun h => absurd h (by decide)) (fun c_19 => ?_)
    refine p_aload_n (pc := 22) C dX5_wouldLose_22 rfl ?_
    refine p_get (pc := 23) C fl_X5_34 dX5_wouldLose_23 ⟨by omega, by omega⟩ (by assumption) (by rfl) ?_
    refine p_iconst (pc := 26) C dX5_wouldLose_26 (by decide) ?_
    refine p_iload_n (pc := 27) C dX5_wouldLose_27 rfl ?_
    refine p_imul (pc := 28) C dX5_wouldLose_28 ⟨by omega, by omega⟩ ?_
    refine p_iload_n (pc := 29) C dX5_wouldLose_29 rfl ?_
    refine p_iadd (pc := 30) C dX5_wouldLose_30 ⟨by omega, by omega⟩ ?_
    refine p_iald (pc := 31) C dX5_wouldLose_31 ⟨by omega, by omega⟩ (by assumption) (by omega) ?_
    refine p_if_le (pc := 32) (tgt := 37) C dX5_wouldLose_32 (by decide) (fun c_32 => ?_) (fun c_32 => ?_)
    · refine p_iincC (pc := 37) (w := 1) (ls' := [(2, _), (0, _), (1, _)]) C dX5_wouldLose_37 (by decide) rfl (by decide) (by decide) rfl ?_
      refine p_goto (pc := 40) (tgt := 17) C dX5_wouldLose_40 (by decide) ?_
      refine p_iload_n (pc := 17) C dX5_wouldLose_17 rfl ?_
      refine p_iconst (pc := 18) C dX5_wouldLose_18 (by decide) ?_
      refine p_icmp_ge (pc := 19) (tgt := 43) C dX5_wouldLose_19 (by decide) (fun h => absurd h (by decide)) (fun c_19 => ?_)
      refine p_aload_n (pc := 22) C dX5_wouldLose_22 rfl ?_
      refine p_get (pc := 23) C fl_X5_34 dX5_wouldLose_23 ⟨by omega, by omega⟩ (by assumption) (by rfl) ?_
      refine p_iconst (pc := 26) C dX5_wouldLose_26 (by decide) ?_
      refine p_iload_n (pc := 27) C dX5_wouldLose_27 rfl ?_
      refine p_imul (pc := 28) C dX5_wouldLose_28 ⟨by omega, by omega⟩ ?_
      refine p_iload_n (pc := 29) C dX5_wouldLose_29 rfl ?_
      refine p_iadd (pc := 30) C dX5_wouldLose_30 ⟨by omega, by omega⟩ ?_
      refine p_iald (pc := 31) C dX5_wouldLose_31 ⟨by omega, by omega⟩ (by assumption) (by omega) ?_
      refine p_if_le (pc := 32) (tgt := 37) C dX5_wouldLose_32 (by decide) (fun c_32 => ?_) (fun c_32 => ?_)
      · refine p_iincC (pc := 37) (w := 2) (ls' := [(2, _), (0, _), (1, _)]) C dX5_wouldLose_37 (by decide) rfl (by decide) (by decide) rfl ?_
        refine p_goto (pc := 40) (tgt := 17) C dX5_wouldLose_40 (by decide) ?_
        refine p_iload_n (pc := 17) C dX5_wouldLose_17 rfl ?_
        refine p_iconst (pc := 18) C dX5_wouldLose_18 (by decide) ?_
        refine p_icmp_ge (pc := 19) (tgt := 43) C dX5_wouldLose_19 (by decide) (fun h => absurd h (by decide)) (fun c_19 => ?_)
        refine p_aload_n (pc := 22) C dX5_wouldLose_22 rfl ?_
        refine p_get (pc := 23) C fl_X5_34 dX5_wouldLose_23 ⟨by omega, by omega⟩ (by assumption) (by rfl) ?_
        refine p_iconst (pc := 26) C dX5_wouldLose_26 (by decide) ?_
        refine p_iload_n (pc := 27) C dX5_wouldLose_27 rfl ?_
        refine p_imul (pc := 28) C dX5_wouldLose_28 ⟨by omega, by omega⟩ ?_
        refine p_iload_n (pc := 29) C dX5_wouldLose_29 rfl ?_
        refine p_iadd (pc := 30) C dX5_wouldLose_30 ⟨by omega, by omega⟩ ?_
        refine p_iald (pc := 31) C dX5_wouldLose_31 ⟨by omega, by omega⟩ (by assumption) (by omega) ?_
        refine p_if_le (pc := 32) (tgt := 37) C dX5_wouldLose_32 (by decide) (fun c_32 => ?_) (fun c_32 => ?_)
        · refine p_iincC (pc := 37) (w := 3) (ls' := [(2, _), (0, _), (1, _)]) C dX5_wouldLose_37 (by decide) rfl (by decide) (by decide) rfl ?_
          refine p_goto (pc := 40) (tgt := 17) C dX5_wouldLose_40 (by decide) ?_
          refine p_iload_n (pc := 17) C dX5_wouldLose_17 rfl ?_
          refine p_iconst (pc := 18) C dX5_wouldLose_18 (by decide) ?_
          refine p_icmp_ge (pc := 19) (tgt := 43) C dX5_wouldLose_19 (by decide) (fun h => absurd h (by decide)) (fun c_19 => ?_)
          refine p_aload_n (pc := 22) C dX5_wouldLose_22 rfl ?_
          refine p_get (pc := 23) C fl_X5_34 dX5_wouldLose_23 ⟨by omega, by omega⟩ (by assumption) (by rfl) ?_
          refine p_iconst (pc := 26) C dX5_wouldLose_26 (by decide) ?_
          refine p_iload_n (pc := 27) C dX5_wouldLose_27 rfl ?_
          refine p_imul (pc := 28) C dX5_wouldLose_28 ⟨by omega, by omega⟩ ?_
          refine p_iload_n (pc := 29) C dX5_wouldLose_29 rfl ?_
          refine p_iadd (pc := 30) C dX5_wouldLose_30 ⟨by omega, by omega⟩ ?_
          refine p_iald (pc := 31) C dX5_wouldLose_31 ⟨by omega, by omega⟩ (by assumption) (by omega) ?_
          refine p_if_le (pc := 32) (tgt := 37) C dX5_wouldLose_32 (by decide) (fun c_32 => ?_) (fun c_32 => ?_)
          · refine p_iincC (pc := 37) (w := 4) (ls' := [(2, _), (0, _), (1, _)]) C dX5_wouldLose_37 (by decide) rfl (by decide) (by decide) rfl ?_
            refine p_goto (pc := 40) (tgt := 17) C dX5_wouldLose_40 (by decide) ?_
            refine p_iload_n (pc := 17) C dX5_wouldLose_17 rfl ?_
            refine p_iconst (pc := 18) C dX5_wouldLose_18 (by decide) ?_
            refine p_icmp_ge (pc := 19) (tgt := 43) C dX5_wouldLose_19 (by decide) (fun c_19 => ?_) (fun h => absurd h (by decide))
            refine p_bipush (pc := 43) C dX5_wouldLose_43 (by decide) ?_
            refine p_iret (pc := 45) C dX5_wouldLose_45 ?_
            exact ⟨sv (by simp only [gtg]; first | rw [if_pos (by omega)]; omega | rw [if_neg (by omega)]; first | rw [if_pos (by omega)] | rw [if_neg (by omega), if_pos (by omega)] | rw [if_neg (by omega), if_neg (by omega), if_pos (by omega)] | rw [if_neg (by omega), if_neg (by omega), if_neg (by omega), if_pos (by omega)] | rw [if_neg (by omega), if_neg (by omega), if_neg (by omega), if_neg (by omega)]), rfl⟩
          · refine p_iload_n (pc := 35) C dX5_wouldLose_35 rfl ?_
            refine p_iret (pc := 36) C dX5_wouldLose_36 ?_
            exact ⟨sv (by simp only [gtg]; first | rw [if_pos (by omega)]; omega | rw [if_neg (by omega)]; first | rw [if_pos (by omega)] | rw [if_neg (by omega), if_pos (by omega)] | rw [if_neg (by omega), if_neg (by omega), if_pos (by omega)] | rw [if_neg (by omega), if_neg (by omega), if_neg (by omega), if_pos (by omega)] | rw [if_neg (by omega), if_neg (by omega), if_neg (by omega), if_neg (by omega)]), rfl⟩
        · refine p_iload_n (pc := 35) C dX5_wouldLose_35 rfl ?_
          refine p_iret (pc := 36) C dX5_wouldLose_36 ?_
          exact ⟨sv (by simp only [gtg]; first | rw [if_pos (by omega)]; omega | rw [if_neg (by omega)]; first | rw [if_pos (by omega)] | rw [if_neg (by omega), if_pos (by omega)] | rw [if_neg (by omega), if_neg (by omega), if_pos (by omega)] | rw [if_neg (by omega), if_neg (by omega), if_neg (by omega), if_pos (by omega)] | rw [if_neg (by omega), if_neg (by omega), if_neg (by omega), if_neg (by omega)]), rfl⟩
      · refine p_iload_n (pc := 35) C dX5_wouldLose_35 rfl ?_
        refine p_iret (pc := 36) C dX5_wouldLose_36 ?_
        exact ⟨sv (by simp only [gtg]; first | rw [if_pos (by omega)]; omega | rw [if_neg (by omega)]; first | rw [if_pos (by omega)] | rw [if_neg (by omega), if_pos (by omega)] | rw [if_neg (by omega), if_neg (by omega), if_pos (by omega)] | rw [if_neg (by omega), if_neg (by omega), if_neg (by omega), if_pos (by omega)] | rw [if_neg (by omega), if_neg (by omega), if_neg (by omega), if_neg (by omega)]), rfl⟩
    · refine p_iload_n (pc := 35) C dX5_wouldLose_35 rfl ?_
      refine p_iret (pc := 36) C dX5_wouldLose_36 ?_
      exact ⟨sv (by simp only [gtg]; first | rw [if_pos (by omega)]; omega | rw [if_neg (by omega)]; first | rw [if_pos (by omega)] | rw [if_neg (by omega), if_pos (by omega)] | rw [if_neg (by omega), if_neg (by omega), if_pos (by omega)] | rw [if_neg (by omega), if_neg (by omega), if_neg (by omega), if_pos (by omega)] | rw [if_neg (by omega), if_neg (by omega), if_neg (by omega), if_neg (by omega)]), rfl⟩
  · refine p_aload_n (pc := 8) C dX5_wouldLose_8 rfl ?_
    refine p_get (pc := 9) C fl_X5_25 dX5_wouldLose_9 ⟨by omega, by omega⟩ (by assumption) (by rfl) ?_
    refine p_iload_n (pc := 12) C dX5_wouldLose_12 rfl ?_
    refine p_iald (pc := 13) C dX5_wouldLose_13 ⟨by omega, by omega⟩ (by assumption) (by omega) ?_
    refine p_iret (pc := 14) C dX5_wouldLose_14 ?_
    exact ⟨sv (by simp only [gtg]; first | rw [if_pos (by omega)]; omega | rw [if_neg (by omega)]; first | rw [if_pos (by omega)] | rw [if_neg (by omega), if_pos (by omega)] | rw [if_neg (by omega), if_neg (by omega), if_pos (by omega)] | rw [if_neg (by omega), if_neg (by omega), if_neg (by omega), if_pos (by omega)] | rw [if_neg (by omega), if_neg (by omega), if_neg (by omega), if_neg (by omega)]), rfl⟩
