/-- the codes of a ship, by their place -/
abbrev scP (p c ports : Int) : Prop := (p = 0 ∧ c = 59) ∨ (p = 1 ∧ (c = 98 ∨ c = 99 ∨ c = 115)) ∨ (p = 2 ∧ 48 ≤ c ∧ c < 52) ∨ (p = 4 ∧ 48 ≤ c ∧ c < 48 + ports) ∨ (p ≠ 0 ∧ p ≠ 1 ∧ p ≠ 2 ∧ p ≠ 4 ∧ 48 ≤ c ∧ c < 58)
def cpN (F : Int → Int) (fr n p : Int) : Nat → Int
  | 0 => p
  | t + 1 => if 1 + p < n ∧ (48 ≤ F (fr + 1 + p) ∧ F (fr + 1 + p) < 58) then cpN F fr n (p + 1) t else p
def csN (F : Int → Int) (at_ n ports fit : Int) : Nat → Int
  | 0 => fit
  | t + 1 => if fit < n ∧ scP fit (F (at_ + fit)) ports then csN F at_ n ports (fit + 1) t else fit
def ffN (F : Int → Int) (fr n ports place ship : Int) : Nat → Int
  | 0 => if place = n then -9 else place
  | t + 1 => if place = n ∧ 0 < ship then -9 else if csN F (fr + place) (n - place) ports 0 9 < 9 then place + csN F (fr + place) (n - place) ports 0 9 else ffN F fr n ports (place + csN F (fr + place) (n - place) ports 0 9) (ship + 1) t
/-- the first fault of a text; -9: none -/
def ffT (F : Int → Int) (fr n : Int) : Int := if n < 1 ∨ F fr ≠ 121 then 0 else if cpN F fr n 0 6 < 2 then 1 + cpN F fr n 0 6 else ffN F fr n (cpN F fr n 0 6) (1 + cpN F fr n 0 6) 0 5
theorem cpN_r (F : Int → Int) (fr n : Int) : ∀ (t : Nat) (p : Int), p ≤ cpN F fr n p t ∧ cpN F fr n p t ≤ p + (t : Int)
  | 0, p => by simp [cpN]
  | t + 1, p => by
    have := cpN_r F fr n t (p + 1)
    simp only [cpN]
    split <;> (push_cast; omega)
theorem csN_r (F : Int → Int) (at_ n ports : Int) : ∀ (t : Nat) (p : Int), p ≤ csN F at_ n ports p t ∧ csN F at_ n ports p t ≤ p + (t : Int)
  | 0, p => by simp [csN]
  | t + 1, p => by
    have := csN_r F at_ n ports t (p + 1)
    simp only [csN]
    split <;> (push_cast; omega)

set_option maxHeartbeats 4000000 in
set_option maxRecDepth 100000 in
theorem k_X4_isShipCode {K : KX} {d : Nat} {μ : Int → ME} {p v e : Int} (hp : 0 ≤ p ∧ p ≤ 8) (he : 0 ≤ e ∧ e ≤ 10) : Ct K (d + 1) yX4_isShipCode cX4_isShipCode 3 (some .boolean) [vI p, vI v, vI e] μ (pF (vI (if scP p v e then 1 else 0)) μ) := by
  refine Ct.of (by decide) (Nat.le_of_ble_eq_true rfl) (fun X C => ?_)
  refine p_iload_n (pc := 0) C dX4_isShipCode_0 rfl ?_
  by_cases s_1_0 : p = 0
  · refine p_tin (pc := 1) (off := 35) (tgt := 36) C dX4_isShipCode_1 (by omega) (by omega) (by rw [s_1_0]; rfl) (by decide) ?_
    refine p_iload_n (pc := 36) C dX4_isShipCode_36 rfl ?_
    refine p_bipush (pc := 37) C dX4_isShipCode_37 (by decide) ?_
    refine p_icmp_ne (pc := 39) (tgt := 46) C dX4_isShipCode_39 (by decide) (fun c_39 => ?_) (fun c_39 => ?_)
    · refine p_iconst (pc := 46) C dX4_isShipCode_46 (by decide) ?_
      refine p_zret (pc := 47) C dX4_isShipCode_47 (by first | exact Or.inl rfl | exact Or.inr rfl | (split <;> simp)) ?_
      first
        | exact ⟨by rw [if_pos (by omega)], rfl⟩
        | exact ⟨by rw [if_neg (by omega)], rfl⟩
        | exact ⟨sv (by split <;> split <;> omega), rfl⟩
    · refine p_iconst (pc := 42) C dX4_isShipCode_42 (by decide) ?_
      refine p_goto (pc := 43) (tgt := 47) C dX4_isShipCode_43 (by decide) ?_
      refine p_zret (pc := 47) C dX4_isShipCode_47 (by first | exact Or.inl rfl | exact Or.inr rfl | (split <;> simp)) ?_
      first
        | exact ⟨by rw [if_pos (by omega)], rfl⟩
        | exact ⟨by rw [if_neg (by omega)], rfl⟩
        | exact ⟨sv (by split <;> split <;> omega), rfl⟩
  by_cases s_1_1 : p = 1
  · refine p_tin (pc := 1) (off := 47) (tgt := 48) C dX4_isShipCode_1 (by omega) (by omega) (by rw [s_1_1]; rfl) (by decide) ?_
    refine p_iload_n (pc := 48) C dX4_isShipCode_48 rfl ?_
    refine p_callSF (pc := 49) C ln_X4_284 dX4_isShipCode_49 (k_X4_kindByCode) rfl rfl (Nat.le_of_ble_eq_true rfl) ?_
    refine p_bipush (pc := 52) C dX4_isShipCode_52 (by decide) ?_
    refine p_icmp_eq (pc := 54) (tgt := 61) C dX4_isShipCode_54 (by decide) (fun c_54 => ?_) (fun c_54 => ?_)
    · refine p_iconst (pc := 61) C dX4_isShipCode_61 (by decide) ?_
      refine p_zret (pc := 62) C dX4_isShipCode_62 (by first | exact Or.inl rfl | exact Or.inr rfl | (split <;> simp)) ?_
      first
        | exact ⟨by rw [if_pos (by omega)], rfl⟩
        | exact ⟨by rw [if_neg (by omega)], rfl⟩
        | exact ⟨sv (by split <;> split <;> omega), rfl⟩
    · refine p_iconst (pc := 57) C dX4_isShipCode_57 (by decide) ?_
      refine p_goto (pc := 58) (tgt := 62) C dX4_isShipCode_58 (by decide) ?_
      refine p_zret (pc := 62) C dX4_isShipCode_62 (by first | exact Or.inl rfl | exact Or.inr rfl | (split <;> simp)) ?_
      first
        | exact ⟨by rw [if_pos (by omega)], rfl⟩
        | exact ⟨by rw [if_neg (by omega)], rfl⟩
        | exact ⟨sv (by split <;> split <;> omega), rfl⟩
  by_cases s_1_2 : p = 2
  · refine p_tin (pc := 1) (off := 62) (tgt := 63) C dX4_isShipCode_1 (by omega) (by omega) (by rw [s_1_2]; rfl) (by decide) ?_
    refine p_iload_n (pc := 63) C dX4_isShipCode_63 rfl ?_
    refine p_iconst (pc := 64) C dX4_isShipCode_64 (by decide) ?_
    refine p_callSF (pc := 65) C ln_X4_277 dX4_isShipCode_65 (k_X4_isDigit (by omega)) rfl rfl (Nat.le_of_ble_eq_true rfl) ?_
    refine p_zret (pc := 68) C dX4_isShipCode_68 (by first | exact Or.inl rfl | exact Or.inr rfl | (split <;> simp)) ?_
    first
      | exact ⟨by rw [if_pos (by omega)], rfl⟩
      | exact ⟨by rw [if_neg (by omega)], rfl⟩
      | exact ⟨sv (by split <;> split <;> omega), rfl⟩
  by_cases s_1_3 : p = 3
  · refine p_tin (pc := 1) (off := 74) (tgt := 75) C dX4_isShipCode_1 (by omega) (by omega) (by rw [s_1_3]; rfl) (by decide) ?_
    refine p_iload_n (pc := 75) C dX4_isShipCode_75 rfl ?_
    refine p_bipush (pc := 76) C dX4_isShipCode_76 (by decide) ?_
    refine p_callSF (pc := 78) C ln_X4_277 dX4_isShipCode_78 (k_X4_isDigit (by omega)) rfl rfl (Nat.le_of_ble_eq_true rfl) ?_
    refine p_zret (pc := 81) C dX4_isShipCode_81 (by first | exact Or.inl rfl | exact Or.inr rfl | (split <;> simp)) ?_
    first
      | exact ⟨by rw [if_pos (by omega)], rfl⟩
      | exact ⟨by rw [if_neg (by omega)], rfl⟩
      | exact ⟨sv (by split <;> split <;> omega), rfl⟩
  by_cases s_1_4 : p = 4
  · refine p_tin (pc := 1) (off := 68) (tgt := 69) C dX4_isShipCode_1 (by omega) (by omega) (by rw [s_1_4]; rfl) (by decide) ?_
    refine p_iload_n (pc := 69) C dX4_isShipCode_69 rfl ?_
    refine p_iload_n (pc := 70) C dX4_isShipCode_70 rfl ?_
    refine p_callSF (pc := 71) C ln_X4_277 dX4_isShipCode_71 (k_X4_isDigit (by omega)) rfl rfl (Nat.le_of_ble_eq_true rfl) ?_
    refine p_zret (pc := 74) C dX4_isShipCode_74 (by first | exact Or.inl rfl | exact Or.inr rfl | (split <;> simp)) ?_
    first
      | exact ⟨by rw [if_pos (by omega)], rfl⟩
      | exact ⟨by rw [if_neg (by omega)], rfl⟩
      | exact ⟨sv (by split <;> split <;> omega), rfl⟩
  refine p_tout (pc := 1) (tgt := 75) C dX4_isShipCode_1 (by omega) (by decide) ?_
  refine p_iload_n (pc := 75) C dX4_isShipCode_75 rfl ?_
  refine p_bipush (pc := 76) C dX4_isShipCode_76 (by decide) ?_
  refine p_callSF (pc := 78) C ln_X4_277 dX4_isShipCode_78 (k_X4_isDigit (by omega)) rfl rfl (Nat.le_of_ble_eq_true rfl) ?_
  refine p_zret (pc := 81) C dX4_isShipCode_81 (by first | exact Or.inl rfl | exact Or.inr rfl | (split <;> simp)) ?_
  first
    | exact ⟨by rw [if_pos (by omega)], rfl⟩
    | exact ⟨by rw [if_neg (by omega)], rfl⟩
    | exact ⟨sv (by split <;> split <;> omega), rfl⟩

set_option maxHeartbeats 4000000 in
set_option maxRecDepth 100000 in
theorem k_X4_countPorts {K : KX} {d : Nat} {μ : Int → ME} {fr n : Int} {a c th ln le : Int} {f : Int → Int} (ha : IR a) (hr1 : μ a = oR th ln le c) (hc : IR c) (hr2 : μ c = mA 60 f) (hl : 0 ≤ le ∧ le ≤ 60) (hf : 0 ≤ fr ∧ fr ≤ 60) (hn : n ≤ 1000) : Ct K (d + 2) yX4_countPorts cX4_countPorts 4 (some .int) [vR a, vI fr, vI n] μ (pF (vI (cpN (cAt le f) fr n 0 6)) μ) := by
  refine Ct.of (by decide) (Nat.le_of_ble_eq_true rfl) (fun X C => ?_)
  have L : ∀ (t : Nat) (p : Int), 0 ≤ p → 6 - p = (t : Int) → cpN (cAt le f) fr n p t = cpN (cAt le f) fr n 0 6 → PW K X 4 (QM K X (pF (vI (cpN (cAt le f) fr n 0 6)) μ)) 2 [(3, vI p), (0, vR a), (1, vI fr), (2, vI n)] [] μ := by
    intro t
    induction t with
    | zero =>
      intro p h1 h2 h3
      refine p_iload_n (pc := 2) C dX4_countPorts_2 rfl ?_
      refine p_bipush (pc := 3) C dX4_countPorts_3 (by decide) ?_
      refine p_icmp_ge (pc := 5) (tgt := 38) C dX4_countPorts_5 (by decide) (fun c_5 => ?_) (fun h => by exfalso; omega)
      refine p_iload_n (pc := 38) C dX4_countPorts_38 rfl ?_
      refine p_iret (pc := 39) C dX4_countPorts_39 ?_
      exact ⟨sv (by rw [← h3]; rfl), rfl⟩
    | succ t ih =>
      intro p h1 h2 h3
      rw [cpN] at h3
      refine p_iload_n (pc := 2) C dX4_countPorts_2 rfl ?_
      refine p_bipush (pc := 3) C dX4_countPorts_3 (by decide) ?_
      refine p_icmp_ge (pc := 5) (tgt := 38) C dX4_countPorts_5 (by decide) (fun h => by exfalso; omega) (fun c_5 => ?_)
      refine p_iconst (pc := 8) C dX4_countPorts_8 (by decide) ?_
      refine p_iload_n (pc := 9) C dX4_countPorts_9 rfl ?_
      refine p_iadd (pc := 10) C dX4_countPorts_10 ⟨by omega, by omega⟩ ?_
      refine p_iload_n (pc := 11) C dX4_countPorts_11 rfl ?_
      refine p_icmp_ge (pc := 12) (tgt := 38) C dX4_countPorts_12 (by decide) (fun c_12 => ?_) (fun c_12 => ?_)
      · refine p_iload_n (pc := 38) C dX4_countPorts_38 rfl ?_
        refine p_iret (pc := 39) C dX4_countPorts_39 ?_
        exact ⟨sv (by rw [← h3, if_neg (by omega)]), rfl⟩
      · refine p_aload_n (pc := 15) C dX4_countPorts_15 rfl ?_
        refine p_iload_n (pc := 16) C dX4_countPorts_16 rfl ?_
        refine p_iconst (pc := 17) C dX4_countPorts_17 (by decide) ?_
        refine p_iadd (pc := 18) C dX4_countPorts_18 ⟨by omega, by omega⟩ ?_
        refine p_iload_n (pc := 19) C dX4_countPorts_19 rfl ?_
        refine p_iadd (pc := 20) C dX4_countPorts_20 ⟨by omega, by omega⟩ ?_
        refine p_callVF (pc := 21) C ln_X4_267 dX4_countPorts_21 (k_X0_codeAt ha hr1 hc hr2 hl) ha (by (repeat refine mg_n (by omega) ?_); first | assumption | exact mup_s _ _ _) rfl rfl rfl rfl (Nat.le_of_ble_eq_true rfl) ?_
        refine p_bipush (pc := 24) C dX4_countPorts_24 (by decide) ?_
        refine p_callSF (pc := 26) C ln_X4_277 dX4_countPorts_26 (k_X4_isDigit (by omega)) rfl rfl (Nat.le_of_ble_eq_true rfl) ?_
        refine p_ifeq_b (pc := 29) (tgt := 38) C dX4_countPorts_29 (by decide) (fun c_29 => ?_) (fun c_29 => ?_)
        · refine p_iload_n (pc := 38) C dX4_countPorts_38 rfl ?_
          refine p_iret (pc := 39) C dX4_countPorts_39 ?_
          exact ⟨sv (by rw [← h3, if_neg (by omega)]), rfl⟩
        · refine p_iinc (pc := 32) (ls' := [(3, _), (0, _), (1, _), (2, _)]) C dX4_countPorts_32 (by decide) rfl ⟨by omega, by omega⟩ rfl ?_
          refine p_goto (pc := 35) (tgt := 2) C dX4_countPorts_35 (by decide) ?_
          exact ih (p + 1) (by omega) (by omega) (by rw [if_pos (by omega)] at h3; exact h3)
  refine p_iconst (pc := 0) C dX4_countPorts_0 (by decide) ?_
  refine p_istore_n (pc := 1) (ls' := [(3, _), (0, _), (1, _), (2, _)]) C dX4_countPorts_1 (by decide) rfl ?_
  exact L 6 0 (by omega) (by omega) rfl

set_option maxHeartbeats 4000000 in
set_option maxRecDepth 100000 in
theorem k_X4_countShipCodes {K : KX} {d : Nat} {μ : Int → ME} {at_ n e : Int} {a c th ln le : Int} {f : Int → Int} (ha : IR a) (hr1 : μ a = oR th ln le c) (hc : IR c) (hr2 : μ c = mA 60 f) (hl : 0 ≤ le ∧ le ≤ 60) (hf : 0 ≤ at_ ∧ at_ ≤ 1000) (he : 0 ≤ e ∧ e ≤ 10) : Ct K (d + 2) yX4_countShipCodes cX4_countShipCodes 5 (some .int) [vR a, vI at_, vI n, vI e] μ (pF (vI (csN (cAt le f) at_ n e 0 9)) μ) := by
  refine Ct.of (by decide) (Nat.le_of_ble_eq_true rfl) (fun X C => ?_)
  have L : ∀ (t : Nat) (p : Int), 0 ≤ p → 9 - p = (t : Int) → csN (cAt le f) at_ n e p t = csN (cAt le f) at_ n e 0 9 → PW K X 5 (QM K X (pF (vI (csN (cAt le f) at_ n e 0 9)) μ)) 3 [(4, vI p), (0, vR a), (1, vI at_), (2, vI n), (3, vI e)] [] μ := by
    intro t
    induction t with
    | zero =>
      intro p h1 h2 h3
      refine p_iload (pc := 3) C dX4_countShipCodes_3 rfl ?_
      refine p_bipush (pc := 5) C dX4_countShipCodes_5 (by decide) ?_
      refine p_icmp_ge (pc := 7) (tgt := 39) C dX4_countShipCodes_7 (by decide) (fun c_7 => ?_) (fun h => by exfalso; omega)
      refine p_iload (pc := 39) C dX4_countShipCodes_39 rfl ?_
      refine p_iret (pc := 41) C dX4_countShipCodes_41 ?_
      exact ⟨sv (by rw [← h3]; rfl), rfl⟩
    | succ t ih =>
      intro p h1 h2 h3
      rw [csN] at h3
      refine p_iload (pc := 3) C dX4_countShipCodes_3 rfl ?_
      refine p_bipush (pc := 5) C dX4_countShipCodes_5 (by decide) ?_
      refine p_icmp_ge (pc := 7) (tgt := 39) C dX4_countShipCodes_7 (by decide) (fun h => by exfalso; omega) (fun c_7 => ?_)
      refine p_iload (pc := 10) C dX4_countShipCodes_10 rfl ?_
      refine p_iload_n (pc := 12) C dX4_countShipCodes_12 rfl ?_
      refine p_icmp_ge (pc := 13) (tgt := 39) C dX4_countShipCodes_13 (by decide) (fun c_13 => ?_) (fun c_13 => ?_)
      · refine p_iload (pc := 39) C dX4_countShipCodes_39 rfl ?_
        refine p_iret (pc := 41) C dX4_countShipCodes_41 ?_
        first
          | exact ⟨sv (by rw [← h3, if_neg (fun z => c_30 z.2)]), rfl⟩
          | exact ⟨sv (by rw [← h3, if_neg (by omega)]), rfl⟩
      · refine p_iload (pc := 16) C dX4_countShipCodes_16 rfl ?_
        refine p_aload_n (pc := 18) C dX4_countShipCodes_18 rfl ?_
        refine p_iload_n (pc := 19) C dX4_countShipCodes_19 rfl ?_
        refine p_iload (pc := 20) C dX4_countShipCodes_20 rfl ?_
        refine p_iadd (pc := 22) C dX4_countShipCodes_22 ⟨by omega, by omega⟩ ?_
        refine p_callVF (pc := 23) C ln_X4_267 dX4_countShipCodes_23 (k_X0_codeAt ha hr1 hc hr2 hl) ha (by (repeat refine mg_n (by omega) ?_); first | assumption | exact mup_s _ _ _) rfl rfl rfl rfl (Nat.le_of_ble_eq_true rfl) ?_
        refine p_iload_n (pc := 26) C dX4_countShipCodes_26 rfl ?_
        refine p_callSF (pc := 27) C ln_X4_280 dX4_countShipCodes_27 (k_X4_isShipCode (by omega) he) rfl rfl (Nat.le_of_ble_eq_true rfl) ?_
        refine p_ifeq_b (pc := 30) (tgt := 39) C dX4_countShipCodes_30 (by decide) (fun c_30 => ?_) (fun c_30 => ?_)
        · refine p_iload (pc := 39) C dX4_countShipCodes_39 rfl ?_
          refine p_iret (pc := 41) C dX4_countShipCodes_41 ?_
          first
            | exact ⟨sv (by rw [← h3, if_neg (fun z => c_30 z.2)]), rfl⟩
            | exact ⟨sv (by rw [← h3, if_neg (by omega)]), rfl⟩
        · refine p_iinc (pc := 33) (ls' := [(4, _), (0, _), (1, _), (2, _), (3, _)]) C dX4_countShipCodes_33 (by decide) rfl ⟨by omega, by omega⟩ rfl ?_
          refine p_goto (pc := 36) (tgt := 3) C dX4_countShipCodes_36 (by decide) ?_
          exact ih (p + 1) (by omega) (by omega) (by rw [if_pos ⟨by omega, c_30⟩] at h3; exact h3)
  refine p_iconst (pc := 0) C dX4_countShipCodes_0 (by decide) ?_
  refine p_istore (pc := 1) (ls' := [(4, _), (0, _), (1, _), (2, _), (3, _)]) C dX4_countShipCodes_1 (by decide) rfl ?_
  exact L 9 0 (by omega) (by omega) rfl

set_option maxHeartbeats 4000000 in
set_option maxRecDepth 100000 in
theorem k_X4_firstFault {K : KX} {d : Nat} {μ : Int → ME} {fr n : Int} {a c th ln le : Int} {f : Int → Int} (ha : IR a) (hr1 : μ a = oR th ln le c) (hc : IR c) (hr2 : μ c = mA 60 f) (hl : 0 ≤ le ∧ le ≤ 60) (hf : 0 ≤ fr ∧ fr ≤ 60) (hn : 0 ≤ n ∧ n ≤ 60) : Ct K (d + 3) yX4_firstFault cX4_firstFault 7 (some .int) [vR a, vI fr, vI n] μ (pF (vI (ffT (cAt le f) fr n)) μ) := by
  refine Ct.of (by decide) (Nat.le_of_ble_eq_true rfl) (fun X C => ?_)
  have hq := cpN_r (cAt le f) fr n 6 0
  generalize hp : cpN (cAt le f) fr n 0 6 = q at hq
  have L : ∀ (t : Nat) (i p : Int), 0 ≤ i → 5 - i = (t : Int) → 0 ≤ p → p ≤ 7 + 9 * i → ffN (cAt le f) fr n q p i t = ffT (cAt le f) fr n → PW K X 7 (QM K X (pF (vI (ffT (cAt le f) fr n)) μ)) 40 [(5, vI i), (4, vI p), (3, vI q), (0, vR a), (1, vI fr), (2, vI n)] [] μ := by
    intro t
    induction t with
    | zero =>
      intro i p h1 h2 h4 h5 h3
      rw [ffN] at h3
      refine p_iload (pc := 40) C dX4_firstFault_40 rfl ?_
      refine p_iconst (pc := 42) C dX4_firstFault_42 (by decide) ?_
      refine p_icmp_ge (pc := 43) (tgt := 98) C dX4_firstFault_43 (by decide) (fun c_43 => ?_) (fun h => by exfalso; omega)
      refine p_iload (pc := 98) C dX4_firstFault_98 rfl ?_
      refine p_iload_n (pc := 100) C dX4_firstFault_100 rfl ?_
      refine p_icmp_ne (pc := 101) (tgt := 109) C dX4_firstFault_101 (by decide) (fun c_101 => ?_) (fun c_101 => ?_)
      · refine p_iload (pc := 109) C dX4_firstFault_109 rfl ?_
        refine p_iret (pc := 111) C dX4_firstFault_111 ?_
        first
          | exact ⟨sv (by rw [← h3, if_pos (by omega)]), rfl⟩
          | exact ⟨sv (by rw [← h3, if_neg (by omega)]), rfl⟩
      · refine p_bipush (pc := 104) C dX4_firstFault_104 (by decide) ?_
        refine p_goto (pc := 106) (tgt := 111) C dX4_firstFault_106 (by decide) ?_
        refine p_iret (pc := 111) C dX4_firstFault_111 ?_
        first
          | exact ⟨sv (by rw [← h3, if_pos (by omega)]), rfl⟩
          | exact ⟨sv (by rw [← h3, if_neg (by omega)]), rfl⟩
    | succ t ih =>
      intro i p h1 h2 h4 h5 h3
      rw [ffN] at h3
      have hs := csN_r (cAt le f) (fr + p) (n - p) q 9 0
      refine p_iload (pc := 40) C dX4_firstFault_40 rfl ?_
      refine p_iconst (pc := 42) C dX4_firstFault_42 (by decide) ?_
      refine p_icmp_ge (pc := 43) (tgt := 98) C dX4_firstFault_43 (by decide) (fun h => by exfalso; omega) (fun c_43 => ?_)
      refine p_iload (pc := 46) C dX4_firstFault_46 rfl ?_
      refine p_iload_n (pc := 48) C dX4_firstFault_48 rfl ?_
      refine p_icmp_ne (pc := 49) (tgt := 60) C dX4_firstFault_49 (by decide) (fun c_49 => ?_) (fun c_49 => ?_)
      · refine p_aload_n (pc := 60) C dX4_firstFault_60 rfl ?_
        refine p_iload_n (pc := 61) C dX4_firstFault_61 rfl ?_
        refine p_iload (pc := 62) C dX4_firstFault_62 rfl ?_
        refine p_iadd (pc := 64) C dX4_firstFault_64 ⟨by omega, by omega⟩ ?_
        refine p_iload_n (pc := 65) C dX4_firstFault_65 rfl ?_
        refine p_iload (pc := 66) C dX4_firstFault_66 rfl ?_
        refine p_isub (pc := 68) C dX4_firstFault_68 ⟨by omega, by omega⟩ ?_
        refine p_iload_n (pc := 69) C dX4_firstFault_69 rfl ?_
        refine p_callSF (pc := 70) C ln_X4_273 dX4_firstFault_70 (k_X4_countShipCodes ha hr1 hc hr2 hl (by omega) (by omega)) rfl rfl (Nat.le_of_ble_eq_true rfl) ?_
        refine p_istore (pc := 73) (ls' := [(6, _), (5, _), (4, _), (3, _), (0, _), (1, _), (2, _)]) C dX4_firstFault_73 (by decide) rfl ?_
        refine p_iload (pc := 75) C dX4_firstFault_75 rfl ?_
        refine p_iload (pc := 77) C dX4_firstFault_77 rfl ?_
        refine p_iadd (pc := 79) C dX4_firstFault_79 ⟨by omega, by omega⟩ ?_
        refine p_istore (pc := 80) (ls' := [(4, _), (6, _), (5, _), (3, _), (0, _), (1, _), (2, _)]) C dX4_firstFault_80 (by decide) rfl ?_
        refine p_iload (pc := 82) C dX4_firstFault_82 rfl ?_
        refine p_bipush (pc := 84) C dX4_firstFault_84 (by decide) ?_
        refine p_icmp_ge (pc := 86) (tgt := 92) C dX4_firstFault_86 (by decide) (fun c_86 => ?_) (fun c_86 => ?_)
        · refine p_iinc (pc := 92) (ls' := [(5, _), (4, _), (6, _), (3, _), (0, _), (1, _), (2, _)]) C dX4_firstFault_92 (by decide) rfl ⟨by omega, by omega⟩ rfl ?_
          refine p_goto (pc := 95) (tgt := 40) C dX4_firstFault_95 (by decide) ?_
          refine p_pick [0, 1, 3, 4, 5, 6] (ls' := [(5, _), (4, _), (3, _), (0, _), (1, _), (2, _)]) rfl ?_
          exact ih (i + 1) _ (by omega) (by omega) (by omega) (by omega) (by rw [if_neg (by omega), if_neg (by omega)] at h3; exact h3)
        · refine p_iload (pc := 89) C dX4_firstFault_89 rfl ?_
          refine p_iret (pc := 91) C dX4_firstFault_91 ?_
          first
            | exact ⟨sv (by rw [← h3, if_pos (by omega)]), rfl⟩
            | exact ⟨sv (by rw [← h3, if_neg (by omega), if_pos (by omega)]), rfl⟩
      · refine p_iload (pc := 52) C dX4_firstFault_52 rfl ?_
        refine p_if_le (pc := 54) (tgt := 60) C dX4_firstFault_54 (by decide) (fun c_54 => ?_) (fun c_54 => ?_)
        · refine p_aload_n (pc := 60) C dX4_firstFault_60 rfl ?_
          refine p_iload_n (pc := 61) C dX4_firstFault_61 rfl ?_
          refine p_iload (pc := 62) C dX4_firstFault_62 rfl ?_
          refine p_iadd (pc := 64) C dX4_firstFault_64 ⟨by omega, by omega⟩ ?_
          refine p_iload_n (pc := 65) C dX4_firstFault_65 rfl ?_
          refine p_iload (pc := 66) C dX4_firstFault_66 rfl ?_
          refine p_isub (pc := 68) C dX4_firstFault_68 ⟨by omega, by omega⟩ ?_
          refine p_iload_n (pc := 69) C dX4_firstFault_69 rfl ?_
          refine p_callSF (pc := 70) C ln_X4_273 dX4_firstFault_70 (k_X4_countShipCodes ha hr1 hc hr2 hl (by omega) (by omega)) rfl rfl (Nat.le_of_ble_eq_true rfl) ?_
          refine p_istore (pc := 73) (ls' := [(6, _), (5, _), (4, _), (3, _), (0, _), (1, _), (2, _)]) C dX4_firstFault_73 (by decide) rfl ?_
          refine p_iload (pc := 75) C dX4_firstFault_75 rfl ?_
          refine p_iload (pc := 77) C dX4_firstFault_77 rfl ?_
          refine p_iadd (pc := 79) C dX4_firstFault_79 ⟨by omega, by omega⟩ ?_
          refine p_istore (pc := 80) (ls' := [(4, _), (6, _), (5, _), (3, _), (0, _), (1, _), (2, _)]) C dX4_firstFault_80 (by decide) rfl ?_
          refine p_iload (pc := 82) C dX4_firstFault_82 rfl ?_
          refine p_bipush (pc := 84) C dX4_firstFault_84 (by decide) ?_
          refine p_icmp_ge (pc := 86) (tgt := 92) C dX4_firstFault_86 (by decide) (fun c_86 => ?_) (fun c_86 => ?_)
          · refine p_iinc (pc := 92) (ls' := [(5, _), (4, _), (6, _), (3, _), (0, _), (1, _), (2, _)]) C dX4_firstFault_92 (by decide) rfl ⟨by omega, by omega⟩ rfl ?_
            refine p_goto (pc := 95) (tgt := 40) C dX4_firstFault_95 (by decide) ?_
            refine p_pick [0, 1, 3, 4, 5, 6] (ls' := [(5, _), (4, _), (3, _), (0, _), (1, _), (2, _)]) rfl ?_
            exact ih (i + 1) _ (by omega) (by omega) (by omega) (by omega) (by rw [if_neg (by omega), if_neg (by omega)] at h3; exact h3)
          · refine p_iload (pc := 89) C dX4_firstFault_89 rfl ?_
            refine p_iret (pc := 91) C dX4_firstFault_91 ?_
            first
              | exact ⟨sv (by rw [← h3, if_pos (by omega)]), rfl⟩
              | exact ⟨sv (by rw [← h3, if_neg (by omega), if_pos (by omega)]), rfl⟩
        · refine p_bipush (pc := 57) C dX4_firstFault_57 (by decide) ?_
          refine p_iret (pc := 59) C dX4_firstFault_59 ?_
          first
            | exact ⟨sv (by rw [← h3, if_pos (by omega)]), rfl⟩
            | exact ⟨sv (by rw [← h3, if_neg (by omega), if_pos (by omega)]), rfl⟩
  refine p_iload_n (pc := 0) C dX4_firstFault_0 rfl ?_
  refine p_iconst (pc := 1) C dX4_firstFault_1 (by decide) ?_
  refine p_icmp_lt (pc := 2) (tgt := 15) C dX4_firstFault_2 (by decide) (fun c_2 => ?_) (fun c_2 => ?_)
  · refine p_iconst (pc := 15) C dX4_firstFault_15 (by decide) ?_
    refine p_iret (pc := 16) C dX4_firstFault_16 ?_
    first
      | exact ⟨sv (by unfold ffT; rw [if_pos (by omega)]), rfl⟩
      | exact ⟨sv (by unfold ffT; rw [if_neg (by omega), hp, if_pos (by omega)]), rfl⟩
  · refine p_aload_n (pc := 5) C dX4_firstFault_5 rfl ?_
    refine p_iload_n (pc := 6) C dX4_firstFault_6 rfl ?_
    refine p_callVF (pc := 7) C ln_X4_267 dX4_firstFault_7 (k_X0_codeAt ha hr1 hc hr2 hl) ha (by (repeat refine mg_n (by omega) ?_); first | assumption | exact mup_s _ _ _) rfl rfl rfl rfl (Nat.le_of_ble_eq_true rfl) ?_
    refine p_bipush (pc := 10) C dX4_firstFault_10 (by decide) ?_
    refine p_icmp_eq (pc := 12) (tgt := 17) C dX4_firstFault_12 (by decide) (fun c_12 => ?_) (fun c_12 => ?_)
    · refine p_aload_n (pc := 17) C dX4_firstFault_17 rfl ?_
      refine p_iload_n (pc := 18) C dX4_firstFault_18 rfl ?_
      refine p_iload_n (pc := 19) C dX4_firstFault_19 rfl ?_
      refine p_callSF (pc := 20) C ln_X4_270 dX4_firstFault_20 (k_X4_countPorts ha hr1 hc hr2 hl hf (by omega)) rfl rfl (Nat.le_of_ble_eq_true rfl) ?_
      refine p_top hp ?_
      refine p_istore_n (pc := 23) (ls' := [(3, _), (0, _), (1, _), (2, _)]) C dX4_firstFault_23 (by decide) rfl ?_
      refine p_iconst (pc := 24) C dX4_firstFault_24 (by decide) ?_
      refine p_iload_n (pc := 25) C dX4_firstFault_25 rfl ?_
      refine p_iadd (pc := 26) C dX4_firstFault_26 ⟨by omega, by omega⟩ ?_
      refine p_istore (pc := 27) (ls' := [(4, _), (3, _), (0, _), (1, _), (2, _)]) C dX4_firstFault_27 (by decide) rfl ?_
      refine p_iload_n (pc := 29) C dX4_firstFault_29 rfl ?_
      refine p_iconst (pc := 30) C dX4_firstFault_30 (by decide) ?_
      refine p_icmp_ge (pc := 31) (tgt := 37) C dX4_firstFault_31 (by decide) (fun c_31 => ?_) (fun c_31 => ?_)
      · refine p_iconst (pc := 37) C dX4_firstFault_37 (by decide) ?_
        refine p_istore (pc := 38) (ls' := [(5, _), (4, _), (3, _), (0, _), (1, _), (2, _)]) C dX4_firstFault_38 (by decide) rfl ?_
        exact L 5 0 (1 + q) (by omega) (by omega) (by omega) (by omega) (by unfold ffT; rw [if_neg (by omega), hp, if_neg (by omega)])
      · refine p_iload (pc := 34) C dX4_firstFault_34 rfl ?_
        refine p_iret (pc := 36) C dX4_firstFault_36 ?_
        first
          | exact ⟨sv (by unfold ffT; rw [if_pos (by omega)]), rfl⟩
          | exact ⟨sv (by unfold ffT; rw [if_neg (by omega), hp, if_pos (by omega)]), rfl⟩
    · refine p_iconst (pc := 15) C dX4_firstFault_15 (by decide) ?_
      refine p_iret (pc := 16) C dX4_firstFault_16 ?_
      first
        | exact ⟨sv (by unfold ffT; rw [if_pos (by omega)]), rfl⟩
        | exact ⟨sv (by unfold ffT; rw [if_neg (by omega), hp, if_pos (by omega)]), rfl⟩
