theorem mg_n {μ : Int → ME} {a j : Int} {o r : ME} (h : j ≠ a) (k : μ j = r) : mup μ a o j = r := by rw [mup_n _ _ _ h]; exact k
theorem sv {x y : Int} (h : x = y) : (some (vI x) : Option PV) = some (vI y) := by rw [h]
theorem svL {x y : Int} (h : x = y) : (some (vL x) : Option PV) = some (vL y) := by rw [h]
/-- what a ship bears -/
def brg (kd sg : Int) : Int := if kd = 1 then sg + 1 else if kd = 2 then 2 * sg else sg
def wor (f : Int → Int) : Int := f 0 + 2 * f 1 + 3 * f 2 + 4 * f 3
def pcs (f : Int → Int) : Int := f 0 + f 1 + f 2 + f 3
/-- the good that goes -/
def gtg (f : Int → Int) (nm : Int) : Int := if f nm ≠ 0 then nm else if 0 < f 0 then 0 else if 0 < f 1 then 1 else if 0 < f 2 then 2 else if 0 < f 3 then 3 else -9
abbrev oS (kd nm sg pt c : Int) : ME := mO 1 [vI kd, vI nm, vI sg, vI pt, vR c]
abbrev oR (th ln le c : Int) : ME := mO 0 [vI th, vI ln, vI le, vR c]
abbrev oT (p w s : Int) : ME := mO 3 [vI p, vI w, vI s]
abbrev oY (np ns day nr tr fl : Int) : ME := mO 4 [vR 1, vI np, vR 2, vI ns, vI day, vR 3, vR 4, vR 5, vR 9, vR 10, vR 11, vR 12, vI nr, vR 13, vI tr, vI fl]
/-- four numbers between 0 and m -/
def bd4 (f : Int → Int) (m : Int) : Prop := (0 ≤ f 0 ∧ f 0 ≤ m) ∧ (0 ≤ f 1 ∧ f 1 ≤ m) ∧ (0 ≤ f 2 ∧ f 2 ≤ m) ∧ (0 ≤ f 3 ∧ f 3 ≤ m)
theorem bd4.at {f : Int → Int} {m : Int} (h : bd4 f m) {g : Int} (h0 : 0 ≤ g) (h1 : g < 4) : 0 ≤ f g ∧ f g ≤ m := by
  obtain ⟨a, b, c, e⟩ := h
  rcases (show g = 0 ∨ g = 1 ∨ g = 2 ∨ g = 3 by omega) with rfl | rfl | rfl | rfl
  · exact a
  · exact b
  · exact c
  · exact e

set_option maxHeartbeats 4000000 in
set_option maxRecDepth 100000 in
theorem k_X4_isBelow {K : KX} {d : Nat} {μ : Int → ME} {v e : Int} : Ct K (d) yX4_isBelow cX4_isBelow 2 (some .boolean) [vI v, vI e] μ (pF (vI (if 0 ≤ v ∧ v < e then 1 else 0)) μ) := by
  refine Ct.of (by decide) (Nat.le_of_ble_eq_true rfl) (fun X C => ?_)
  refine p_iload_n (pc := 0) C dX4_isBelow_0 rfl ?_
  refine p_if_lt (pc := 1) (tgt := 13) C dX4_isBelow_1 (by decide) (fun c_1 => ?_) (fun c_1 => ?_)
  · refine p_iconst (pc := 13) C dX4_isBelow_13 (by decide) ?_
    refine p_zret (pc := 14) C dX4_isBelow_14 (by first | exact Or.inl rfl | exact Or.inr rfl | (split <;> simp)) ?_
    exact ⟨by first | rfl | (rw [if_pos (by omega)]) | (rw [if_neg (by omega)]) | (congr 2; omega), rfl⟩
  · refine p_iload_n (pc := 4) C dX4_isBelow_4 rfl ?_
    refine p_iload_n (pc := 5) C dX4_isBelow_5 rfl ?_
    refine p_icmp_ge (pc := 6) (tgt := 13) C dX4_isBelow_6 (by decide) (fun c_6 => ?_) (fun c_6 => ?_)
    · refine p_iconst (pc := 13) C dX4_isBelow_13 (by decide) ?_
      refine p_zret (pc := 14) C dX4_isBelow_14 (by first | exact Or.inl rfl | exact Or.inr rfl | (split <;> simp)) ?_
      exact ⟨by first | rfl | (rw [if_pos (by omega)]) | (rw [if_neg (by omega)]) | (congr 2; omega), rfl⟩
    · refine p_iconst (pc := 9) C dX4_isBelow_9 (by decide) ?_
      refine p_goto (pc := 10) (tgt := 14) C dX4_isBelow_10 (by decide) ?_
      refine p_zret (pc := 14) C dX4_isBelow_14 (by first | exact Or.inl rfl | exact Or.inr rfl | (split <;> simp)) ?_
      exact ⟨by first | rfl | (rw [if_pos (by omega)]) | (rw [if_neg (by omega)]) | (congr 2; omega), rfl⟩

set_option maxHeartbeats 4000000 in
set_option maxRecDepth 100000 in
theorem k_X4_isUpTo {K : KX} {d : Nat} {μ : Int → ME} {v e : Int} : Ct K (d) yX4_isUpTo cX4_isUpTo 2 (some .boolean) [vI v, vI e] μ (pF (vI (if 0 ≤ v ∧ v ≤ e then 1 else 0)) μ) := by
  refine Ct.of (by decide) (Nat.le_of_ble_eq_true rfl) (fun X C => ?_)
  refine p_iload_n (pc := 0) C dX4_isUpTo_0 rfl ?_
  refine p_if_lt (pc := 1) (tgt := 13) C dX4_isUpTo_1 (by decide) (fun c_1 => ?_) (fun c_1 => ?_)
  · refine p_iconst (pc := 13) C dX4_isUpTo_13 (by decide) ?_
    refine p_zret (pc := 14) C dX4_isUpTo_14 (by first | exact Or.inl rfl | exact Or.inr rfl | (split <;> simp)) ?_
    exact ⟨by first | rfl | (rw [if_pos (by omega)]) | (rw [if_neg (by omega)]) | (congr 2; omega), rfl⟩
  · refine p_iload_n (pc := 4) C dX4_isUpTo_4 rfl ?_
    refine p_iload_n (pc := 5) C dX4_isUpTo_5 rfl ?_
    refine p_icmp_gt (pc := 6) (tgt := 13) C dX4_isUpTo_6 (by decide) (fun c_6 => ?_) (fun c_6 => ?_)
    · refine p_iconst (pc := 13) C dX4_isUpTo_13 (by decide) ?_
      refine p_zret (pc := 14) C dX4_isUpTo_14 (by first | exact Or.inl rfl | exact Or.inr rfl | (split <;> simp)) ?_
      exact ⟨by first | rfl | (rw [if_pos (by omega)]) | (rw [if_neg (by omega)]) | (congr 2; omega), rfl⟩
    · refine p_iconst (pc := 9) C dX4_isUpTo_9 (by decide) ?_
      refine p_goto (pc := 10) (tgt := 14) C dX4_isUpTo_10 (by decide) ?_
      refine p_zret (pc := 14) C dX4_isUpTo_14 (by first | exact Or.inl rfl | exact Or.inr rfl | (split <;> simp)) ?_
      exact ⟨by first | rfl | (rw [if_pos (by omega)]) | (rw [if_neg (by omega)]) | (congr 2; omega), rfl⟩

set_option maxHeartbeats 4000000 in
set_option maxRecDepth 100000 in
theorem k_X4_isLot {K : KX} {d : Nat} {μ : Int → ME} {v : Int} : Ct K (d) yX4_isLot cX4_isLot 1 (some .boolean) [vI v] μ (pF (vI (if 1 ≤ v ∧ v ≤ 9 then 1 else 0)) μ) := by
  refine Ct.of (by decide) (Nat.le_of_ble_eq_true rfl) (fun X C => ?_)
  refine p_iload_n (pc := 0) C dX4_isLot_0 rfl ?_
  refine p_iconst (pc := 1) C dX4_isLot_1 (by decide) ?_
  refine p_icmp_lt (pc := 2) (tgt := 15) C dX4_isLot_2 (by decide) (fun c_2 => ?_) (fun c_2 => ?_)
  · refine p_iconst (pc := 15) C dX4_isLot_15 (by decide) ?_
    refine p_zret (pc := 16) C dX4_isLot_16 (by first | exact Or.inl rfl | exact Or.inr rfl | (split <;> simp)) ?_
    exact ⟨by first | rfl | (rw [if_pos (by omega)]) | (rw [if_neg (by omega)]) | (congr 2; omega), rfl⟩
  · refine p_iload_n (pc := 5) C dX4_isLot_5 rfl ?_
    refine p_bipush (pc := 6) C dX4_isLot_6 (by decide) ?_
    refine p_icmp_gt (pc := 8) (tgt := 15) C dX4_isLot_8 (by decide) (fun c_8 => ?_) (fun c_8 => ?_)
    · refine p_iconst (pc := 15) C dX4_isLot_15 (by decide) ?_
      refine p_zret (pc := 16) C dX4_isLot_16 (by first | exact Or.inl rfl | exact Or.inr rfl | (split <;> simp)) ?_
      exact ⟨by first | rfl | (rw [if_pos (by omega)]) | (rw [if_neg (by omega)]) | (congr 2; omega), rfl⟩
    · refine p_iconst (pc := 11) C dX4_isLot_11 (by decide) ?_
      refine p_goto (pc := 12) (tgt := 16) C dX4_isLot_12 (by decide) ?_
      refine p_zret (pc := 16) C dX4_isLot_16 (by first | exact Or.inl rfl | exact Or.inr rfl | (split <;> simp)) ?_
      exact ⟨by first | rfl | (rw [if_pos (by omega)]) | (rw [if_neg (by omega)]) | (congr 2; omega), rfl⟩

set_option maxHeartbeats 4000000 in
set_option maxRecDepth 100000 in
theorem k_X4_isSheet {K : KX} {d : Nat} {μ : Int → ME} {v : Int} : Ct K (d + 1) yX4_isSheet cX4_isSheet 1 (some .boolean) [vI v] μ (pF (vI (if 0 ≤ v ∧ v < 4 then 1 else 0)) μ) := by
  refine Ct.of (by decide) (Nat.le_of_ble_eq_true rfl) (fun X C => ?_)
  refine p_iload_n (pc := 0) C dX4_isSheet_0 rfl ?_
  refine p_iconst (pc := 1) C dX4_isSheet_1 (by decide) ?_
  refine p_callSF (pc := 2) C ln_X4_66 dX4_isSheet_2 (k_X4_isBelow) rfl rfl (Nat.le_of_ble_eq_true rfl) ?_
  refine p_zret (pc := 5) C dX4_isSheet_5 (by first | exact Or.inl rfl | exact Or.inr rfl | (split <;> simp)) ?_
  exact ⟨by first | rfl | (rw [if_pos (by omega)]) | (rw [if_neg (by omega)]) | (congr 2; omega), rfl⟩

set_option maxHeartbeats 4000000 in
set_option maxRecDepth 100000 in
theorem k_X4_isGood {K : KX} {d : Nat} {μ : Int → ME} {v : Int} : Ct K (d + 1) yX4_isGood cX4_isGood 1 (some .boolean) [vI v] μ (pF (vI (if 0 ≤ v ∧ v < 4 then 1 else 0)) μ) := by
  refine Ct.of (by decide) (Nat.le_of_ble_eq_true rfl) (fun X C => ?_)
  refine p_iload_n (pc := 0) C dX4_isGood_0 rfl ?_
  refine p_iconst (pc := 1) C dX4_isGood_1 (by decide) ?_
  refine p_callSF (pc := 2) C ln_X4_66 dX4_isGood_2 (k_X4_isBelow) rfl rfl (Nat.le_of_ble_eq_true rfl) ?_
  refine p_zret (pc := 5) C dX4_isGood_5 (by first | exact Or.inl rfl | exact Or.inr rfl | (split <;> simp)) ?_
  exact ⟨by first | rfl | (rw [if_pos (by omega)]) | (rw [if_neg (by omega)]) | (congr 2; omega), rfl⟩


set_option maxHeartbeats 4000000 in
set_option maxRecDepth 100000 in
theorem k_X4_bearingOf {K : KX} {d : Nat} {μ : Int → ME} {kd sg : Int} (h : 0 ≤ sg ∧ sg ≤ 1000) : Ct K (d) yX4_bearingOf cX4_bearingOf 2 (some .int) [vI kd, vI sg] μ (pF (vI (brg kd sg)) μ) := by
  refine Ct.of (by decide) (Nat.le_of_ble_eq_true rfl) (fun X C => ?_)
  refine p_iload_n (pc := 0) C dX4_bearingOf_0 rfl ?_
  by_cases s_1_1 : kd = 1
  · refine p_look (pc := 1) (off := 31) (tgt := 32) C dX4_bearingOf_1 (by decide) (by rw [s_1_1]; rfl) (by decide) ?_
    refine p_iload_n (pc := 32) C dX4_bearingOf_32 rfl ?_
    refine p_iconst (pc := 33) C dX4_bearingOf_33 (by decide) ?_
    refine p_iadd (pc := 34) C dX4_bearingOf_34 ⟨by omega, by omega⟩ ?_
    refine p_iret (pc := 35) C dX4_bearingOf_35 ?_
    exact ⟨sv (by unfold brg; split <;> first | omega | (split <;> omega)), rfl⟩
  by_cases s_1_2 : kd = 2
  · refine p_look (pc := 1) (off := 27) (tgt := 28) C dX4_bearingOf_1 (by decide) (by rw [s_1_2]; rfl) (by decide) ?_
    refine p_iconst (pc := 28) C dX4_bearingOf_28 (by decide) ?_
    refine p_iload_n (pc := 29) C dX4_bearingOf_29 rfl ?_
    refine p_imul (pc := 30) C dX4_bearingOf_30 ⟨by omega, by omega⟩ ?_
    refine p_iret (pc := 31) C dX4_bearingOf_31 ?_
    exact ⟨sv (by unfold brg; split <;> first | omega | (split <;> omega)), rfl⟩
  refine p_look (pc := 1) (off := 35) (tgt := 36) C dX4_bearingOf_1 (by decide) (by show (if (1 : Int) = kd then (31 : Int) else if (2 : Int) = kd then (27 : Int) else (35 : Int)) = (35 : Int); rw [if_neg (by omega), if_neg (by omega)]) (by decide) ?_
  refine p_iload_n (pc := 36) C dX4_bearingOf_36 rfl ?_
  refine p_iret (pc := 37) C dX4_bearingOf_37 ?_
  exact ⟨sv (by unfold brg; split <;> first | omega | (split <;> omega)), rfl⟩

set_option maxHeartbeats 4000000 in
set_option maxRecDepth 100000 in
theorem k_X4_worthOf {K : KX} {d : Nat} {μ : Int → ME} {v : Int} (h : 0 ≤ v ∧ v ≤ 1000) : Ct K (d) yX4_worthOf cX4_worthOf 1 (some .int) [vI v] μ (pF (vI (v + 1)) μ) := by
  refine Ct.of (by decide) (Nat.le_of_ble_eq_true rfl) (fun X C => ?_)
  refine p_iload_n (pc := 0) C dX4_worthOf_0 rfl ?_
  refine p_iconst (pc := 1) C dX4_worthOf_1 (by decide) ?_
  refine p_iadd (pc := 2) C dX4_worthOf_2 ⟨by omega, by omega⟩ ?_
  refine p_iret (pc := 3) C dX4_worthOf_3 ?_
  exact ⟨by first | rfl | (rw [if_pos (by omega)]) | (rw [if_neg (by omega)]) | (congr 2; omega), rfl⟩

set_option maxHeartbeats 4000000 in
set_option maxRecDepth 100000 in
theorem k_X4_worthOfAll {K : KX} {d : Nat} {μ : Int → ME} {a : Int} {f : Int → Int} (ha : IR a) (hm : μ a = mA 4 f) (hb : bd4 f 100) : Ct K (d + 1) yX4_worthOfAll cX4_worthOfAll 3 (some .int) [vR a] μ (pF (vI (wor f)) μ) := by
  refine Ct.of (by decide) (Nat.le_of_ble_eq_true rfl) (fun X C => ?_)
  obtain ⟨⟨b0, b1⟩, ⟨b2, b3⟩, ⟨b4, b5⟩, ⟨b6, b7⟩⟩ := hb
  refine p_iconst (pc := 0) C dX4_worthOfAll_0 (by decide) ?_
  refine p_istore_n (pc := 1) (ls' := [(1, _), (0, _)]) C dX4_worthOfAll_1 (by decide) rfl ?_
  refine p_iconst (pc := 2) C dX4_worthOfAll_2 (by decide) ?_
  refine p_istore_n (pc := 3) (ls' := [(2, _), (1, _), (0, _)]) C dX4_worthOfAll_3 (by decide) rfl ?_
  refine p_iload_n (pc := 4) C dX4_worthOfAll_4 rfl ?_
  refine p_iconst (pc := 5) C dX4_worthOfAll_5 (by decide) ?_
  refine p_icmp_ge (pc := 6) (tgt := 26) C dX4_worthOfAll_6 (by decide) (fun h => absurd h (by decide)) (fun c_6 => ?_)
  refine p_iload_n (pc := 9) C dX4_worthOfAll_9 rfl ?_
  refine p_aload_n (pc := 10) C dX4_worthOfAll_10 rfl ?_
  refine p_iload_n (pc := 11) C dX4_worthOfAll_11 rfl ?_
  refine p_iald (pc := 12) C dX4_worthOfAll_12 ha (by assumption) (by omega) ?_
  refine p_iload_n (pc := 13) C dX4_worthOfAll_13 rfl ?_
  refine p_callSF (pc := 14) C ln_X4_211 dX4_worthOfAll_14 (k_X4_worthOf (by omega)) rfl rfl (Nat.le_of_ble_eq_true rfl) ?_
  refine p_imul (pc := 17) C dX4_worthOfAll_17 ⟨by omega, by omega⟩ ?_
  refine p_iadd (pc := 18) C dX4_worthOfAll_18 ⟨by omega, by omega⟩ ?_
  refine p_istore_n (pc := 19) (ls' := [(1, _), (2, _), (0, _)]) C dX4_worthOfAll_19 (by decide) rfl ?_
  refine p_iincC (pc := 20) (w := 1) (ls' := [(2, _), (1, _), (0, _)]) C dX4_worthOfAll_20 (by decide) rfl (by decide) (by decide) rfl ?_
  refine p_goto (pc := 23) (tgt := 4) C dX4_worthOfAll_23 (by decide) ?_
  refine p_iload_n (pc := 4) C dX4_worthOfAll_4 rfl ?_
  refine p_iconst (pc := 5) C dX4_worthOfAll_5 (by decide) ?_
  refine p_icmp_ge (pc := 6) (tgt := 26) C dX4_worthOfAll_6 (by decide) (fun h => absurd h (by decide)) (fun c_6 => ?_)
  refine p_iload_n (pc := 9) C dX4_worthOfAll_9 rfl ?_
  refine p_aload_n (pc := 10) C dX4_worthOfAll_10 rfl ?_
  refine p_iload_n (pc := 11) C dX4_worthOfAll_11 rfl ?_
  refine p_iald (pc := 12) C dX4_worthOfAll_12 ha (by assumption) (by omega) ?_
  refine p_iload_n (pc := 13) C dX4_worthOfAll_13 rfl ?_
  refine p_callSF (pc := 14) C ln_X4_211 dX4_worthOfAll_14 (k_X4_worthOf (by omega)) rfl rfl (Nat.le_of_ble_eq_true rfl) ?_
  refine p_imul (pc := 17) C dX4_worthOfAll_17 ⟨by omega, by omega⟩ ?_
  refine p_iadd (pc := 18) C dX4_worthOfAll_18 ⟨by omega, by omega⟩ ?_
  refine p_istore_n (pc := 19) (ls' := [(1, _), (2, _), (0, _)]) C dX4_worthOfAll_19 (by decide) rfl ?_
  refine p_iincC (pc := 20) (w := 2) (ls' := [(2, _), (1, _), (0, _)]) C dX4_worthOfAll_20 (by decide) rfl (by decide) (by decide) rfl ?_
  refine p_goto (pc := 23) (tgt := 4) C dX4_worthOfAll_23 (by decide) ?_
  refine p_iload_n (pc := 4) C dX4_worthOfAll_4 rfl ?_
  refine p_iconst (pc := 5) C dX4_worthOfAll_5 (by decide) ?_
  refine p_icmp_ge (pc := 6) (tgt := 26) C dX4_worthOfAll_6 (by decide) (fun h => absurd h (by decide)) (fun c_6 => ?_)
  refine p_iload_n (pc := 9) C dX4_worthOfAll_9 rfl ?_
  refine p_aload_n (pc := 10) C dX4_worthOfAll_10 rfl ?_
  refine p_iload_n (pc := 11) C dX4_worthOfAll_11 rfl ?_
  refine p_iald (pc := 12) C dX4_worthOfAll_12 ha (by assumption) (by omega) ?_
  refine p_iload_n (pc := 13) C dX4_worthOfAll_13 rfl ?_
  refine p_callSF (pc := 14) C ln_X4_211 dX4_worthOfAll_14 (k_X4_worthOf (by omega)) rfl rfl (Nat.le_of_ble_eq_true rfl) ?_
  refine p_imul (pc := 17) C dX4_worthOfAll_17 ⟨by omega, by omega⟩ ?_
  refine p_iadd (pc := 18) C dX4_worthOfAll_18 ⟨by omega, by omega⟩ ?_
  refine p_istore_n (pc := 19) (ls' := [(1, _), (2, _), (0, _)]) C dX4_worthOfAll_19 (by decide) rfl ?_
  refine p_iincC (pc := 20) (w := 3) (ls' := [(2, _), (1, _), (0, _)]) C dX4_worthOfAll_20 (by decide) rfl (by decide) (by decide) rfl ?_
  refine p_goto (pc := 23) (tgt := 4) C dX4_worthOfAll_23 (by decide) ?_
  refine p_iload_n (pc := 4) C dX4_worthOfAll_4 rfl ?_
  refine p_iconst (pc := 5) C dX4_worthOfAll_5 (by decide) ?_
  refine p_icmp_ge (pc := 6) (tgt := 26) C dX4_worthOfAll_6 (by decide) (fun h => absurd h (by decide)) (fun c_6 => ?_)
  refine p_iload_n (pc := 9) C dX4_worthOfAll_9 rfl ?_
  refine p_aload_n (pc := 10) C dX4_worthOfAll_10 rfl ?_
  refine p_iload_n (pc := 11) C dX4_worthOfAll_11 rfl ?_
  refine p_iald (pc := 12) C dX4_worthOfAll_12 ha (by assumption) (by omega) ?_
  refine p_iload_n (pc := 13) C dX4_worthOfAll_13 rfl ?_
  refine p_callSF (pc := 14) C ln_X4_211 dX4_worthOfAll_14 (k_X4_worthOf (by omega)) rfl rfl (Nat.le_of_ble_eq_true rfl) ?_
  refine p_imul (pc := 17) C dX4_worthOfAll_17 ⟨by omega, by omega⟩ ?_
  refine p_iadd (pc := 18) C dX4_worthOfAll_18 ⟨by omega, by omega⟩ ?_
  refine p_istore_n (pc := 19) (ls' := [(1, _), (2, _), (0, _)]) C dX4_worthOfAll_19 (by decide) rfl ?_
  refine p_iincC (pc := 20) (w := 4) (ls' := [(2, _), (1, _), (0, _)]) C dX4_worthOfAll_20 (by decide) rfl (by decide) (by decide) rfl ?_
  refine p_goto (pc := 23) (tgt := 4) C dX4_worthOfAll_23 (by decide) ?_
  refine p_iload_n (pc := 4) C dX4_worthOfAll_4 rfl ?_
  refine p_iconst (pc := 5) C dX4_worthOfAll_5 (by decide) ?_
  refine p_icmp_ge (pc := 6) (tgt := 26) C dX4_worthOfAll_6 (by decide) (fun c_6 => ?_) (fun h => absurd h (by decide))
  refine p_iload_n (pc := 26) C dX4_worthOfAll_26 rfl ?_
  refine p_iret (pc := 27) C dX4_worthOfAll_27 ?_
  exact ⟨sv (by first | rfl | (simp only [brg, wor, pcs, gtg]; omega)), rfl⟩

set_option maxHeartbeats 4000000 in
set_option maxRecDepth 100000 in
theorem k_X4_isDigit {K : KX} {d : Nat} {μ : Int → ME} {v e : Int} (h : 0 ≤ e ∧ e ≤ 100) : Ct K (d) yX4_isDigit cX4_isDigit 2 (some .boolean) [vI v, vI e] μ (pF (vI (if 48 ≤ v ∧ v < 48 + e then 1 else 0)) μ) := by
  refine Ct.of (by decide) (Nat.le_of_ble_eq_true rfl) (fun X C => ?_)
  refine p_iload_n (pc := 0) C dX4_isDigit_0 rfl ?_
  refine p_bipush (pc := 1) C dX4_isDigit_1 (by decide) ?_
  refine p_icmp_lt (pc := 3) (tgt := 18) C dX4_isDigit_3 (by decide) (fun c_3 => ?_) (fun c_3 => ?_)
  · refine p_iconst (pc := 18) C dX4_isDigit_18 (by decide) ?_
    refine p_zret (pc := 19) C dX4_isDigit_19 (by first | exact Or.inl rfl | exact Or.inr rfl | (split <;> simp)) ?_
    exact ⟨by first | rfl | (rw [if_pos (by omega)]) | (rw [if_neg (by omega)]) | (congr 2; omega), rfl⟩
  · refine p_iload_n (pc := 6) C dX4_isDigit_6 rfl ?_
    refine p_bipush (pc := 7) C dX4_isDigit_7 (by decide) ?_
    refine p_iload_n (pc := 9) C dX4_isDigit_9 rfl ?_
    refine p_iadd (pc := 10) C dX4_isDigit_10 ⟨by omega, by omega⟩ ?_
    refine p_icmp_ge (pc := 11) (tgt := 18) C dX4_isDigit_11 (by decide) (fun c_11 => ?_) (fun c_11 => ?_)
    · refine p_iconst (pc := 18) C dX4_isDigit_18 (by decide) ?_
      refine p_zret (pc := 19) C dX4_isDigit_19 (by first | exact Or.inl rfl | exact Or.inr rfl | (split <;> simp)) ?_
      exact ⟨by first | rfl | (rw [if_pos (by omega)]) | (rw [if_neg (by omega)]) | (congr 2; omega), rfl⟩
    · refine p_iconst (pc := 14) C dX4_isDigit_14 (by decide) ?_
      refine p_goto (pc := 15) (tgt := 19) C dX4_isDigit_15 (by decide) ?_
      refine p_zret (pc := 19) C dX4_isDigit_19 (by first | exact Or.inl rfl | exact Or.inr rfl | (split <;> simp)) ?_
      exact ⟨by first | rfl | (rw [if_pos (by omega)]) | (rw [if_neg (by omega)]) | (congr 2; omega), rfl⟩

set_option maxHeartbeats 4000000 in
set_option maxRecDepth 100000 in
theorem k_X4_kindByCode {K : KX} {d : Nat} {μ : Int → ME} {v : Int} : Ct K (d) yX4_kindByCode cX4_kindByCode 1 (some .int) [vI v] μ (pF (vI (if v = 98 then 0 else if v = 99 then 1 else if v = 115 then 2 else -9)) μ) := by
  refine Ct.of (by decide) (Nat.le_of_ble_eq_true rfl) (fun X C => ?_)
  refine p_iload_n (pc := 0) C dX4_kindByCode_0 rfl ?_
  by_cases s_1_98 : v = 98
  · refine p_look (pc := 1) (off := 35) (tgt := 36) C dX4_kindByCode_1 (by decide) (by rw [s_1_98]; rfl) (by decide) ?_
    refine p_iconst (pc := 36) C dX4_kindByCode_36 (by decide) ?_
    refine p_iret (pc := 37) C dX4_kindByCode_37 ?_
    exact ⟨sv (by split <;> first | omega | (split <;> first | omega | (split <;> omega))), rfl⟩
  by_cases s_1_99 : v = 99
  · refine p_look (pc := 1) (off := 37) (tgt := 38) C dX4_kindByCode_1 (by decide) (by rw [s_1_99]; rfl) (by decide) ?_
    refine p_iconst (pc := 38) C dX4_kindByCode_38 (by decide) ?_
    refine p_iret (pc := 39) C dX4_kindByCode_39 ?_
    exact ⟨sv (by split <;> first | omega | (split <;> first | omega | (split <;> omega))), rfl⟩
  by_cases s_1_115 : v = 115
  · refine p_look (pc := 1) (off := 39) (tgt := 40) C dX4_kindByCode_1 (by decide) (by rw [s_1_115]; rfl) (by decide) ?_
    refine p_iconst (pc := 40) C dX4_kindByCode_40 (by decide) ?_
    refine p_iret (pc := 41) C dX4_kindByCode_41 ?_
    exact ⟨sv (by split <;> first | omega | (split <;> first | omega | (split <;> omega))), rfl⟩
  refine p_look (pc := 1) (off := 41) (tgt := 42) C dX4_kindByCode_1 (by decide) (by show (if (98 : Int) = v then (35 : Int) else if (99 : Int) = v then (37 : Int) else if (115 : Int) = v then (39 : Int) else (41 : Int)) = (41 : Int); rw [if_neg (by omega), if_neg (by omega), if_neg (by omega)]) (by decide) ?_
  refine p_bipush (pc := 42) C dX4_kindByCode_42 (by decide) ?_
  refine p_iret (pc := 44) C dX4_kindByCode_44 ?_
  exact ⟨sv (by split <;> first | omega | (split <;> first | omega | (split <;> omega))), rfl⟩

set_option maxHeartbeats 4000000 in
set_option maxRecDepth 100000 in
theorem k_X4_cutTo {K : KX} {d : Nat} {μ : Int → ME} {ln v : Int} : Ct K (d) yX4_cutTo cX4_cutTo 2 (some .int) [vI ln, vI v] μ (pF (vI (if ln = 0 then i2b v else if ln = 1 then i2s v else v)) μ) := by
  refine Ct.of (by decide) (Nat.le_of_ble_eq_true rfl) (fun X C => ?_)
  refine p_iload_n (pc := 0) C dX4_cutTo_0 rfl ?_
  by_cases s_1_0 : ln = 0
  · refine p_look (pc := 1) (off := 27) (tgt := 28) C dX4_cutTo_1 (by decide) (by rw [s_1_0]; rfl) (by decide) ?_
    refine p_iload_n (pc := 28) C dX4_cutTo_28 rfl ?_
    refine p_i2b (pc := 29) C dX4_cutTo_29 ?_
    refine p_iret (pc := 30) C dX4_cutTo_30 ?_
    exact ⟨sv (by first | rw [if_pos (by omega)] | rw [if_neg (by omega), if_pos (by omega)] | rw [if_neg (by omega), if_neg (by omega)]), rfl⟩
  by_cases s_1_1 : ln = 1
  · refine p_look (pc := 1) (off := 30) (tgt := 31) C dX4_cutTo_1 (by decide) (by rw [s_1_1]; rfl) (by decide) ?_
    refine p_iload_n (pc := 31) C dX4_cutTo_31 rfl ?_
    refine p_i2s (pc := 32) C dX4_cutTo_32 ?_
    refine p_iret (pc := 33) C dX4_cutTo_33 ?_
    exact ⟨sv (by first | rw [if_pos (by omega)] | rw [if_neg (by omega), if_pos (by omega)] | rw [if_neg (by omega), if_neg (by omega)]), rfl⟩
  refine p_look (pc := 1) (off := 33) (tgt := 34) C dX4_cutTo_1 (by decide) (by show (if (0 : Int) = ln then (27 : Int) else if (1 : Int) = ln then (30 : Int) else (33 : Int)) = (33 : Int); rw [if_neg (by omega), if_neg (by omega)]) (by decide) ?_
  refine p_iload_n (pc := 34) C dX4_cutTo_34 rfl ?_
  refine p_iret (pc := 35) C dX4_cutTo_35 ?_
  exact ⟨sv (by first | rw [if_pos (by omega)] | rw [if_neg (by omega), if_pos (by omega)] | rw [if_neg (by omega), if_neg (by omega)]), rfl⟩

set_option maxHeartbeats 4000000 in
set_option maxRecDepth 100000 in
theorem k_X4_isShip {K : KX} {d : Nat} {μ : Int → ME} {k : Int} {np ns day nr tr fl : Int} (h0 : μ 0 = oY np ns day nr tr fl) : Ct K (d + 1) yX4_isShip cX4_isShip 2 (some .boolean) [vR 0, vI k] μ (pF (vI (if 0 ≤ k ∧ k < ns then 1 else 0)) μ) := by
  refine Ct.of (by decide) (Nat.le_of_ble_eq_true rfl) (fun X C => ?_)
  refine p_iload_n (pc := 0) C dX4_isShip_0 rfl ?_
  refine p_aload_n (pc := 1) C dX4_isShip_1 rfl ?_
  refine p_get (pc := 2) C fl_X4_86 dX4_isShip_2 ⟨by omega, by omega⟩ (by assumption) (by rfl) ?_
  refine p_callSF (pc := 5) C ln_X4_66 dX4_isShip_5 (k_X4_isBelow) rfl rfl (Nat.le_of_ble_eq_true rfl) ?_
  refine p_zret (pc := 8) C dX4_isShip_8 (by first | exact Or.inl rfl | exact Or.inr rfl | (split <;> simp)) ?_
  exact ⟨by first | rfl | (rw [if_pos (by omega)]) | (rw [if_neg (by omega)]) | (congr 2; omega), rfl⟩

set_option maxHeartbeats 4000000 in
set_option maxRecDepth 100000 in
theorem k_X4_isPort {K : KX} {d : Nat} {μ : Int → ME} {k : Int} {np ns day nr tr fl : Int} (h0 : μ 0 = oY np ns day nr tr fl) : Ct K (d + 1) yX4_isPort cX4_isPort 2 (some .boolean) [vR 0, vI k] μ (pF (vI (if 0 ≤ k ∧ k < np then 1 else 0)) μ) := by
  refine Ct.of (by decide) (Nat.le_of_ble_eq_true rfl) (fun X C => ?_)
  refine p_iload_n (pc := 0) C dX4_isPort_0 rfl ?_
  refine p_aload_n (pc := 1) C dX4_isPort_1 rfl ?_
  refine p_get (pc := 2) C fl_X4_162 dX4_isPort_2 ⟨by omega, by omega⟩ (by assumption) (by rfl) ?_
  refine p_callSF (pc := 5) C ln_X4_66 dX4_isPort_5 (k_X4_isBelow) rfl rfl (Nat.le_of_ble_eq_true rfl) ?_
  refine p_zret (pc := 8) C dX4_isPort_8 (by first | exact Or.inl rfl | exact Or.inr rfl | (split <;> simp)) ?_
  exact ⟨by first | rfl | (rw [if_pos (by omega)]) | (rw [if_neg (by omega)]) | (congr 2; omega), rfl⟩

set_option maxHeartbeats 4000000 in
set_option maxRecDepth 100000 in
theorem k_X4_hasSea {K : KX} {d : Nat} {μ : Int → ME} {np ns day nr tr fl : Int} (h0 : μ 0 = oY np ns day nr tr fl) : Ct K (d) yX4_hasSea cX4_hasSea 1 (some .boolean) [vR 0] μ (pF (vI (if 0 < ns then 1 else 0)) μ) := by
  refine Ct.of (by decide) (Nat.le_of_ble_eq_true rfl) (fun X C => ?_)
  refine p_aload_n (pc := 0) C dX4_hasSea_0 rfl ?_
  refine p_get (pc := 1) C fl_X4_86 dX4_hasSea_1 ⟨by omega, by omega⟩ (by assumption) (by rfl) ?_
  refine p_if_le (pc := 4) (tgt := 11) C dX4_hasSea_4 (by decide) (fun c_4 => ?_) (fun c_4 => ?_)
  · refine p_iconst (pc := 11) C dX4_hasSea_11 (by decide) ?_
    refine p_zret (pc := 12) C dX4_hasSea_12 (by first | exact Or.inl rfl | exact Or.inr rfl | (split <;> simp)) ?_
    exact ⟨by first | rfl | (rw [if_pos (by omega)]) | (rw [if_neg (by omega)]) | (congr 2; omega), rfl⟩
  · refine p_iconst (pc := 7) C dX4_hasSea_7 (by decide) ?_
    refine p_goto (pc := 8) (tgt := 12) C dX4_hasSea_8 (by decide) ?_
    refine p_zret (pc := 12) C dX4_hasSea_12 (by first | exact Or.inl rfl | exact Or.inr rfl | (split <;> simp)) ?_
    exact ⟨by first | rfl | (rw [if_pos (by omega)]) | (rw [if_neg (by omega)]) | (congr 2; omega), rfl⟩

set_option maxHeartbeats 4000000 in
set_option maxRecDepth 100000 in
theorem k_X4_portBehind {K : KX} {d : Nat} {μ : Int → ME} {p : Int} (hp : 0 ≤ p ∧ p ≤ 100) {np ns day nr tr fl : Int} (h0 : μ 0 = oY np ns day nr tr fl) : Ct K (d) yX4_portBehind cX4_portBehind 2 (some .int) [vR 0, vI p] μ (pF (vI (if p + 1 < np then p + 1 else 0)) μ) := by
  refine Ct.of (by decide) (Nat.le_of_ble_eq_true rfl) (fun X C => ?_)
  refine p_iload_n (pc := 0) C dX4_portBehind_0 rfl ?_
  refine p_iconst (pc := 1) C dX4_portBehind_1 (by decide) ?_
  refine p_iadd (pc := 2) C dX4_portBehind_2 ⟨by omega, by omega⟩ ?_
  refine p_aload_n (pc := 3) C dX4_portBehind_3 rfl ?_
  refine p_get (pc := 4) C fl_X4_162 dX4_portBehind_4 ⟨by omega, by omega⟩ (by assumption) (by rfl) ?_
  refine p_icmp_ge (pc := 7) (tgt := 16) C dX4_portBehind_7 (by decide) (fun c_7 => ?_) (fun c_7 => ?_)
  · refine p_iconst (pc := 16) C dX4_portBehind_16 (by decide) ?_
    refine p_iret (pc := 17) C dX4_portBehind_17 ?_
    exact ⟨by first | rfl | (rw [if_pos (by omega)]) | (rw [if_neg (by omega)]) | (congr 2; omega), rfl⟩
  · refine p_iload_n (pc := 10) C dX4_portBehind_10 rfl ?_
    refine p_iconst (pc := 11) C dX4_portBehind_11 (by decide) ?_
    refine p_iadd (pc := 12) C dX4_portBehind_12 ⟨by omega, by omega⟩ ?_
    refine p_goto (pc := 13) (tgt := 17) C dX4_portBehind_13 (by decide) ?_
    refine p_iret (pc := 17) C dX4_portBehind_17 ?_
    exact ⟨by first | rfl | (rw [if_pos (by omega)]) | (rw [if_neg (by omega)]) | (congr 2; omega), rfl⟩

set_option maxHeartbeats 4000000 in
set_option maxRecDepth 100000 in
theorem k_X4_faulted {K : KX} {d : Nat} {μ : Int → ME} {v : Int} (hv : 0 ≤ v ∧ v ≤ 100) {np ns day nr tr fl : Int} (h0 : μ 0 = oY np ns day nr tr fl) : Ct K (d) yX4_faulted cX4_faulted 2 (some .int) [vR 0, vI v] μ (pF (vI (-10 - v)) (mup μ 0 (oY np ns day nr tr v))) := by
  refine Ct.of (by decide) (Nat.le_of_ble_eq_true rfl) (fun X C => ?_)
  refine p_aload_n (pc := 0) C dX4_faulted_0 rfl ?_
  refine p_iload_n (pc := 1) C dX4_faulted_1 rfl ?_
  refine p_put (pc := 2) C fp_X4_58 dX4_faulted_2 ⟨by omega, by omega⟩ (by assumption) (by exact Nat.le_of_ble_eq_true rfl) ?_
  refine p_bipush (pc := 5) C dX4_faulted_5 (by decide) ?_
  refine p_iload_n (pc := 7) C dX4_faulted_7 rfl ?_
  refine p_isub (pc := 8) C dX4_faulted_8 ⟨by omega, by omega⟩ ?_
  refine p_iret (pc := 9) C dX4_faulted_9 ?_
  exact ⟨by first | rfl | (rw [if_pos (by omega)]) | (rw [if_neg (by omega)]) | (congr 2; omega), rfl⟩

set_option maxHeartbeats 4000000 in
set_option maxRecDepth 100000 in
theorem k_X4_leave {K : KX} {d : Nat} {μ : Int → ME} {v : Int} {np ns day nr tr fl : Int} (h0 : μ 0 = oY np ns day nr tr fl) : Ct K (d) yX4_leave cX4_leave 2 none [vR 0, vI v] μ (pU (mup μ 0 (oY np ns day nr (iwr (iwr (31 * tr) + v)) fl))) := by
  refine Ct.of (by decide) (Nat.le_of_ble_eq_true rfl) (fun X C => ?_)
  refine p_aload_n (pc := 0) C dX4_leave_0 rfl ?_
  refine p_bipush (pc := 1) C dX4_leave_1 (by decide) ?_
  refine p_aload_n (pc := 3) C dX4_leave_3 rfl ?_
  refine p_get (pc := 4) C fl_X4_255 dX4_leave_4 ⟨by omega, by omega⟩ (by assumption) (by rfl) ?_
  refine p_imulw (pc := 7) C dX4_leave_7 ?_
  refine p_iload_n (pc := 8) C dX4_leave_8 rfl ?_
  refine p_iaddw (pc := 9) C dX4_leave_9 ?_
  refine p_put (pc := 10) C fp_X4_255 dX4_leave_10 ⟨by omega, by omega⟩ (by assumption) (by exact Nat.le_of_ble_eq_true rfl) ?_
  refine p_vret (pc := 13) C dX4_leave_13 ?_
  exact ⟨rfl, rfl⟩

set_option maxHeartbeats 4000000 in
set_option maxRecDepth 100000 in
theorem k_X1_bearing {K : KX} {d : Nat} {μ : Int → ME} {a c kd nm sg pt : Int} (ha : IR a) (h1 : μ a = oS kd nm sg pt c) (hs : 0 ≤ sg ∧ sg ≤ 1000) : Ct K (d + 1) yX1_bearing cX1_bearing 1 (some .int) [vR a] μ (pF (vI (brg kd sg)) μ) := by
  refine Ct.of (by decide) (Nat.le_of_ble_eq_true rfl) (fun X C => ?_)
  refine p_aload_n (pc := 0) C dX1_bearing_0 rfl ?_
  refine p_get (pc := 1) C fl_X1_15 dX1_bearing_1 ⟨by omega, by omega⟩ (by assumption) (by rfl) ?_
  refine p_aload_n (pc := 4) C dX1_bearing_4 rfl ?_
  refine p_get (pc := 5) C fl_X1_19 dX1_bearing_5 ⟨by omega, by omega⟩ (by assumption) (by rfl) ?_
  refine p_callNF (pc := 8) C ln_X1_22 dX1_bearing_8 (k_X4_bearingOf (by omega)) rfl rfl (Nat.le_of_ble_eq_true rfl) ?_
  refine p_iret (pc := 11) C dX1_bearing_11 ?_
  exact ⟨by first | rfl | (rw [if_pos (by omega)]) | (rw [if_neg (by omega)]) | (congr 2; omega), rfl⟩

set_option maxHeartbeats 4000000 in
set_option maxRecDepth 100000 in
theorem k_X1_isMet {K : KX} {d : Nat} {μ : Int → ME} {a c kd nm sg pt : Int} (ha : IR a) (h1 : μ a = oS kd nm sg pt c) {f : Int → Int} (hc : IR c) (h2 : μ c = mA 4 f) (hn : 0 ≤ nm ∧ nm < 4) : Ct K (d) yX1_isMet cX1_isMet 1 (some .boolean) [vR a] μ (pF (vI (if f nm = 0 then 1 else 0)) μ) := by
  refine Ct.of (by decide) (Nat.le_of_ble_eq_true rfl) (fun X C => ?_)
  refine p_aload_n (pc := 0) C dX1_isMet_0 rfl ?_
  refine p_get (pc := 1) C fl_X1_9 dX1_isMet_1 (by first | exact ha | exact hc) (by assumption) (by rfl) ?_
  refine p_aload_n (pc := 4) C dX1_isMet_4 rfl ?_
  refine p_get (pc := 5) C fl_X1_26 dX1_isMet_5 (by first | exact ha | exact hc) (by assumption) (by rfl) ?_
  refine p_iald (pc := 8) C dX1_isMet_8 (by first | exact ha | exact hc) (by assumption) (by omega) ?_
  refine p_if_ne (pc := 9) (tgt := 16) C dX1_isMet_9 (by decide) (fun c_9 => ?_) (fun c_9 => ?_)
  · refine p_iconst (pc := 16) C dX1_isMet_16 (by decide) ?_
    refine p_zret (pc := 17) C dX1_isMet_17 (by first | exact Or.inl rfl | exact Or.inr rfl | (split <;> simp)) ?_
    exact ⟨by first | rfl | (rw [if_pos (by omega)]) | (rw [if_neg (by omega)]) | (congr 2; omega), rfl⟩
  · refine p_iconst (pc := 12) C dX1_isMet_12 (by decide) ?_
    refine p_goto (pc := 13) (tgt := 17) C dX1_isMet_13 (by decide) ?_
    refine p_zret (pc := 17) C dX1_isMet_17 (by first | exact Or.inl rfl | exact Or.inr rfl | (split <;> simp)) ?_
    exact ⟨by first | rfl | (rw [if_pos (by omega)]) | (rw [if_neg (by omega)]) | (congr 2; omega), rfl⟩

set_option maxHeartbeats 4000000 in
set_option maxRecDepth 100000 in
theorem k_X1_worth {K : KX} {d : Nat} {μ : Int → ME} {a c kd nm sg pt : Int} (ha : IR a) (h1 : μ a = oS kd nm sg pt c) {f : Int → Int} (hc : IR c) (h2 : μ c = mA 4 f) (hb : bd4 f 100) : Ct K (d + 2) yX1_worth cX1_worth 1 (some .int) [vR a] μ (pF (vI (wor f)) μ) := by
  refine Ct.of (by decide) (Nat.le_of_ble_eq_true rfl) (fun X C => ?_)
  refine p_aload_n (pc := 0) C dX1_worth_0 rfl ?_
  refine p_get (pc := 1) C fl_X1_9 dX1_worth_1 ha (by assumption) (by rfl) ?_
  refine p_callNF (pc := 4) C ln_X1_29 dX1_worth_4 (k_X4_worthOfAll hc h2 hb) rfl rfl (Nat.le_of_ble_eq_true rfl) ?_
  refine p_iret (pc := 7) C dX1_worth_7 ?_
  exact ⟨by first | rfl | (rw [if_pos (by omega)]) | (rw [if_neg (by omega)]) | (congr 2; omega), rfl⟩

set_option maxHeartbeats 4000000 in
set_option maxRecDepth 100000 in
theorem k_X1_pieces {K : KX} {d : Nat} {μ : Int → ME} {a c kd nm sg pt : Int} (ha : IR a) (h1 : μ a = oS kd nm sg pt c) {f : Int → Int} (hc : IR c) (h2 : μ c = mA 4 f) (hb : bd4 f 100) : Ct K (d) yX1_pieces cX1_pieces 3 (some .int) [vR a] μ (pF (vI (pcs f)) μ) := by
  refine Ct.of (by decide) (Nat.le_of_ble_eq_true rfl) (fun X C => ?_)
  obtain ⟨⟨b0, b1⟩, ⟨b2, b3⟩, ⟨b4, b5⟩, ⟨b6, b7⟩⟩ := hb
  refine p_iconst (pc := 0) C dX1_pieces_0 (by decide) ?_
  refine p_istore_n (pc := 1) (ls' := [(1, _), (0, _)]) C dX1_pieces_1 (by decide) rfl ?_
  refine p_iconst (pc := 2) C dX1_pieces_2 (by decide) ?_
  refine p_istore_n (pc := 3) (ls' := [(2, _), (1, _), (0, _)]) C dX1_pieces_3 (by decide) rfl ?_
  refine p_iload_n (pc := 4) C dX1_pieces_4 rfl ?_
  refine p_iconst (pc := 5) C dX1_pieces_5 (by decide) ?_
  refine p_icmp_ge (pc := 6) (tgt := 24) C dX1_pieces_6 (by decide) (fun h => absurd h (by decide)) (fun c_6 => ?_)
  refine p_iload_n (pc := 9) C dX1_pieces_9 rfl ?_
  refine p_aload_n (pc := 10) C dX1_pieces_10 rfl ?_
  refine p_get (pc := 11) C fl_X1_9 dX1_pieces_11 (by first | exact ha | exact hc) (by assumption) (by rfl) ?_
  refine p_iload_n (pc := 14) C dX1_pieces_14 rfl ?_
  refine p_iald (pc := 15) C dX1_pieces_15 (by first | exact ha | exact hc) (by assumption) (by omega) ?_
  refine p_iadd (pc := 16) C dX1_pieces_16 ⟨by omega, by omega⟩ ?_
  refine p_istore_n (pc := 17) (ls' := [(1, _), (2, _), (0, _)]) C dX1_pieces_17 (by decide) rfl ?_
  refine p_iincC (pc := 18) (w := 1) (ls' := [(2, _), (1, _), (0, _)]) C dX1_pieces_18 (by decide) rfl (by decide) (by decide) rfl ?_
  refine p_goto (pc := 21) (tgt := 4) C dX1_pieces_21 (by decide) ?_
  refine p_iload_n (pc := 4) C dX1_pieces_4 rfl ?_
  refine p_iconst (pc := 5) C dX1_pieces_5 (by decide) ?_
  refine p_icmp_ge (pc := 6) (tgt := 24) C dX1_pieces_6 (by decide) (fun h => absurd h (by decide)) (fun c_6 => ?_)
  refine p_iload_n (pc := 9) C dX1_pieces_9 rfl ?_
  refine p_aload_n (pc := 10) C dX1_pieces_10 rfl ?_
  refine p_get (pc := 11) C fl_X1_9 dX1_pieces_11 (by first | exact ha | exact hc) (by assumption) (by rfl) ?_
  refine p_iload_n (pc := 14) C dX1_pieces_14 rfl ?_
  refine p_iald (pc := 15) C dX1_pieces_15 (by first | exact ha | exact hc) (by assumption) (by omega) ?_
  refine p_iadd (pc := 16) C dX1_pieces_16 ⟨by omega, by omega⟩ ?_
  refine p_istore_n (pc := 17) (ls' := [(1, _), (2, _), (0, _)]) C dX1_pieces_17 (by decide) rfl ?_
  refine p_iincC (pc := 18) (w := 2) (ls' := [(2, _), (1, _), (0, _)]) C dX1_pieces_18 (by decide) rfl (by decide) (by decide) rfl ?_
  refine p_goto (pc := 21) (tgt := 4) C dX1_pieces_21 (by decide) ?_
  refine p_iload_n (pc := 4) C dX1_pieces_4 rfl ?_
  refine p_iconst (pc := 5) C dX1_pieces_5 (by decide) ?_
  refine p_icmp_ge (pc := 6) (tgt := 24) C dX1_pieces_6 (by decide) (fun h => absurd h (by decide)) (fun c_6 => ?_)
  refine p_iload_n (pc := 9) C dX1_pieces_9 rfl ?_
  refine p_aload_n (pc := 10) C dX1_pieces_10 rfl ?_
  refine p_get (pc := 11) C fl_X1_9 dX1_pieces_11 (by first | exact ha | exact hc) (by assumption) (by rfl) ?_
  refine p_iload_n (pc := 14) C dX1_pieces_14 rfl ?_
  refine p_iald (pc := 15) C dX1_pieces_15 (by first | exact ha | exact hc) (by assumption) (by omega) ?_
  refine p_iadd (pc := 16) C dX1_pieces_16 ⟨by omega, by omega⟩ ?_
  refine p_istore_n (pc := 17) (ls' := [(1, _), (2, _), (0, _)]) C dX1_pieces_17 (by decide) rfl ?_
  refine p_iincC (pc := 18) (w := 3) (ls' := [(2, _), (1, _), (0, _)]) C dX1_pieces_18 (by decide) rfl (by decide) (by decide) rfl ?_
  refine p_goto (pc := 21) (tgt := 4) C dX1_pieces_21 (by decide) ?_
  refine p_iload_n (pc := 4) C dX1_pieces_4 rfl ?_
  refine p_iconst (pc := 5) C dX1_pieces_5 (by decide) ?_
  refine p_icmp_ge (pc := 6) (tgt := 24) C dX1_pieces_6 (by decide) (fun h => absurd h (by decide)) (fun c_6 => ?_)
  refine p_iload_n (pc := 9) C dX1_pieces_9 rfl ?_
  refine p_aload_n (pc := 10) C dX1_pieces_10 rfl ?_
  refine p_get (pc := 11) C fl_X1_9 dX1_pieces_11 (by first | exact ha | exact hc) (by assumption) (by rfl) ?_
  refine p_iload_n (pc := 14) C dX1_pieces_14 rfl ?_
  refine p_iald (pc := 15) C dX1_pieces_15 (by first | exact ha | exact hc) (by assumption) (by omega) ?_
  refine p_iadd (pc := 16) C dX1_pieces_16 ⟨by omega, by omega⟩ ?_
  refine p_istore_n (pc := 17) (ls' := [(1, _), (2, _), (0, _)]) C dX1_pieces_17 (by decide) rfl ?_
  refine p_iincC (pc := 18) (w := 4) (ls' := [(2, _), (1, _), (0, _)]) C dX1_pieces_18 (by decide) rfl (by decide) (by decide) rfl ?_
  refine p_goto (pc := 21) (tgt := 4) C dX1_pieces_21 (by decide) ?_
  refine p_iload_n (pc := 4) C dX1_pieces_4 rfl ?_
  refine p_iconst (pc := 5) C dX1_pieces_5 (by decide) ?_
  refine p_icmp_ge (pc := 6) (tgt := 24) C dX1_pieces_6 (by decide) (fun c_6 => ?_) (fun h => absurd h (by decide))
  refine p_iload_n (pc := 24) C dX1_pieces_24 rfl ?_
  refine p_iret (pc := 25) C dX1_pieces_25 ?_
  exact ⟨sv (by first | rfl | (simp only [brg, wor, pcs, gtg]; omega)), rfl⟩

set_option maxHeartbeats 4000000 in
set_option maxRecDepth 100000 in
theorem k_X1_goodThatGoes {K : KX} {d : Nat} {μ : Int → ME} {a c kd nm sg pt : Int} (ha : IR a) (h1 : μ a = oS kd nm sg pt c) {f : Int → Int} (hc : IR c) (h2 : μ c = mA 4 f) (hn : 0 ≤ nm ∧ nm < 4) : Ct K (d + 1) yX1_goodThatGoes cX1_goodThatGoes 2 (some .int) [vR a] μ (pF (vI (gtg f nm)) μ) := by
  refine Ct.of (by decide) (Nat.le_of_ble_eq_true rfl) (fun X C => ?_)
  refine p_aload_n (pc := 0) C dX1_goodThatGoes_0 rfl ?_
  refine p_callVF (pc := 1) C ln_X1_33 dX1_goodThatGoes_1 (k_X1_isMet ha h1 hc h2 hn) (by first | exact ha | exact hc) (by assumption) rfl rfl rfl rfl (Nat.le_of_ble_eq_true rfl) ?_
  refine p_ifne_b (pc := 4) (tgt := 12) C dX1_goodThatGoes_4 (by decide) (fun c_4 => ?_) (fun c_4 => ?_)
  · refine p_iconst (pc := 12) C dX1_goodThatGoes_12 (by decide) ?_
    refine p_istore_n (pc := 13) (ls' := [(1, _), (0, _)]) C dX1_goodThatGoes_13 (by decide) rfl ?_
    refine p_iload_n (pc := 14) C dX1_goodThatGoes_14 rfl ?_
    refine p_iconst (pc := 15) C dX1_goodThatGoes_15 (by decide) ?_
    refine p_icmp_ge (pc := 16) (tgt := 36) C dX1_goodThatGoes_16 (by decide) (fun h => absurd h (by decide)) (fun c_16 => ?_)
    refine p_aload_n (pc := 19) C dX1_goodThatGoes_19 rfl ?_
    refine p_get (pc := 20) C fl_X1_9 dX1_goodThatGoes_20 (by first | exact ha | exact hc) (by assumption) (by rfl) ?_
    refine p_iload_n (pc := 23) C dX1_goodThatGoes_23 rfl ?_
    refine p_iald (pc := 24) C dX1_goodThatGoes_24 (by first | exact ha | exact hc) (by assumption) (by omega) ?_
    refine p_if_le (pc := 25) (tgt := 30) C dX1_goodThatGoes_25 (by decide) (fun c_25 => ?_) (fun c_25 => ?_)
    · refine p_iincC (pc := 30) (w := 1) (ls' := [(1, _), (0, _)]) C dX1_goodThatGoes_30 (by decide) rfl (by decide) (by decide) rfl ?_
      refine p_goto (pc := 33) (tgt := 14) C dX1_goodThatGoes_33 (by decide) ?_
      refine p_iload_n (pc := 14) C dX1_goodThatGoes_14 rfl ?_
      refine p_iconst (pc := 15) C dX1_goodThatGoes_15 (by decide) ?_
      refine p_icmp_ge (pc := 16) (tgt := 36) C dX1_goodThatGoes_16 (by decide) (fun h => absurd h (by decide)) (fun c_16 => ?_)
      refine p_aload_n (pc := 19) C dX1_goodThatGoes_19 rfl ?_
      refine p_get (pc := 20) C fl_X1_9 dX1_goodThatGoes_20 (by first | exact ha | exact hc) (by assumption) (by rfl) ?_
      refine p_iload_n (pc := 23) C dX1_goodThatGoes_23 rfl ?_
      refine p_iald (pc := 24) C dX1_goodThatGoes_24 (by first | exact ha | exact hc) (by assumption) (by omega) ?_
      refine p_if_le (pc := 25) (tgt := 30) C dX1_goodThatGoes_25 (by decide) (fun c_25 => ?_) (fun c_25 => ?_)
      · refine p_iincC (pc := 30) (w := 2) (ls' := [(1, _), (0, _)]) C dX1_goodThatGoes_30 (by decide) rfl (by decide) (by decide) rfl ?_
        refine p_goto (pc := 33) (tgt := 14) C dX1_goodThatGoes_33 (by decide) ?_
        refine p_iload_n (pc := 14) C dX1_goodThatGoes_14 rfl ?_
        refine p_iconst (pc := 15) C dX1_goodThatGoes_15 (by decide) ?_
        refine p_icmp_ge (pc := 16) (tgt := 36) C dX1_goodThatGoes_16 (by decide) (fun h => absurd h (by decide)) (fun c_16 => ?_)
        refine p_aload_n (pc := 19) C dX1_goodThatGoes_19 rfl ?_
        refine p_get (pc := 20) C fl_X1_9 dX1_goodThatGoes_20 (by first | exact ha | exact hc) (by assumption) (by rfl) ?_
        refine p_iload_n (pc := 23) C dX1_goodThatGoes_23 rfl ?_
        refine p_iald (pc := 24) C dX1_goodThatGoes_24 (by first | exact ha | exact hc) (by assumption) (by omega) ?_
        refine p_if_le (pc := 25) (tgt := 30) C dX1_goodThatGoes_25 (by decide) (fun c_25 => ?_) (fun c_25 => ?_)
        · refine p_iincC (pc := 30) (w := 3) (ls' := [(1, _), (0, _)]) C dX1_goodThatGoes_30 (by decide) rfl (by decide) (by decide) rfl ?_
          refine p_goto (pc := 33) (tgt := 14) C dX1_goodThatGoes_33 (by decide) ?_
          refine p_iload_n (pc := 14) C dX1_goodThatGoes_14 rfl ?_
          refine p_iconst (pc := 15) C dX1_goodThatGoes_15 (by decide) ?_
          refine p_icmp_ge (pc := 16) (tgt := 36) C dX1_goodThatGoes_16 (by decide) (fun h => absurd h (by decide)) (fun c_16 => ?_)
          refine p_aload_n (pc := 19) C dX1_goodThatGoes_19 rfl ?_
          refine p_get (pc := 20) C fl_X1_9 dX1_goodThatGoes_20 (by first | exact ha | exact hc) (by assumption) (by rfl) ?_
          refine p_iload_n (pc := 23) C dX1_goodThatGoes_23 rfl ?_
          refine p_iald (pc := 24) C dX1_goodThatGoes_24 (by first | exact ha | exact hc) (by assumption) (by omega) ?_
          refine p_if_le (pc := 25) (tgt := 30) C dX1_goodThatGoes_25 (by decide) (fun c_25 => ?_) (fun c_25 => ?_)
          · refine p_iincC (pc := 30) (w := 4) (ls' := [(1, _), (0, _)]) C dX1_goodThatGoes_30 (by decide) rfl (by decide) (by decide) rfl ?_
            refine p_goto (pc := 33) (tgt := 14) C dX1_goodThatGoes_33 (by decide) ?_
            refine p_iload_n (pc := 14) C dX1_goodThatGoes_14 rfl ?_
            refine p_iconst (pc := 15) C dX1_goodThatGoes_15 (by decide) ?_
            refine p_icmp_ge (pc := 16) (tgt := 36) C dX1_goodThatGoes_16 (by decide) (fun c_16 => ?_) (fun h => absurd h (by decide))
            refine p_bipush (pc := 36) C dX1_goodThatGoes_36 (by decide) ?_
            refine p_iret (pc := 38) C dX1_goodThatGoes_38 ?_
            exact ⟨sv (by unfold gtg; repeat (split; all_goals first | omega | skip)), rfl⟩
          · refine p_iload_n (pc := 28) C dX1_goodThatGoes_28 rfl ?_
            refine p_iret (pc := 29) C dX1_goodThatGoes_29 ?_
            exact ⟨sv (by unfold gtg; repeat (split; all_goals first | omega | skip)), rfl⟩
        · refine p_iload_n (pc := 28) C dX1_goodThatGoes_28 rfl ?_
          refine p_iret (pc := 29) C dX1_goodThatGoes_29 ?_
          exact ⟨sv (by unfold gtg; repeat (split; all_goals first | omega | skip)), rfl⟩
      · refine p_iload_n (pc := 28) C dX1_goodThatGoes_28 rfl ?_
        refine p_iret (pc := 29) C dX1_goodThatGoes_29 ?_
        exact ⟨sv (by unfold gtg; repeat (split; all_goals first | omega | skip)), rfl⟩
    · refine p_iload_n (pc := 28) C dX1_goodThatGoes_28 rfl ?_
      refine p_iret (pc := 29) C dX1_goodThatGoes_29 ?_
      exact ⟨sv (by unfold gtg; repeat (split; all_goals first | omega | skip)), rfl⟩
  · refine p_aload_n (pc := 7) C dX1_goodThatGoes_7 rfl ?_
    refine p_get (pc := 8) C fl_X1_26 dX1_goodThatGoes_8 (by first | exact ha | exact hc) (by assumption) (by rfl) ?_
    refine p_iret (pc := 11) C dX1_goodThatGoes_11 ?_
    exact ⟨sv (by unfold gtg; repeat (split; all_goals first | omega | skip)), rfl⟩
