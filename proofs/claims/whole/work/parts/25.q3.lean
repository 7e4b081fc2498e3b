theorem pr_b {a b : Int} (ha : 0 ≤ a ∧ a ≤ 6) (hb : 0 ≤ b ∧ b ≤ 4) : 0 ≤ a * b ∧ a * b ≤ 24 := by
  rcases (show b = 0 ∨ b = 1 ∨ b = 2 ∨ b = 3 ∨ b = 4 by omega) with rfl | rfl | rfl | rfl | rfl <;> omega

set_option maxHeartbeats 4000000 in
set_option maxRecDepth 100000 in
theorem q_X4_odds {K : KX} {d : Nat} {μ : Int → ME} {k g w : Int} {np ns day nr tr fl : Int} {rg kd nm sg pt : Int → Int} {ca : Int → Int → Int} {rs rp rl th la ln : Int → Int} {ce : Int → Int → Int} (hV : CV np ns day nr tr fl rg kd nm sg pt ca rs rp rl th la ln ce μ) (hW : WF np ns day nr tr fl rg kd nm sg pt ca rs rp rl th la ln ce) : Ct K (d + 4) yX4_odds cX4_odds 6 (some .long) [vR 0, vI k, vI g, vI w] μ (fun r μ' => (∀ a, 42 ≤ a → μ' a = μ a) ∧ (if ¬ ((0 ≤ k ∧ k < ns) ∧ (0 ≤ g ∧ g < 4) ∧ (0 ≤ w ∧ w ≤ 1)) then r = some (vL (-9223372036854775808)) ∧ CV np ns day nr tr fl rg kd nm sg pt ca rs rp rl th la ln ce μ' else r = some (vL (shT (if gtg (ca k) (nm k) = g then rdN rg np (brg (kd k) (sg k)) 0 np.toNat else 0) np w)) ∧ CV np ns day nr tr fl rg kd nm sg pt ca rs rp rl th la ln ce μ')) := by
  refine Ct.of (by decide) (Nat.le_of_ble_eq_true rfl) (fun X C => ?_)
  obtain ⟨⟨a0, a1, a2, a3⟩, ⟨b4, b5, b6, b7, b8, b9⟩, ⟨c0, c1, c2, c3⟩, dd, ee, ff⟩ := id hV
  obtain ⟨w0, w1, w2, w3, w4, w5, w6⟩ := id hW
  refine p_aload_n (pc := 0) C dX4_odds_0 rfl ?_
  refine p_iload_n (pc := 1) C dX4_odds_1 rfl ?_
  refine p_callVF (pc := 2) C ln_X4_89 dX4_odds_2 (k_X4_isShip (by (repeat refine mg_n (by omega) ?_); first | assumption | exact mup_s _ _ _)) ⟨by omega, by omega⟩ (by (repeat refine mg_n (by omega) ?_); first | assumption | exact mup_s _ _ _) rfl rfl rfl rfl (Nat.le_of_ble_eq_true rfl) ?_
  refine p_ifeq_b (pc := 5) (tgt := 23) C dX4_odds_5 (by decide) (fun c_5 => ?_) (fun c_5 => ?_)
  · refine p_ldc2 (pc := 23) C kc_X4_199 dX4_odds_23 ?_
    refine p_lret (pc := 26) C dX4_odds_26 ?_
    first
      | (refine ⟨fun q hq => by (repeat (refine mg_n (by omega) ?_)); rfl, ?_⟩; rw [if_pos (by omega)]; exact ⟨svL (by decide +kernel), hV⟩)
      | (refine ⟨fun q hq => by (repeat (refine mg_n (by omega) ?_)); rfl, ?_⟩; rw [if_neg (by omega)]; exact ⟨svL (by unfold shT; first | rw [if_pos c_41] | rw [if_neg c_41]), hV⟩)
  · refine p_iload_n (pc := 8) C dX4_odds_8 rfl ?_
    refine p_callSF (pc := 9) C ln_X4_118 dX4_odds_9 (k_X4_isGood) rfl rfl (Nat.le_of_ble_eq_true rfl) ?_
    refine p_ifeq_b (pc := 12) (tgt := 23) C dX4_odds_12 (by decide) (fun c_12 => ?_) (fun c_12 => ?_)
    · refine p_ldc2 (pc := 23) C kc_X4_199 dX4_odds_23 ?_
      refine p_lret (pc := 26) C dX4_odds_26 ?_
      first
        | (refine ⟨fun q hq => by (repeat (refine mg_n (by omega) ?_)); rfl, ?_⟩; rw [if_pos (by omega)]; exact ⟨svL (by decide +kernel), hV⟩)
        | (refine ⟨fun q hq => by (repeat (refine mg_n (by omega) ?_)); rfl, ?_⟩; rw [if_neg (by omega)]; exact ⟨svL (by unfold shT; first | rw [if_pos c_41] | rw [if_neg c_41]), hV⟩)
    · refine p_iload_n (pc := 15) C dX4_odds_15 rfl ?_
      refine p_iconst (pc := 16) C dX4_odds_16 (by decide) ?_
      refine p_callSF (pc := 17) C ln_X4_127 dX4_odds_17 (k_X4_isUpTo) rfl rfl (Nat.le_of_ble_eq_true rfl) ?_
      refine p_ifne_b (pc := 20) (tgt := 27) C dX4_odds_20 (by decide) (fun c_20 => ?_) (fun c_20 => ?_)
      · obtain ⟨s1, s2⟩ := dd k (by omega) (by omega)
        obtain ⟨n1, n2, n3⟩ := w3 k (by omega) (by omega)
        obtain ⟨x1, x2⟩ := w4 k (by omega) (by omega)
        have hrd := rdN_r rg np (brg (kd k) (sg k)) np.toNat 0
        refine p_aload_n (pc := 27) C dX4_odds_27 rfl ?_
        refine p_get (pc := 28) C fl_X4_17 dX4_odds_28 ⟨by omega, by omega⟩ (by (repeat refine mg_n (by omega) ?_); first | assumption | exact mup_s _ _ _) (by rfl) ?_
        refine p_iload_n (pc := 31) C dX4_odds_31 rfl ?_
        refine p_aald (pc := 32) C dX4_odds_32 ⟨by omega, by omega⟩ (by (repeat refine mg_n (by omega) ?_); first | assumption | exact mup_s _ _ _) (by decide) (by omega) (by rfl) ?_
        refine p_astore (pc := 33) (ls' := [(4, _), (0, _), (1, _), (2, _), (3, _)]) C dX4_odds_33 (by decide) rfl ?_
        refine p_aload (pc := 35) C dX4_odds_35 rfl ?_
        refine p_callVF (pc := 37) C ln_X4_201 dX4_odds_37 (k_X1_goodThatGoes ⟨by omega, by omega⟩ s1 ⟨by omega, by omega⟩ s2 n2) ⟨by omega, by omega⟩ (by (repeat refine mg_n (by omega) ?_); first | assumption | exact mup_s _ _ _) rfl rfl rfl rfl (Nat.le_of_ble_eq_true rfl) ?_
        refine p_iload_n (pc := 40) C dX4_odds_40 rfl ?_
        refine p_icmp_ne (pc := 41) (tgt := 56) C dX4_odds_41 (by decide) (fun c_41 => ?_) (fun c_41 => ?_)
        · refine p_iconst (pc := 56) C dX4_odds_56 (by decide) ?_
          refine p_istore (pc := 57) (ls' := [(5, _), (4, _), (0, _), (1, _), (2, _), (3, _)]) C dX4_odds_57 (by decide) rfl ?_
          refine p_iload (pc := 59) C dX4_odds_59 rfl ?_
          refine p_aload_n (pc := 61) C dX4_odds_61 rfl ?_
          refine p_get (pc := 62) C fl_X4_162 dX4_odds_62 ⟨by omega, by omega⟩ (by (repeat refine mg_n (by omega) ?_); first | assumption | exact mup_s _ _ _) (by rfl) ?_
          refine p_iload_n (pc := 65) C dX4_odds_65 rfl ?_
          refine p_callSF (pc := 66) C ln_X4_207 dX4_odds_66 (k_X4_ofShare (by omega) (by omega)) rfl rfl (Nat.le_of_ble_eq_true rfl) ?_
          refine p_lret (pc := 69) C dX4_odds_69 ?_
          first
            | (refine ⟨fun q hq => by (repeat (refine mg_n (by omega) ?_)); rfl, ?_⟩; rw [if_pos (by omega)]; exact ⟨svL (by decide +kernel), hV⟩)
            | (refine ⟨fun q hq => by (repeat (refine mg_n (by omega) ?_)); rfl, ?_⟩; rw [if_neg (by omega)]; exact ⟨svL (by unfold shT; first | rw [if_pos c_41] | rw [if_neg c_41]), hV⟩)
        · refine p_aload_n (pc := 44) C dX4_odds_44 rfl ?_
          refine p_aload (pc := 45) C dX4_odds_45 rfl ?_
          refine p_callVF (pc := 47) C ln_X4_101 dX4_odds_47 (k_X1_bearing ⟨by omega, by omega⟩ s1 (by omega)) ⟨by omega, by omega⟩ (by (repeat refine mg_n (by omega) ?_); first | assumption | exact mup_s _ _ _) rfl rfl rfl rfl (Nat.le_of_ble_eq_true rfl) ?_
          refine p_callVF (pc := 50) C ln_X4_204 dX4_odds_50 (k_X4_roughPorts a0 a1 (by omega) (by omega)) ⟨by omega, by omega⟩ (by (repeat refine mg_n (by omega) ?_); first | assumption | exact mup_s _ _ _) rfl rfl rfl rfl (Nat.le_of_ble_eq_true rfl) ?_
          refine p_goto (pc := 53) (tgt := 57) C dX4_odds_53 (by decide) ?_
          refine p_istore (pc := 57) (ls' := [(5, _), (4, _), (0, _), (1, _), (2, _), (3, _)]) C dX4_odds_57 (by decide) rfl ?_
          refine p_iload (pc := 59) C dX4_odds_59 rfl ?_
          refine p_aload_n (pc := 61) C dX4_odds_61 rfl ?_
          refine p_get (pc := 62) C fl_X4_162 dX4_odds_62 ⟨by omega, by omega⟩ (by (repeat refine mg_n (by omega) ?_); first | assumption | exact mup_s _ _ _) (by rfl) ?_
          refine p_iload_n (pc := 65) C dX4_odds_65 rfl ?_
          refine p_callSF (pc := 66) C ln_X4_207 dX4_odds_66 (k_X4_ofShare (by omega) (by omega)) rfl rfl (Nat.le_of_ble_eq_true rfl) ?_
          refine p_lret (pc := 69) C dX4_odds_69 ?_
          first
            | (refine ⟨fun q hq => by (repeat (refine mg_n (by omega) ?_)); rfl, ?_⟩; rw [if_pos (by omega)]; exact ⟨svL (by decide +kernel), hV⟩)
            | (refine ⟨fun q hq => by (repeat (refine mg_n (by omega) ?_)); rfl, ?_⟩; rw [if_neg (by omega)]; exact ⟨svL (by unfold shT; first | rw [if_pos c_41] | rw [if_neg c_41]), hV⟩)
      · refine p_ldc2 (pc := 23) C kc_X4_199 dX4_odds_23 ?_
        refine p_lret (pc := 26) C dX4_odds_26 ?_
        first
          | (refine ⟨fun q hq => by (repeat (refine mg_n (by omega) ?_)); rfl, ?_⟩; rw [if_pos (by omega)]; exact ⟨svL (by decide +kernel), hV⟩)
          | (refine ⟨fun q hq => by (repeat (refine mg_n (by omega) ?_)); rfl, ?_⟩; rw [if_neg (by omega)]; exact ⟨svL (by unfold shT; first | rw [if_pos c_41] | rw [if_neg c_41]), hV⟩)

set_option maxHeartbeats 4000000 in
set_option maxRecDepth 100000 in
theorem q_X4_premium {K : KX} {d : Nat} {μ : Int → ME} {k w : Int} {np ns day nr tr fl : Int} {rg kd nm sg pt : Int → Int} {ca : Int → Int → Int} {rs rp rl th la ln : Int → Int} {ce : Int → Int → Int} (hV : CV np ns day nr tr fl rg kd nm sg pt ca rs rp rl th la ln ce μ) (hW : WF np ns day nr tr fl rg kd nm sg pt ca rs rp rl th la ln ce) : Ct K (d + 4) yX4_premium cX4_premium 6 (some .long) [vR 0, vI k, vI w] μ (fun r μ' => (∀ a, 42 ≤ a → μ' a = μ a) ∧ (if ¬ ((0 ≤ k ∧ k < ns) ∧ (0 ≤ w ∧ w ≤ 1)) then r = some (vL (-9223372036854775808)) ∧ CV np ns day nr tr fl rg kd nm sg pt ca rs rp rl th la ln ce μ' else r = some (vL (shT (if gtg (ca k) (nm k) = -9 then 0 else rdN rg np (brg (kd k) (sg k)) 0 np.toNat * (gtg (ca k) (nm k) + 1)) np w)) ∧ CV np ns day nr tr fl rg kd nm sg pt ca rs rp rl th la ln ce μ')) := by
  refine Ct.of (by decide) (Nat.le_of_ble_eq_true rfl) (fun X C => ?_)
  obtain ⟨⟨a0, a1, a2, a3⟩, ⟨b4, b5, b6, b7, b8, b9⟩, ⟨c0, c1, c2, c3⟩, dd, ee, ff⟩ := id hV
  obtain ⟨w0, w1, w2, w3, w4, w5, w6⟩ := id hW
  refine p_aload_n (pc := 0) C dX4_premium_0 rfl ?_
  refine p_iload_n (pc := 1) C dX4_premium_1 rfl ?_
  refine p_callVF (pc := 2) C ln_X4_89 dX4_premium_2 (k_X4_isShip (by (repeat refine mg_n (by omega) ?_); first | assumption | exact mup_s _ _ _)) ⟨by omega, by omega⟩ (by (repeat refine mg_n (by omega) ?_); first | assumption | exact mup_s _ _ _) rfl rfl rfl rfl (Nat.le_of_ble_eq_true rfl) ?_
  refine p_ifeq_b (pc := 5) (tgt := 16) C dX4_premium_5 (by decide) (fun c_5 => ?_) (fun c_5 => ?_)
  · refine p_ldc2 (pc := 16) C kc_X4_199 dX4_premium_16 ?_
    refine p_lret (pc := 19) C dX4_premium_19 ?_
    first
      | (refine ⟨fun q hq => by (repeat (refine mg_n (by omega) ?_)); rfl, ?_⟩; rw [if_pos (by omega)]; exact ⟨svL (by decide +kernel), hV⟩)
      | (refine ⟨fun q hq => by (repeat (refine mg_n (by omega) ?_)); rfl, ?_⟩; rw [if_neg (by omega)]; exact ⟨svL (by unfold shT; first | rw [if_pos c_37] | rw [if_neg c_37]), hV⟩)
  · refine p_iload_n (pc := 8) C dX4_premium_8 rfl ?_
    refine p_iconst (pc := 9) C dX4_premium_9 (by decide) ?_
    refine p_callSF (pc := 10) C ln_X4_127 dX4_premium_10 (k_X4_isUpTo) rfl rfl (Nat.le_of_ble_eq_true rfl) ?_
    refine p_ifne_b (pc := 13) (tgt := 20) C dX4_premium_13 (by decide) (fun c_13 => ?_) (fun c_13 => ?_)
    · obtain ⟨s1, s2⟩ := dd k (by omega) (by omega)
      obtain ⟨n1, n2, n3⟩ := w3 k (by omega) (by omega)
      obtain ⟨x1, x2⟩ := w4 k (by omega) (by omega)
      have hrd := rdN_r rg np (brg (kd k) (sg k)) np.toNat 0
      have hgt := gtg_r x2 n2
      refine p_aload_n (pc := 20) C dX4_premium_20 rfl ?_
      refine p_get (pc := 21) C fl_X4_17 dX4_premium_21 ⟨by omega, by omega⟩ (by (repeat refine mg_n (by omega) ?_); first | assumption | exact mup_s _ _ _) (by rfl) ?_
      refine p_iload_n (pc := 24) C dX4_premium_24 rfl ?_
      refine p_aald (pc := 25) C dX4_premium_25 ⟨by omega, by omega⟩ (by (repeat refine mg_n (by omega) ?_); first | assumption | exact mup_s _ _ _) (by decide) (by omega) (by rfl) ?_
      refine p_astore_n (pc := 26) (ls' := [(3, _), (0, _), (1, _), (2, _)]) C dX4_premium_26 (by decide) rfl ?_
      refine p_aload_n (pc := 27) C dX4_premium_27 rfl ?_
      refine p_callVF (pc := 28) C ln_X4_201 dX4_premium_28 (k_X1_goodThatGoes ⟨by omega, by omega⟩ s1 ⟨by omega, by omega⟩ s2 n2) ⟨by omega, by omega⟩ (by (repeat refine mg_n (by omega) ?_); first | assumption | exact mup_s _ _ _) rfl rfl rfl rfl (Nat.le_of_ble_eq_true rfl) ?_
      refine p_istore (pc := 31) (ls' := [(4, _), (3, _), (0, _), (1, _), (2, _)]) C dX4_premium_31 (by decide) rfl ?_
      refine p_iload (pc := 33) C dX4_premium_33 rfl ?_
      refine p_bipush (pc := 35) C dX4_premium_35 (by decide) ?_
      refine p_icmp_ne (pc := 37) (tgt := 44) C dX4_premium_37 (by decide) (fun c_37 => ?_) (fun c_37 => ?_)
      · refine p_aload_n (pc := 44) C dX4_premium_44 rfl ?_
        refine p_aload_n (pc := 45) C dX4_premium_45 rfl ?_
        refine p_callVF (pc := 46) C ln_X4_101 dX4_premium_46 (k_X1_bearing ⟨by omega, by omega⟩ s1 (by omega)) ⟨by omega, by omega⟩ (by (repeat refine mg_n (by omega) ?_); first | assumption | exact mup_s _ _ _) rfl rfl rfl rfl (Nat.le_of_ble_eq_true rfl) ?_
        refine p_callVF (pc := 49) C ln_X4_204 dX4_premium_49 (k_X4_roughPorts a0 a1 (by omega) (by omega)) ⟨by omega, by omega⟩ (by (repeat refine mg_n (by omega) ?_); first | assumption | exact mup_s _ _ _) rfl rfl rfl rfl (Nat.le_of_ble_eq_true rfl) ?_
        have hpr := pr_b (a := rdN rg np (brg (kd k) (sg k)) 0 np.toNat) (b := gtg (ca k) (nm k) + 1) (by omega) (by omega)
        refine p_iload (pc := 52) C dX4_premium_52 rfl ?_
        refine p_callSF (pc := 54) C ln_X4_211 dX4_premium_54 (k_X4_worthOf (by omega)) rfl rfl (Nat.le_of_ble_eq_true rfl) ?_
        refine p_imul (pc := 57) C dX4_premium_57 ⟨by omega, by omega⟩ ?_
        refine p_istore (pc := 58) (ls' := [(5, _), (4, _), (3, _), (0, _), (1, _), (2, _)]) C dX4_premium_58 (by decide) rfl ?_
        refine p_iload (pc := 60) C dX4_premium_60 rfl ?_
        refine p_aload_n (pc := 62) C dX4_premium_62 rfl ?_
        refine p_get (pc := 63) C fl_X4_162 dX4_premium_63 ⟨by omega, by omega⟩ (by (repeat refine mg_n (by omega) ?_); first | assumption | exact mup_s _ _ _) (by rfl) ?_
        refine p_iload_n (pc := 66) C dX4_premium_66 rfl ?_
        refine p_callSF (pc := 67) C ln_X4_207 dX4_premium_67 (k_X4_ofShare (by omega) (by omega)) rfl rfl (Nat.le_of_ble_eq_true rfl) ?_
        refine p_lret (pc := 70) C dX4_premium_70 ?_
        first
          | (refine ⟨fun q hq => by (repeat (refine mg_n (by omega) ?_)); rfl, ?_⟩; rw [if_pos (by omega)]; exact ⟨svL (by decide +kernel), hV⟩)
          | (refine ⟨fun q hq => by (repeat (refine mg_n (by omega) ?_)); rfl, ?_⟩; rw [if_neg (by omega)]; exact ⟨svL (by unfold shT; first | rw [if_pos c_37] | rw [if_neg c_37]), hV⟩)
      · refine p_iconst (pc := 40) C dX4_premium_40 (by decide) ?_
        refine p_goto (pc := 41) (tgt := 58) C dX4_premium_41 (by decide) ?_
        refine p_istore (pc := 58) (ls' := [(5, _), (4, _), (3, _), (0, _), (1, _), (2, _)]) C dX4_premium_58 (by decide) rfl ?_
        refine p_iload (pc := 60) C dX4_premium_60 rfl ?_
        refine p_aload_n (pc := 62) C dX4_premium_62 rfl ?_
        refine p_get (pc := 63) C fl_X4_162 dX4_premium_63 ⟨by omega, by omega⟩ (by (repeat refine mg_n (by omega) ?_); first | assumption | exact mup_s _ _ _) (by rfl) ?_
        refine p_iload_n (pc := 66) C dX4_premium_66 rfl ?_
        refine p_callSF (pc := 67) C ln_X4_207 dX4_premium_67 (k_X4_ofShare (by omega) (by omega)) rfl rfl (Nat.le_of_ble_eq_true rfl) ?_
        refine p_lret (pc := 70) C dX4_premium_70 ?_
        first
          | (refine ⟨fun q hq => by (repeat (refine mg_n (by omega) ?_)); rfl, ?_⟩; rw [if_pos (by omega)]; exact ⟨svL (by decide +kernel), hV⟩)
          | (refine ⟨fun q hq => by (repeat (refine mg_n (by omega) ?_)); rfl, ?_⟩; rw [if_neg (by omega)]; exact ⟨svL (by unfold shT; first | rw [if_pos c_37] | rw [if_neg c_37]), hV⟩)
    · refine p_ldc2 (pc := 16) C kc_X4_199 dX4_premium_16 ?_
      refine p_lret (pc := 19) C dX4_premium_19 ?_
      first
        | (refine ⟨fun q hq => by (repeat (refine mg_n (by omega) ?_)); rfl, ?_⟩; rw [if_pos (by omega)]; exact ⟨svL (by decide +kernel), hV⟩)
        | (refine ⟨fun q hq => by (repeat (refine mg_n (by omega) ?_)); rfl, ?_⟩; rw [if_neg (by omega)]; exact ⟨svL (by unfold shT; first | rw [if_pos c_37] | rw [if_neg c_37]), hV⟩)

set_option maxHeartbeats 4000000 in
set_option maxRecDepth 100000 in
theorem q_X4_many {K : KX} {d : Nat} {μ : Int → ME} {w : Int} {np ns day nr tr fl : Int} {rg kd nm sg pt : Int → Int} {ca : Int → Int → Int} {rs rp rl th la ln : Int → Int} {ce : Int → Int → Int} (hV : CV np ns day nr tr fl rg kd nm sg pt ca rs rp rl th la ln ce μ) (hW : WF np ns day nr tr fl rg kd nm sg pt ca rs rp rl th la ln ce) : Ct K (d + 2) yX4_many cX4_many 2 (some .int) [vR 0, vI w] μ (fun r μ' => (∀ a, 42 ≤ a → μ' a = μ a) ∧ (r = some (vI (mnT w ns np day nr (metN nm ca ns.toNat))) ∧ CV np ns day nr tr fl rg kd nm sg pt ca rs rp rl th la ln ce μ')) := by
  refine Ct.of (by decide) (Nat.le_of_ble_eq_true rfl) (fun X C => ?_)
  obtain ⟨⟨a0, a1, a2, a3⟩, ⟨b4, b5, b6, b7, b8, b9⟩, ⟨c0, c1, c2, c3⟩, dd, ee, ff⟩ := id hV
  obtain ⟨w0, w1, w2, w3, w4, w5, w6⟩ := id hW
  refine p_iload_n (pc := 0) C dX4_many_0 rfl ?_
  by_cases s_1_0 : w = 0
  · refine p_tin (pc := 1) (off := 35) (tgt := 36) C dX4_many_1 (by omega) (by omega) (by rw [s_1_0]; rfl) (by decide) ?_
    refine p_aload_n (pc := 36) C dX4_many_36 rfl ?_
    refine p_get (pc := 37) C fl_X4_86 dX4_many_37 ⟨by omega, by omega⟩ (by (repeat refine mg_n (by omega) ?_); first | assumption | exact mup_s _ _ _) (by rfl) ?_
    refine p_iret (pc := 40) C dX4_many_40 ?_
    first
      | (refine ⟨fun q hq => by (repeat (refine mg_n (by omega) ?_)); rfl, ?_⟩; skip; exact ⟨(sv (by unfold mnT; first | rw [if_pos (by omega)] | rw [if_neg (by omega), if_pos (by omega)] | rw [if_neg (by omega), if_neg (by omega), if_pos (by omega)] | rw [if_neg (by omega), if_neg (by omega), if_neg (by omega), if_pos (by omega)] | rw [if_neg (by omega), if_neg (by omega), if_neg (by omega), if_neg (by omega), if_pos (by omega)] | rw [if_neg (by omega), if_neg (by omega), if_neg (by omega), if_neg (by omega), if_neg (by omega)])), hV⟩)
  by_cases s_1_1 : w = 1
  · refine p_tin (pc := 1) (off := 40) (tgt := 41) C dX4_many_1 (by omega) (by omega) (by rw [s_1_1]; rfl) (by decide) ?_
    refine p_aload_n (pc := 41) C dX4_many_41 rfl ?_
    refine p_get (pc := 42) C fl_X4_162 dX4_many_42 ⟨by omega, by omega⟩ (by (repeat refine mg_n (by omega) ?_); first | assumption | exact mup_s _ _ _) (by rfl) ?_
    refine p_iret (pc := 45) C dX4_many_45 ?_
    first
      | (refine ⟨fun q hq => by (repeat (refine mg_n (by omega) ?_)); rfl, ?_⟩; skip; exact ⟨(sv (by unfold mnT; first | rw [if_pos (by omega)] | rw [if_neg (by omega), if_pos (by omega)] | rw [if_neg (by omega), if_neg (by omega), if_pos (by omega)] | rw [if_neg (by omega), if_neg (by omega), if_neg (by omega), if_pos (by omega)] | rw [if_neg (by omega), if_neg (by omega), if_neg (by omega), if_neg (by omega), if_pos (by omega)] | rw [if_neg (by omega), if_neg (by omega), if_neg (by omega), if_neg (by omega), if_neg (by omega)])), hV⟩)
  by_cases s_1_2 : w = 2
  · refine p_tin (pc := 1) (off := 45) (tgt := 46) C dX4_many_1 (by omega) (by omega) (by rw [s_1_2]; rfl) (by decide) ?_
    refine p_aload_n (pc := 46) C dX4_many_46 rfl ?_
    refine p_get (pc := 47) C fl_X4_137 dX4_many_47 ⟨by omega, by omega⟩ (by (repeat refine mg_n (by omega) ?_); first | assumption | exact mup_s _ _ _) (by rfl) ?_
    refine p_iret (pc := 50) C dX4_many_50 ?_
    first
      | (refine ⟨fun q hq => by (repeat (refine mg_n (by omega) ?_)); rfl, ?_⟩; skip; exact ⟨(sv (by unfold mnT; first | rw [if_pos (by omega)] | rw [if_neg (by omega), if_pos (by omega)] | rw [if_neg (by omega), if_neg (by omega), if_pos (by omega)] | rw [if_neg (by omega), if_neg (by omega), if_neg (by omega), if_pos (by omega)] | rw [if_neg (by omega), if_neg (by omega), if_neg (by omega), if_neg (by omega), if_pos (by omega)] | rw [if_neg (by omega), if_neg (by omega), if_neg (by omega), if_neg (by omega), if_neg (by omega)])), hV⟩)
  by_cases s_1_3 : w = 3
  · refine p_tin (pc := 1) (off := 50) (tgt := 51) C dX4_many_1 (by omega) (by omega) (by rw [s_1_3]; rfl) (by decide) ?_
    refine p_aload_n (pc := 51) C dX4_many_51 rfl ?_
    refine p_aload_n (pc := 52) C dX4_many_52 rfl ?_
    refine p_get (pc := 53) C fl_X4_17 dX4_many_53 ⟨by omega, by omega⟩ (by (repeat refine mg_n (by omega) ?_); first | assumption | exact mup_s _ _ _) (by rfl) ?_
    refine p_callVF (pc := 56) C ln_X4_258 dX4_many_56 (k_X4_metOf (b := 14) (kd := kd) (nm := nm) (sg := sg) (pt := pt) (ca := ca) a0 ⟨by omega, by omega⟩ a2 (by omega) (by omega) (fun j j0 j1 => ⟨(dd j j0 (by omega)).1, (dd j j0 (by omega)).2, (w3 j j0 j1).2.1.1, (w3 j j0 j1).2.1.2⟩)) ⟨by omega, by omega⟩ (by (repeat refine mg_n (by omega) ?_); first | assumption | exact mup_s _ _ _) rfl rfl rfl rfl (Nat.le_of_ble_eq_true rfl) ?_
    refine p_callSF (pc := 59) C ln_X4_262 dX4_many_59 (k_M_bitCount) rfl rfl (Nat.le_of_ble_eq_true rfl) ?_
    refine p_iret (pc := 62) C dX4_many_62 ?_
    first
      | (refine ⟨fun q hq => by (repeat (refine mg_n (by omega) ?_)); rfl, ?_⟩; skip; exact ⟨(sv (by unfold mnT; first | rw [if_pos (by omega)] | rw [if_neg (by omega), if_pos (by omega)] | rw [if_neg (by omega), if_neg (by omega), if_pos (by omega)] | rw [if_neg (by omega), if_neg (by omega), if_neg (by omega), if_pos (by omega)] | rw [if_neg (by omega), if_neg (by omega), if_neg (by omega), if_neg (by omega), if_pos (by omega)] | rw [if_neg (by omega), if_neg (by omega), if_neg (by omega), if_neg (by omega), if_neg (by omega)])), hV⟩)
  by_cases s_1_4 : w = 4
  · refine p_tin (pc := 1) (off := 62) (tgt := 63) C dX4_many_1 (by omega) (by omega) (by rw [s_1_4]; rfl) (by decide) ?_
    refine p_aload_n (pc := 63) C dX4_many_63 rfl ?_
    refine p_get (pc := 64) C fl_X4_181 dX4_many_64 ⟨by omega, by omega⟩ (by (repeat refine mg_n (by omega) ?_); first | assumption | exact mup_s _ _ _) (by rfl) ?_
    refine p_iret (pc := 67) C dX4_many_67 ?_
    first
      | (refine ⟨fun q hq => by (repeat (refine mg_n (by omega) ?_)); rfl, ?_⟩; skip; exact ⟨(sv (by unfold mnT; first | rw [if_pos (by omega)] | rw [if_neg (by omega), if_pos (by omega)] | rw [if_neg (by omega), if_neg (by omega), if_pos (by omega)] | rw [if_neg (by omega), if_neg (by omega), if_neg (by omega), if_pos (by omega)] | rw [if_neg (by omega), if_neg (by omega), if_neg (by omega), if_neg (by omega), if_pos (by omega)] | rw [if_neg (by omega), if_neg (by omega), if_neg (by omega), if_neg (by omega), if_neg (by omega)])), hV⟩)
  refine p_tout (pc := 1) (tgt := 68) C dX4_many_1 (by omega) (by decide) ?_
  refine p_bipush (pc := 68) C dX4_many_68 (by decide) ?_
  refine p_iret (pc := 70) C dX4_many_70 ?_
  first
    | (refine ⟨fun q hq => by (repeat (refine mg_n (by omega) ?_)); rfl, ?_⟩; skip; exact ⟨(sv (by unfold mnT; first | rw [if_pos (by omega)] | rw [if_neg (by omega), if_pos (by omega)] | rw [if_neg (by omega), if_neg (by omega), if_pos (by omega)] | rw [if_neg (by omega), if_neg (by omega), if_neg (by omega), if_pos (by omega)] | rw [if_neg (by omega), if_neg (by omega), if_neg (by omega), if_neg (by omega), if_pos (by omega)] | rw [if_neg (by omega), if_neg (by omega), if_neg (by omega), if_neg (by omega), if_neg (by omega)])), hV⟩)

theorem CV_FI {np ns day nr tr fl : Int} {rg kd nm sg pt : Int → Int} {ca : Int → Int → Int} {rs rp rl th la ln : Int → Int} {ce : Int → Int → Int} {μ ν : Int → ME} {S : DS} (h : CV np ns day nr tr fl rg kd nm sg pt ca rs rp rl th la ln ce μ) (hF : FI 14 5 (-1) kd nm sg S μ ν) : CV np ns day nr tr fl rg kd nm sg (S.1) (S.2.1) rs rp rl th la ln ce ν := by
  obtain ⟨⟨a0, a1, a2, a3⟩, ⟨b4, b5, b6, b7, b8, b9⟩, ⟨c0, c1, c2, c3⟩, d, e, f⟩ := h
  obtain ⟨g1, g2⟩ := hF
  refine ⟨⟨?_, ?_, ?_, ?_⟩, ⟨?_, ?_, ?_, ?_, ?_, ?_⟩, ⟨?_, ?_, ?_, ?_⟩, fun k k0 k1 => ?_, fun k k0 k1 => ?_, fun k k0 k1 => ?_⟩
  · rw [g2 0 (by omega) (by omega)]; exact a0
  · rw [g2 1 (by omega) (by omega)]; exact a1
  · rw [g2 2 (by omega) (by omega)]; exact a2
  · rw [g2 3 (by omega) (by omega)]; exact a3
  · rw [g2 4 (by omega) (by omega)]; exact b4
  · rw [g2 5 (by omega) (by omega)]; exact b5
  · rw [g2 6 (by omega) (by omega)]; exact b6
  · rw [g2 7 (by omega) (by omega)]; exact b7
  · rw [g2 8 (by omega) (by omega)]; exact b8
  · rw [g2 9 (by omega) (by omega)]; exact b9
  · rw [g2 10 (by omega) (by omega)]; exact c0
  · rw [g2 11 (by omega) (by omega)]; exact c1
  · rw [g2 12 (by omega) (by omega)]; exact c2
  · rw [g2 13 (by omega) (by omega)]; exact c3
  · exact g1 k k0 k1
  · rw [g2 (16 + 4 * k) (by omega) (by omega), g2 (17 + 4 * k) (by omega) (by omega)]; exact e k k0 k1
  · rw [g2 (34 + 2 * k) (by omega) (by omega), g2 (35 + 2 * k) (by omega) (by omega)]; exact f k k0 k1

set_option maxHeartbeats 4000000 in
set_option maxRecDepth 100000 in
theorem q_X4_days {K : KX} {d : Nat} {μ : Int → ME} {n : Int} {np ns day nr tr fl : Int} {rg kd nm sg pt : Int → Int} {ca : Int → Int → Int} {rs rp rl th la ln : Int → Int} {ce : Int → Int → Int} (hV : CV np ns day nr tr fl rg kd nm sg pt ca rs rp rl th la ln ce μ) (hW : WF np ns day nr tr fl rg kd nm sg pt ca rs rp rl th la ln ce) : Ct K (d + 3) yX4_days cX4_days 5 (some .int) [vR 0, vI n] μ (fun r μ' => (∀ a, 42 ≤ a → μ' a = μ a) ∧ (if ¬ (1 ≤ n ∧ n ≤ 30) then r = some (vI (-2)) ∧ CV np ns day nr tr fl rg kd nm sg pt ca rs rp rl th la ln ce μ' else if ¬ 0 < ns then r = some (vI (-3)) ∧ CV np ns day nr tr fl rg kd nm sg pt ca rs rp rl th la ln ce μ' else r = some (vI ((dyN np ns rg kd nm sg (pt, ca, 0, 0, -9) n.toNat).2.2.1)) ∧ CV np ns (iwr (day + n)) nr tr fl rg kd nm sg ((dyN np ns rg kd nm sg (pt, ca, 0, 0, -9) n.toNat).1) ((dyN np ns rg kd nm sg (pt, ca, 0, 0, -9) n.toNat).2.1) rs rp rl th la ln ce μ')) := by
  refine Ct.of (by decide) (Nat.le_of_ble_eq_true rfl) (fun X C => ?_)
  obtain ⟨⟨a0, a1, a2, a3⟩, ⟨b4, b5, b6, b7, b8, b9⟩, ⟨c0, c1, c2, c3⟩, dd, ee, ff⟩ := id hV
  obtain ⟨w0, w1, w2, w3, w4, w5, w6⟩ := id hW
  by_cases hn1 : ¬ (1 ≤ n ∧ n ≤ 30)
  · refine p_iload_n (pc := 0) C dX4_days_0 rfl ?_
    refine p_iconst (pc := 1) C dX4_days_1 (by decide) ?_
    refine p_icmp_lt (pc := 2) (tgt := 11) C dX4_days_2 (by decide) (fun c_2 => ?_) (fun c_2 => ?_)
    · refine p_bipush (pc := 11) C dX4_days_11 (by decide) ?_
      refine p_iret (pc := 13) C dX4_days_13 ?_
      refine ⟨fun q hq => by (repeat (refine mg_n (by omega) ?_)); rfl, ?_⟩
      rw [if_pos hn1]
      exact ⟨rfl, hV⟩
    · refine p_iload_n (pc := 5) C dX4_days_5 rfl ?_
      refine p_bipush (pc := 6) C dX4_days_6 (by decide) ?_
      refine p_icmp_le (pc := 8) (tgt := 14) C dX4_days_8 (by decide) (fun h => by exfalso; omega) (fun c_8 => ?_)
      refine p_bipush (pc := 11) C dX4_days_11 (by decide) ?_
      refine p_iret (pc := 13) C dX4_days_13 ?_
      refine ⟨fun q hq => by (repeat (refine mg_n (by omega) ?_)); rfl, ?_⟩
      rw [if_pos hn1]
      exact ⟨rfl, hV⟩
  have hn2 : 1 ≤ n ∧ n ≤ 30 := by omega
  have LK0 : ∀ (i : Int) (SE : DS), 0 ≤ i → i ≤ 100 → (∀ ν : Int → ME, FI 14 5 (-1) kd nm sg SE μ ν → PW K X 5 (QM K X (fun r μ' => (∀ a, 42 ≤ a → μ' a = μ a) ∧ (if ¬ (1 ≤ n ∧ n ≤ 30) then r = some (vI (-2)) ∧ CV np ns day nr tr fl rg kd nm sg pt ca rs rp rl th la ln ce μ' else if ¬ 0 < ns then r = some (vI (-3)) ∧ CV np ns day nr tr fl rg kd nm sg pt ca rs rp rl th la ln ce μ' else r = some (vI ((dyN np ns rg kd nm sg (pt, ca, 0, 0, -9) n.toNat).2.2.1)) ∧ CV np ns (iwr (day + n)) nr tr fl rg kd nm sg ((dyN np ns rg kd nm sg (pt, ca, 0, 0, -9) n.toNat).1) ((dyN np ns rg kd nm sg (pt, ca, 0, 0, -9) n.toNat).2.1) rs rp rl th la ln ce μ'))) 28 [(3, vI (i + 1)), (2, vI SE.2.2.1), (0, vR 0), (1, vI n)] [] ν) → ∀ (S1 : DS) (ν : Int → ME), FI 14 5 (-1) kd nm sg S1 μ ν → WS np ns S1 → (0 ≤ S1.2.2.1 ∧ S1.2.2.1 ≤ 90000) → 0 ≤ ns → shN np rg kd nm sg 0 S1 ns.toNat = SE → PW K X 5 (QM K X (fun r μ' => (∀ a, 42 ≤ a → μ' a = μ a) ∧ (if ¬ (1 ≤ n ∧ n ≤ 30) then r = some (vI (-2)) ∧ CV np ns day nr tr fl rg kd nm sg pt ca rs rp rl th la ln ce μ' else if ¬ 0 < ns then r = some (vI (-3)) ∧ CV np ns day nr tr fl rg kd nm sg pt ca rs rp rl th la ln ce μ' else r = some (vI ((dyN np ns rg kd nm sg (pt, ca, 0, 0, -9) n.toNat).2.2.1)) ∧ CV np ns (iwr (day + n)) nr tr fl rg kd nm sg ((dyN np ns rg kd nm sg (pt, ca, 0, 0, -9) n.toNat).1) ((dyN np ns rg kd nm sg (pt, ca, 0, 0, -9) n.toNat).2.1) rs rp rl th la ln ce μ'))) 36 [(4, vI 0), (3, vI i), (2, vI S1.2.2.1), (0, vR 0), (1, vI n)] [] ν := by
    intro i SE hi0 hi1 kk
    have LK : ∀ (t : Nat) (k : Int) (S1 : DS) (ν : Int → ME), 0 ≤ k → ns - k = (t : Int) → FI 14 5 (-1) kd nm sg S1 μ ν → WS np ns S1 → (0 ≤ S1.2.2.1 ∧ S1.2.2.1 ≤ 100000 - (t : Int)) → shN np rg kd nm sg k S1 t = SE → PW K X 5 (QM K X (fun r μ' => (∀ a, 42 ≤ a → μ' a = μ a) ∧ (if ¬ (1 ≤ n ∧ n ≤ 30) then r = some (vI (-2)) ∧ CV np ns day nr tr fl rg kd nm sg pt ca rs rp rl th la ln ce μ' else if ¬ 0 < ns then r = some (vI (-3)) ∧ CV np ns day nr tr fl rg kd nm sg pt ca rs rp rl th la ln ce μ' else r = some (vI ((dyN np ns rg kd nm sg (pt, ca, 0, 0, -9) n.toNat).2.2.1)) ∧ CV np ns (iwr (day + n)) nr tr fl rg kd nm sg ((dyN np ns rg kd nm sg (pt, ca, 0, 0, -9) n.toNat).1) ((dyN np ns rg kd nm sg (pt, ca, 0, 0, -9) n.toNat).2.1) rs rp rl th la ln ce μ'))) 36 [(4, vI k), (3, vI i), (2, vI S1.2.2.1), (0, vR 0), (1, vI n)] [] ν := by
      intro t
      induction t with
      | zero =>
        intro k S1 ν h1 h2 h4 h6 h7 h8
        obtain ⟨g1, g2⟩ := id h4
        have u0 : ν 0 = oY np ns day nr tr fl := (g2 0 (by omega) (by omega)).trans a0
        have u1 : ν 1 = mA 6 rg := (g2 1 (by omega) (by omega)).trans a1
        have u2 : ν 2 = mR 0 5 (fun k => some (14 + 4 * k)) := (g2 2 (by omega) (by omega)).trans a2
        refine p_iload (pc := 36) C dX4_days_36 rfl ?_
        refine p_aload_n (pc := 38) C dX4_days_38 rfl ?_
        refine p_get (pc := 39) C fl_X4_86 dX4_days_39 ⟨by omega, by omega⟩ (by (repeat refine mg_n (by omega) ?_); first | assumption | exact mup_s _ _ _) (by rfl) ?_
        refine p_icmp_ge (pc := 42) (tgt := 70) C dX4_days_42 (by decide) (fun c_42 => ?_) (fun h => by exfalso; omega)
        refine p_iinc (pc := 70) (ls' := [(3, _), (4, _), (2, _), (0, _), (1, _)]) C dX4_days_70 (by decide) rfl ⟨by omega, by omega⟩ rfl ?_
        refine p_goto (pc := 73) (tgt := 28) C dX4_days_73 (by decide) ?_
        refine p_pick [0, 2, 3, 4] (ls' := [(3, _), (2, _), (0, _), (1, _)]) rfl ?_
        exact p_ls (by rw [← h8]; rfl) (kk ν (by rw [← h8]; exact h4))
      | succ t ih =>
        intro k S1 ν h1 h2 h4 h6 h7 h8
        obtain ⟨g1, g2⟩ := id h4
        have u0 : ν 0 = oY np ns day nr tr fl := (g2 0 (by omega) (by omega)).trans a0
        have u1 : ν 1 = mA 6 rg := (g2 1 (by omega) (by omega)).trans a1
        have u2 : ν 2 = mR 0 5 (fun k => some (14 + 4 * k)) := (g2 2 (by omega) (by omega)).trans a2
        obtain ⟨s1, s2⟩ := g1 k h1 (by omega)
        obtain ⟨v1, v2⟩ := h6 k h1 (by omega)
        obtain ⟨v3, v4, v5⟩ := w3 k h1 (by omega)
        have hct := ct_st (np := np) (rg := rg) (kd := kd) (sg := sg) v2 v4
        have hst := FI_st (np := np) (rg := rg) h4 (Or.inl rfl) (show (5 : Int) ≤ 5 by omega) h1 (show k < 5 by omega)
        have hlp : (stS np rg kd nm sg k S1).2.2.1 = S1.2.2.1 + (if dsG rg kd nm sg k S1 = -9 then 0 else 1) := rfl
        generalize hge : dsG rg kd nm sg k S1 = g at hlp hst
        have hge2 : sdG rg (S1.2.1 k) (kd k) (nm k) (sg k) (S1.1 k) = g := hge
        rw [shN] at h8
        refine p_iload (pc := 36) C dX4_days_36 rfl ?_
        refine p_aload_n (pc := 38) C dX4_days_38 rfl ?_
        refine p_get (pc := 39) C fl_X4_86 dX4_days_39 ⟨by omega, by omega⟩ (by (repeat refine mg_n (by omega) ?_); first | assumption | exact mup_s _ _ _) (by rfl) ?_
        refine p_icmp_ge (pc := 42) (tgt := 70) C dX4_days_42 (by decide) (fun h => by exfalso; omega) (fun c_42 => ?_)
        refine p_aload_n (pc := 45) C dX4_days_45 rfl ?_
        refine p_aload_n (pc := 46) C dX4_days_46 rfl ?_
        refine p_get (pc := 47) C fl_X4_17 dX4_days_47 ⟨by omega, by omega⟩ (by (repeat refine mg_n (by omega) ?_); first | assumption | exact mup_s _ _ _) (by rfl) ?_
        refine p_iload (pc := 50) C dX4_days_50 rfl ?_
        refine p_aald (pc := 52) C dX4_days_52 ⟨by omega, by omega⟩ (by (repeat refine mg_n (by omega) ?_); first | assumption | exact mup_s _ _ _) (by decide) (by omega) (by rfl) ?_
        refine p_callVF (pc := 53) C ln_X4_133 dX4_days_53 (k_X4_sailDay ⟨by omega, by omega⟩ s1 ⟨by omega, by omega⟩ s2 u0 u1 (by omega) (by omega) (by omega) (by omega) v1 v5 v4 v2) ⟨by omega, by omega⟩ (by (repeat refine mg_n (by omega) ?_); first | assumption | exact mup_s _ _ _) rfl rfl rfl rfl (Nat.le_of_ble_eq_true rfl) ?_
        refine p_top hge2 ?_
        refine p_bipush (pc := 56) C dX4_days_56 (by decide) ?_
        refine p_icmp_eq (pc := 58) (tgt := 64) C dX4_days_58 (by decide) (fun c_58 => ?_) (fun c_58 => ?_)
        · refine p_iinc (pc := 64) (ls' := [(4, _), (3, _), (2, _), (0, _), (1, _)]) C dX4_days_64 (by decide) rfl ⟨by omega, by omega⟩ rfl ?_
          refine p_goto (pc := 67) (tgt := 36) C dX4_days_67 (by decide) ?_
          first
            | (rw [if_pos (by omega)] at hlp
               exact p_ls (by rw [show S1.2.2.1 = (stS np rg kd nm sg k S1).2.2.1 by omega]) (ih (k + 1) (stS np rg kd nm sg k S1) _ (by omega) (by omega) (hge2 ▸ hst) (WS_st h6 w3 h1 (by omega)) (by omega) h8))
            | (rw [if_neg (by omega)] at hlp
               exact p_ls (by rw [show S1.2.2.1 + 1 = (stS np rg kd nm sg k S1).2.2.1 by omega]) (ih (k + 1) (stS np rg kd nm sg k S1) _ (by omega) (by omega) (hge2 ▸ hst) (WS_st h6 w3 h1 (by omega)) (by omega) h8))
        · refine p_iinc (pc := 61) (ls' := [(2, _), (4, _), (3, _), (0, _), (1, _)]) C dX4_days_61 (by decide) rfl ⟨by omega, by omega⟩ rfl ?_
          refine p_iinc (pc := 64) (ls' := [(4, _), (2, _), (3, _), (0, _), (1, _)]) C dX4_days_64 (by decide) rfl ⟨by omega, by omega⟩ rfl ?_
          refine p_goto (pc := 67) (tgt := 36) C dX4_days_67 (by decide) ?_
          refine p_pick [0, 2, 1, 3, 4] (ls' := [(4, _), (3, _), (2, _), (0, _), (1, _)]) rfl ?_
          first
            | (rw [if_pos (by omega)] at hlp
               exact p_ls (by rw [show S1.2.2.1 = (stS np rg kd nm sg k S1).2.2.1 by omega]) (ih (k + 1) (stS np rg kd nm sg k S1) _ (by omega) (by omega) (hge2 ▸ hst) (WS_st h6 w3 h1 (by omega)) (by omega) h8))
            | (rw [if_neg (by omega)] at hlp
               exact p_ls (by rw [show S1.2.2.1 + 1 = (stS np rg kd nm sg k S1).2.2.1 by omega]) (ih (k + 1) (stS np rg kd nm sg k S1) _ (by omega) (by omega) (hge2 ▸ hst) (WS_st h6 w3 h1 (by omega)) (by omega) h8))
    intro S1 ν h4 h6 h7 hns h8
    exact LK ns.toNat 0 S1 ν (by omega) (by omega) h4 h6 (by omega) h8
  have L : ∀ (t : Nat) (i : Int) (S1 : DS) (ν : Int → ME), 0 ≤ i → n - i = (t : Int) → 0 < ns → FI 14 5 (-1) kd nm sg S1 μ ν → WS np ns S1 → (0 ≤ S1.2.2.1 ∧ S1.2.2.1 ≤ 80000 - 5 * (t : Int)) → dyN np ns rg kd nm sg S1 t = dyN np ns rg kd nm sg (pt, ca, 0, 0, -9) n.toNat → PW K X 5 (QM K X (fun r μ' => (∀ a, 42 ≤ a → μ' a = μ a) ∧ (if ¬ (1 ≤ n ∧ n ≤ 30) then r = some (vI (-2)) ∧ CV np ns day nr tr fl rg kd nm sg pt ca rs rp rl th la ln ce μ' else if ¬ 0 < ns then r = some (vI (-3)) ∧ CV np ns day nr tr fl rg kd nm sg pt ca rs rp rl th la ln ce μ' else r = some (vI ((dyN np ns rg kd nm sg (pt, ca, 0, 0, -9) n.toNat).2.2.1)) ∧ CV np ns (iwr (day + n)) nr tr fl rg kd nm sg ((dyN np ns rg kd nm sg (pt, ca, 0, 0, -9) n.toNat).1) ((dyN np ns rg kd nm sg (pt, ca, 0, 0, -9) n.toNat).2.1) rs rp rl th la ln ce μ'))) 28 [(3, vI i), (2, vI S1.2.2.1), (0, vR 0), (1, vI n)] [] ν := by
    intro t
    induction t with
    | zero =>
      intro i S1 ν h1 h2 h3 h4 h6 h7 h8
      have u0 : ν 0 = oY np ns day nr tr fl := (h4.2 0 (by omega) (by omega)).trans a0
      refine p_iload_n (pc := 28) C dX4_days_28 rfl ?_
      refine p_iload_n (pc := 29) C dX4_days_29 rfl ?_
      refine p_icmp_ge (pc := 30) (tgt := 76) C dX4_days_30 (by decide) (fun c_30 => ?_) (fun h => by exfalso; omega)
      refine p_aload_n (pc := 76) C dX4_days_76 rfl ?_
      refine p_dup (pc := 77) C dX4_days_77 rfl ?_
      refine p_get (pc := 78) C fl_X4_137 dX4_days_78 ⟨by omega, by omega⟩ (by (repeat refine mg_n (by omega) ?_); first | assumption | exact mup_s _ _ _) (by rfl) ?_
      refine p_iload_n (pc := 81) C dX4_days_81 rfl ?_
      refine p_iaddw (pc := 82) C dX4_days_82 ?_
      refine p_putL (pc := 83) (fs' := [_, _, _, _, _, _, _, _, _, _, _, _, _, _, _, _]) C fp_X4_137 dX4_days_83 ⟨by omega, by omega⟩ (by (repeat refine mg_n (by omega) ?_); first | assumption | exact mup_s _ _ _) (by exact Nat.le_of_ble_eq_true rfl) (by rfl) ?_
      try refine p_mem (mup_mup _ _ _ _) ?_
      refine p_iload_n (pc := 86) C dX4_days_86 rfl ?_
      refine p_iret (pc := 87) C dX4_days_87 ?_
      refine ⟨fun q hq => (mg_n (by omega) (h4.2 q (by omega) (by omega))), ?_⟩
      rw [if_neg (by omega), if_neg (by omega)]
      exact ⟨by rw [← h8]; rfl, CV_0 (np' := np) (CV_FI hV (by rw [← h8]; exact h4))⟩
    | succ t ih =>
      intro i S1 ν h1 h2 h3 h4 h6 h7 h8
      rw [dyN] at h8
      obtain ⟨q1, q2, q3⟩ := WS_sh (np := np) (rg := rg) w3 ns.toNat 0 S1 (by omega) (by omega) h6
      refine p_iload_n (pc := 28) C dX4_days_28 rfl ?_
      refine p_iload_n (pc := 29) C dX4_days_29 rfl ?_
      refine p_icmp_ge (pc := 30) (tgt := 76) C dX4_days_30 (by decide) (fun h => by exfalso; omega) (fun c_30 => ?_)
      refine p_iconst (pc := 33) C dX4_days_33 (by decide) ?_
      refine p_istore (pc := 34) (ls' := [(4, _), (3, _), (2, _), (0, _), (1, _)]) C dX4_days_34 (by decide) rfl ?_
      exact LK0 i _ h1 (by omega) (fun ν2 g4 => ih (i + 1) _ ν2 (by omega) (by omega) h3 g4 q1 (by omega) h8) S1 ν h4 h6 (by omega) (by omega) rfl
  refine p_iload_n (pc := 0) C dX4_days_0 rfl ?_
  refine p_iconst (pc := 1) C dX4_days_1 (by decide) ?_
  refine p_icmp_lt (pc := 2) (tgt := 11) C dX4_days_2 (by decide) (fun h => by exfalso; omega) (fun c_2 => ?_)
  refine p_iload_n (pc := 5) C dX4_days_5 rfl ?_
  refine p_bipush (pc := 6) C dX4_days_6 (by decide) ?_
  refine p_icmp_le (pc := 8) (tgt := 14) C dX4_days_8 (by decide) (fun c_8 => ?_) (fun h => by exfalso; omega)
  refine p_aload_n (pc := 14) C dX4_days_14 rfl ?_
  refine p_callVF (pc := 15) C ln_X4_130 dX4_days_15 (k_X4_hasSea (by (repeat refine mg_n (by omega) ?_); first | assumption | exact mup_s _ _ _)) ⟨by omega, by omega⟩ (by (repeat refine mg_n (by omega) ?_); first | assumption | exact mup_s _ _ _) rfl rfl rfl rfl (Nat.le_of_ble_eq_true rfl) ?_
  refine p_ifne_b (pc := 18) (tgt := 24) C dX4_days_18 (by decide) (fun c_18 => ?_) (fun c_18 => ?_)
  · refine p_iconst (pc := 24) C dX4_days_24 (by decide) ?_
    refine p_istore_n (pc := 25) (ls' := [(2, _), (0, _), (1, _)]) C dX4_days_25 (by decide) rfl ?_
    refine p_iconst (pc := 26) C dX4_days_26 (by decide) ?_
    refine p_istore_n (pc := 27) (ls' := [(3, _), (2, _), (0, _), (1, _)]) C dX4_days_27 (by decide) rfl ?_
    exact L n.toNat 0 (pt, ca, 0, 0, -9) μ (by omega) (by omega) (by omega) ⟨fun j j0 j1 => by rw [show 14 + 1 + 4 * j = 15 + 4 * j by omega]; exact dd j j0 j1, fun _ _ _ => rfl⟩ w4 (by show (0 : Int) ≤ 0 ∧ (0 : Int) ≤ _; omega) rfl
  · refine p_bipush (pc := 21) C dX4_days_21 (by decide) ?_
    refine p_iret (pc := 23) C dX4_days_23 ?_
    refine ⟨fun q hq => by (repeat (refine mg_n (by omega) ?_)); rfl, ?_⟩
    rw [if_neg (by omega), if_pos (by omega)]
    exact ⟨rfl, hV⟩
