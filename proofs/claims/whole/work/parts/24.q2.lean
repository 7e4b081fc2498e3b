theorem fup_id (f : Int → Int) (k : Int) : fup f k (f k) = f := by
  funext j; unfold fup; split
  · rename_i e; rw [e]
  · rfl

set_option maxHeartbeats 4000000 in
set_option maxRecDepth 100000 in
theorem q_X4_load {K : KX} {d : Nat} {μ : Int → ME} {k g n : Int} {np ns day nr tr fl : Int} {rg kd nm sg pt : Int → Int} {ca : Int → Int → Int} {rs rp rl th la ln : Int → Int} {ce : Int → Int → Int} (hV : CV np ns day nr tr fl rg kd nm sg pt ca rs rp rl th la ln ce μ) (hW : WF np ns day nr tr fl rg kd nm sg pt ca rs rp rl th la ln ce) : Ct K (d + 2) yX4_load cX4_load 5 (some .int) [vR 0, vI k, vI g, vI n] μ (fun r μ' => (∀ a, 42 ≤ a → μ' a = μ a) ∧ (if ¬ (0 ≤ k ∧ k < ns) then r = some (vI (-1)) ∧ CV np ns day nr tr fl rg kd nm sg pt ca rs rp rl th la ln ce μ' else if ¬ ((0 ≤ g ∧ g < 4) ∧ (1 ≤ n ∧ n ≤ 9)) then r = some (vI (-2)) ∧ CV np ns day nr tr fl rg kd nm sg pt ca rs rp rl th la ln ce μ' else if 9 < ca k g + n then r = some (vI (-4)) ∧ CV np ns day nr tr fl rg kd nm sg pt ca rs rp rl th la ln ce μ' else r = some (vI (ca k g + n)) ∧ CV np ns day nr tr fl rg kd nm sg pt (cup ca k (fup (ca k) g (ca k g + n))) rs rp rl th la ln ce μ')) := by
  refine Ct.of (by decide) (Nat.le_of_ble_eq_true rfl) (fun X C => ?_)
  obtain ⟨⟨a0, a1, a2, a3⟩, ⟨b4, b5, b6, b7, b8, b9⟩, ⟨c0, c1, c2, c3⟩, dd, ee, ff⟩ := id hV
  obtain ⟨w0, w1, w2, w3, w4, w5, w6⟩ := id hW
  refine p_aload_n (pc := 0) C dX4_load_0 rfl ?_
  refine p_iload_n (pc := 1) C dX4_load_1 rfl ?_
  refine p_callVF (pc := 2) C ln_X4_89 dX4_load_2 (k_X4_isShip (by (repeat refine mg_n (by omega) ?_); first | assumption | exact mup_s _ _ _)) ⟨by omega, by omega⟩ (by (repeat refine mg_n (by omega) ?_); first | assumption | exact mup_s _ _ _) rfl rfl rfl rfl (Nat.le_of_ble_eq_true rfl) ?_
  refine p_ifne_b (pc := 5) (tgt := 10) C dX4_load_5 (by decide) (fun c_5 => ?_) (fun c_5 => ?_)
  · refine p_iload_n (pc := 10) C dX4_load_10 rfl ?_
    refine p_callSF (pc := 11) C ln_X4_118 dX4_load_11 (k_X4_isGood) rfl rfl (Nat.le_of_ble_eq_true rfl) ?_
    refine p_ifeq_b (pc := 14) (tgt := 24) C dX4_load_14 (by decide) (fun c_14 => ?_) (fun c_14 => ?_)
    · refine p_bipush (pc := 24) C dX4_load_24 (by decide) ?_
      refine p_iret (pc := 26) C dX4_load_26 ?_
      first
        | (refine ⟨fun q hq => by (repeat (refine mg_n (by omega) ?_)); rfl, ?_⟩; rw [if_pos (by omega)]; exact ⟨rfl, hV⟩)
        | (refine ⟨fun q hq => by (repeat (refine mg_n (by omega) ?_)); rfl, ?_⟩; rw [if_neg (by omega), if_pos (by omega)]; exact ⟨rfl, hV⟩)
        | (refine ⟨fun q hq => by (repeat (refine mg_n (by omega) ?_)); rfl, ?_⟩; rw [if_neg (by omega), if_neg (by omega), if_pos (by omega)]; exact ⟨rfl, hV⟩)
        | (refine ⟨fun q hq => by (repeat (refine mg_n (by omega) ?_)); rfl, ?_⟩; rw [if_neg (by omega), if_neg (by omega), if_neg (by omega)]; exact ⟨sv (fup_s _ _ _), CV_ca hV (by omega) (by omega)⟩)
    · refine p_iload_n (pc := 17) C dX4_load_17 rfl ?_
      refine p_callSF (pc := 18) C ln_X4_140 dX4_load_18 (k_X4_isLot) rfl rfl (Nat.le_of_ble_eq_true rfl) ?_
      refine p_ifne_b (pc := 21) (tgt := 27) C dX4_load_21 (by decide) (fun c_21 => ?_) (fun c_21 => ?_)
      · obtain ⟨s1, s2⟩ := dd k (by omega) (by omega)
        obtain ⟨n1, n2, n3⟩ := w3 k (by omega) (by omega)
        obtain ⟨x1, x2⟩ := w4 k (by omega) (by omega)
        have xg := x2.at (g := g) (by omega) (by omega)
        refine p_aload_n (pc := 27) C dX4_load_27 rfl ?_
        refine p_get (pc := 28) C fl_X4_17 dX4_load_28 ⟨by omega, by omega⟩ (by (repeat refine mg_n (by omega) ?_); first | assumption | exact mup_s _ _ _) (by rfl) ?_
        refine p_iload_n (pc := 31) C dX4_load_31 rfl ?_
        refine p_aald (pc := 32) C dX4_load_32 ⟨by omega, by omega⟩ (by (repeat refine mg_n (by omega) ?_); first | assumption | exact mup_s _ _ _) (by decide) (by omega) (by rfl) ?_
        refine p_get (pc := 33) C fl_X4_121 dX4_load_33 ⟨by omega, by omega⟩ (by (repeat refine mg_n (by omega) ?_); first | assumption | exact mup_s _ _ _) (by rfl) ?_
        refine p_astore (pc := 36) (ls' := [(4, _), (0, _), (1, _), (2, _), (3, _)]) C dX4_load_36 (by decide) rfl ?_
        refine p_aload (pc := 38) C dX4_load_38 rfl ?_
        refine p_iload_n (pc := 40) C dX4_load_40 rfl ?_
        refine p_iald (pc := 41) C dX4_load_41 ⟨by omega, by omega⟩ (by (repeat refine mg_n (by omega) ?_); first | assumption | exact mup_s _ _ _) (by omega) ?_
        refine p_iload_n (pc := 42) C dX4_load_42 rfl ?_
        refine p_iadd (pc := 43) C dX4_load_43 ⟨by omega, by omega⟩ ?_
        refine p_bipush (pc := 44) C dX4_load_44 (by decide) ?_
        refine p_icmp_le (pc := 46) (tgt := 52) C dX4_load_46 (by decide) (fun c_46 => ?_) (fun c_46 => ?_)
        · refine p_aload (pc := 52) C dX4_load_52 rfl ?_
          refine p_iload_n (pc := 54) C dX4_load_54 rfl ?_
          refine p_dup2 (pc := 55) C dX4_load_55 rfl rfl ?_
          refine p_iald (pc := 56) C dX4_load_56 ⟨by omega, by omega⟩ (by (repeat refine mg_n (by omega) ?_); first | assumption | exact mup_s _ _ _) (by omega) ?_
          refine p_iload_n (pc := 57) C dX4_load_57 rfl ?_
          refine p_iadd (pc := 58) C dX4_load_58 ⟨by omega, by omega⟩ ?_
          refine p_iast (pc := 59) C dX4_load_59 ⟨by omega, by omega⟩ (by (repeat refine mg_n (by omega) ?_); first | assumption | exact mup_s _ _ _) (by omega) ?_
          try refine p_mem (mup_mup _ _ _ _) ?_
          refine p_aload (pc := 60) C dX4_load_60 rfl ?_
          refine p_iload_n (pc := 62) C dX4_load_62 rfl ?_
          refine p_iald (pc := 63) C dX4_load_63 ⟨by omega, by omega⟩ (by (repeat refine mg_n (by omega) ?_); first | assumption | exact mup_s _ _ _) (by omega) ?_
          refine p_iret (pc := 64) C dX4_load_64 ?_
          first
            | (refine ⟨fun q hq => by (repeat (refine mg_n (by omega) ?_)); rfl, ?_⟩; rw [if_pos (by omega)]; exact ⟨rfl, hV⟩)
            | (refine ⟨fun q hq => by (repeat (refine mg_n (by omega) ?_)); rfl, ?_⟩; rw [if_neg (by omega), if_pos (by omega)]; exact ⟨rfl, hV⟩)
            | (refine ⟨fun q hq => by (repeat (refine mg_n (by omega) ?_)); rfl, ?_⟩; rw [if_neg (by omega), if_neg (by omega), if_pos (by omega)]; exact ⟨rfl, hV⟩)
            | (refine ⟨fun q hq => by (repeat (refine mg_n (by omega) ?_)); rfl, ?_⟩; rw [if_neg (by omega), if_neg (by omega), if_neg (by omega)]; exact ⟨sv (fup_s _ _ _), CV_ca hV (by omega) (by omega)⟩)
        · refine p_bipush (pc := 49) C dX4_load_49 (by decide) ?_
          refine p_iret (pc := 51) C dX4_load_51 ?_
          first
            | (refine ⟨fun q hq => by (repeat (refine mg_n (by omega) ?_)); rfl, ?_⟩; rw [if_pos (by omega)]; exact ⟨rfl, hV⟩)
            | (refine ⟨fun q hq => by (repeat (refine mg_n (by omega) ?_)); rfl, ?_⟩; rw [if_neg (by omega), if_pos (by omega)]; exact ⟨rfl, hV⟩)
            | (refine ⟨fun q hq => by (repeat (refine mg_n (by omega) ?_)); rfl, ?_⟩; rw [if_neg (by omega), if_neg (by omega), if_pos (by omega)]; exact ⟨rfl, hV⟩)
            | (refine ⟨fun q hq => by (repeat (refine mg_n (by omega) ?_)); rfl, ?_⟩; rw [if_neg (by omega), if_neg (by omega), if_neg (by omega)]; exact ⟨sv (fup_s _ _ _), CV_ca hV (by omega) (by omega)⟩)
      · refine p_bipush (pc := 24) C dX4_load_24 (by decide) ?_
        refine p_iret (pc := 26) C dX4_load_26 ?_
        first
          | (refine ⟨fun q hq => by (repeat (refine mg_n (by omega) ?_)); rfl, ?_⟩; rw [if_pos (by omega)]; exact ⟨rfl, hV⟩)
          | (refine ⟨fun q hq => by (repeat (refine mg_n (by omega) ?_)); rfl, ?_⟩; rw [if_neg (by omega), if_pos (by omega)]; exact ⟨rfl, hV⟩)
          | (refine ⟨fun q hq => by (repeat (refine mg_n (by omega) ?_)); rfl, ?_⟩; rw [if_neg (by omega), if_neg (by omega), if_pos (by omega)]; exact ⟨rfl, hV⟩)
          | (refine ⟨fun q hq => by (repeat (refine mg_n (by omega) ?_)); rfl, ?_⟩; rw [if_neg (by omega), if_neg (by omega), if_neg (by omega)]; exact ⟨sv (fup_s _ _ _), CV_ca hV (by omega) (by omega)⟩)
  · refine p_iconst (pc := 8) C dX4_load_8 (by decide) ?_
    refine p_iret (pc := 9) C dX4_load_9 ?_
    first
      | (refine ⟨fun q hq => by (repeat (refine mg_n (by omega) ?_)); rfl, ?_⟩; rw [if_pos (by omega)]; exact ⟨rfl, hV⟩)
      | (refine ⟨fun q hq => by (repeat (refine mg_n (by omega) ?_)); rfl, ?_⟩; rw [if_neg (by omega), if_pos (by omega)]; exact ⟨rfl, hV⟩)
      | (refine ⟨fun q hq => by (repeat (refine mg_n (by omega) ?_)); rfl, ?_⟩; rw [if_neg (by omega), if_neg (by omega), if_pos (by omega)]; exact ⟨rfl, hV⟩)
      | (refine ⟨fun q hq => by (repeat (refine mg_n (by omega) ?_)); rfl, ?_⟩; rw [if_neg (by omega), if_neg (by omega), if_neg (by omega)]; exact ⟨sv (fup_s _ _ _), CV_ca hV (by omega) (by omega)⟩)

set_option maxHeartbeats 4000000 in
set_option maxRecDepth 100000 in
theorem q_X4_off {K : KX} {d : Nat} {μ : Int → ME} {k g n : Int} {np ns day nr tr fl : Int} {rg kd nm sg pt : Int → Int} {ca : Int → Int → Int} {rs rp rl th la ln : Int → Int} {ce : Int → Int → Int} (hV : CV np ns day nr tr fl rg kd nm sg pt ca rs rp rl th la ln ce μ) (hW : WF np ns day nr tr fl rg kd nm sg pt ca rs rp rl th la ln ce) : Ct K (d + 2) yX4_off cX4_off 5 (some .int) [vR 0, vI k, vI g, vI n] μ (fun r μ' => (∀ a, 42 ≤ a → μ' a = μ a) ∧ (if ¬ (0 ≤ k ∧ k < ns) then r = some (vI (-1)) ∧ CV np ns day nr tr fl rg kd nm sg pt ca rs rp rl th la ln ce μ' else if ¬ ((0 ≤ g ∧ g < 4) ∧ (1 ≤ n ∧ n ≤ 9)) then r = some (vI (-2)) ∧ CV np ns day nr tr fl rg kd nm sg pt ca rs rp rl th la ln ce μ' else if ca k g < n then r = some (vI (-3)) ∧ CV np ns day nr tr fl rg kd nm sg pt ca rs rp rl th la ln ce μ' else r = some (vI (ca k g - n)) ∧ CV np ns day nr tr fl rg kd nm sg pt (cup ca k (fup (ca k) g (ca k g - n))) rs rp rl th la ln ce μ')) := by
  refine Ct.of (by decide) (Nat.le_of_ble_eq_true rfl) (fun X C => ?_)
  obtain ⟨⟨a0, a1, a2, a3⟩, ⟨b4, b5, b6, b7, b8, b9⟩, ⟨c0, c1, c2, c3⟩, dd, ee, ff⟩ := id hV
  obtain ⟨w0, w1, w2, w3, w4, w5, w6⟩ := id hW
  refine p_aload_n (pc := 0) C dX4_off_0 rfl ?_
  refine p_iload_n (pc := 1) C dX4_off_1 rfl ?_
  refine p_callVF (pc := 2) C ln_X4_89 dX4_off_2 (k_X4_isShip (by (repeat refine mg_n (by omega) ?_); first | assumption | exact mup_s _ _ _)) ⟨by omega, by omega⟩ (by (repeat refine mg_n (by omega) ?_); first | assumption | exact mup_s _ _ _) rfl rfl rfl rfl (Nat.le_of_ble_eq_true rfl) ?_
  refine p_ifne_b (pc := 5) (tgt := 10) C dX4_off_5 (by decide) (fun c_5 => ?_) (fun c_5 => ?_)
  · refine p_iload_n (pc := 10) C dX4_off_10 rfl ?_
    refine p_callSF (pc := 11) C ln_X4_118 dX4_off_11 (k_X4_isGood) rfl rfl (Nat.le_of_ble_eq_true rfl) ?_
    refine p_ifeq_b (pc := 14) (tgt := 24) C dX4_off_14 (by decide) (fun c_14 => ?_) (fun c_14 => ?_)
    · refine p_bipush (pc := 24) C dX4_off_24 (by decide) ?_
      refine p_iret (pc := 26) C dX4_off_26 ?_
      first
        | (refine ⟨fun q hq => by (repeat (refine mg_n (by omega) ?_)); rfl, ?_⟩; rw [if_pos (by omega)]; exact ⟨rfl, hV⟩)
        | (refine ⟨fun q hq => by (repeat (refine mg_n (by omega) ?_)); rfl, ?_⟩; rw [if_neg (by omega), if_pos (by omega)]; exact ⟨rfl, hV⟩)
        | (refine ⟨fun q hq => by (repeat (refine mg_n (by omega) ?_)); rfl, ?_⟩; rw [if_neg (by omega), if_neg (by omega), if_pos (by omega)]; exact ⟨rfl, hV⟩)
        | (refine ⟨fun q hq => by (repeat (refine mg_n (by omega) ?_)); rfl, ?_⟩; rw [if_neg (by omega), if_neg (by omega), if_neg (by omega)]; exact ⟨sv (fup_s _ _ _), CV_ca hV (by omega) (by omega)⟩)
    · refine p_iload_n (pc := 17) C dX4_off_17 rfl ?_
      refine p_callSF (pc := 18) C ln_X4_140 dX4_off_18 (k_X4_isLot) rfl rfl (Nat.le_of_ble_eq_true rfl) ?_
      refine p_ifne_b (pc := 21) (tgt := 27) C dX4_off_21 (by decide) (fun c_21 => ?_) (fun c_21 => ?_)
      · obtain ⟨s1, s2⟩ := dd k (by omega) (by omega)
        obtain ⟨n1, n2, n3⟩ := w3 k (by omega) (by omega)
        obtain ⟨x1, x2⟩ := w4 k (by omega) (by omega)
        have xg := x2.at (g := g) (by omega) (by omega)
        refine p_aload_n (pc := 27) C dX4_off_27 rfl ?_
        refine p_get (pc := 28) C fl_X4_17 dX4_off_28 ⟨by omega, by omega⟩ (by (repeat refine mg_n (by omega) ?_); first | assumption | exact mup_s _ _ _) (by rfl) ?_
        refine p_iload_n (pc := 31) C dX4_off_31 rfl ?_
        refine p_aald (pc := 32) C dX4_off_32 ⟨by omega, by omega⟩ (by (repeat refine mg_n (by omega) ?_); first | assumption | exact mup_s _ _ _) (by decide) (by omega) (by rfl) ?_
        refine p_get (pc := 33) C fl_X4_121 dX4_off_33 ⟨by omega, by omega⟩ (by (repeat refine mg_n (by omega) ?_); first | assumption | exact mup_s _ _ _) (by rfl) ?_
        refine p_astore (pc := 36) (ls' := [(4, _), (0, _), (1, _), (2, _), (3, _)]) C dX4_off_36 (by decide) rfl ?_
        refine p_aload (pc := 38) C dX4_off_38 rfl ?_
        refine p_iload_n (pc := 40) C dX4_off_40 rfl ?_
        refine p_iald (pc := 41) C dX4_off_41 ⟨by omega, by omega⟩ (by (repeat refine mg_n (by omega) ?_); first | assumption | exact mup_s _ _ _) (by omega) ?_
        refine p_iload_n (pc := 42) C dX4_off_42 rfl ?_
        refine p_icmp_ge (pc := 43) (tgt := 49) C dX4_off_43 (by decide) (fun c_43 => ?_) (fun c_43 => ?_)
        · refine p_aload (pc := 49) C dX4_off_49 rfl ?_
          refine p_iload_n (pc := 51) C dX4_off_51 rfl ?_
          refine p_dup2 (pc := 52) C dX4_off_52 rfl rfl ?_
          refine p_iald (pc := 53) C dX4_off_53 ⟨by omega, by omega⟩ (by (repeat refine mg_n (by omega) ?_); first | assumption | exact mup_s _ _ _) (by omega) ?_
          refine p_iload_n (pc := 54) C dX4_off_54 rfl ?_
          refine p_isub (pc := 55) C dX4_off_55 ⟨by omega, by omega⟩ ?_
          refine p_iast (pc := 56) C dX4_off_56 ⟨by omega, by omega⟩ (by (repeat refine mg_n (by omega) ?_); first | assumption | exact mup_s _ _ _) (by omega) ?_
          try refine p_mem (mup_mup _ _ _ _) ?_
          refine p_aload (pc := 57) C dX4_off_57 rfl ?_
          refine p_iload_n (pc := 59) C dX4_off_59 rfl ?_
          refine p_iald (pc := 60) C dX4_off_60 ⟨by omega, by omega⟩ (by (repeat refine mg_n (by omega) ?_); first | assumption | exact mup_s _ _ _) (by omega) ?_
          refine p_iret (pc := 61) C dX4_off_61 ?_
          first
            | (refine ⟨fun q hq => by (repeat (refine mg_n (by omega) ?_)); rfl, ?_⟩; rw [if_pos (by omega)]; exact ⟨rfl, hV⟩)
            | (refine ⟨fun q hq => by (repeat (refine mg_n (by omega) ?_)); rfl, ?_⟩; rw [if_neg (by omega), if_pos (by omega)]; exact ⟨rfl, hV⟩)
            | (refine ⟨fun q hq => by (repeat (refine mg_n (by omega) ?_)); rfl, ?_⟩; rw [if_neg (by omega), if_neg (by omega), if_pos (by omega)]; exact ⟨rfl, hV⟩)
            | (refine ⟨fun q hq => by (repeat (refine mg_n (by omega) ?_)); rfl, ?_⟩; rw [if_neg (by omega), if_neg (by omega), if_neg (by omega)]; exact ⟨sv (fup_s _ _ _), CV_ca hV (by omega) (by omega)⟩)
        · refine p_bipush (pc := 46) C dX4_off_46 (by decide) ?_
          refine p_iret (pc := 48) C dX4_off_48 ?_
          first
            | (refine ⟨fun q hq => by (repeat (refine mg_n (by omega) ?_)); rfl, ?_⟩; rw [if_pos (by omega)]; exact ⟨rfl, hV⟩)
            | (refine ⟨fun q hq => by (repeat (refine mg_n (by omega) ?_)); rfl, ?_⟩; rw [if_neg (by omega), if_pos (by omega)]; exact ⟨rfl, hV⟩)
            | (refine ⟨fun q hq => by (repeat (refine mg_n (by omega) ?_)); rfl, ?_⟩; rw [if_neg (by omega), if_neg (by omega), if_pos (by omega)]; exact ⟨rfl, hV⟩)
            | (refine ⟨fun q hq => by (repeat (refine mg_n (by omega) ?_)); rfl, ?_⟩; rw [if_neg (by omega), if_neg (by omega), if_neg (by omega)]; exact ⟨sv (fup_s _ _ _), CV_ca hV (by omega) (by omega)⟩)
      · refine p_bipush (pc := 24) C dX4_off_24 (by decide) ?_
        refine p_iret (pc := 26) C dX4_off_26 ?_
        first
          | (refine ⟨fun q hq => by (repeat (refine mg_n (by omega) ?_)); rfl, ?_⟩; rw [if_pos (by omega)]; exact ⟨rfl, hV⟩)
          | (refine ⟨fun q hq => by (repeat (refine mg_n (by omega) ?_)); rfl, ?_⟩; rw [if_neg (by omega), if_pos (by omega)]; exact ⟨rfl, hV⟩)
          | (refine ⟨fun q hq => by (repeat (refine mg_n (by omega) ?_)); rfl, ?_⟩; rw [if_neg (by omega), if_neg (by omega), if_pos (by omega)]; exact ⟨rfl, hV⟩)
          | (refine ⟨fun q hq => by (repeat (refine mg_n (by omega) ?_)); rfl, ?_⟩; rw [if_neg (by omega), if_neg (by omega), if_neg (by omega)]; exact ⟨sv (fup_s _ _ _), CV_ca hV (by omega) (by omega)⟩)
  · refine p_iconst (pc := 8) C dX4_off_8 (by decide) ?_
    refine p_iret (pc := 9) C dX4_off_9 ?_
    first
      | (refine ⟨fun q hq => by (repeat (refine mg_n (by omega) ?_)); rfl, ?_⟩; rw [if_pos (by omega)]; exact ⟨rfl, hV⟩)
      | (refine ⟨fun q hq => by (repeat (refine mg_n (by omega) ?_)); rfl, ?_⟩; rw [if_neg (by omega), if_pos (by omega)]; exact ⟨rfl, hV⟩)
      | (refine ⟨fun q hq => by (repeat (refine mg_n (by omega) ?_)); rfl, ?_⟩; rw [if_neg (by omega), if_neg (by omega), if_pos (by omega)]; exact ⟨rfl, hV⟩)
      | (refine ⟨fun q hq => by (repeat (refine mg_n (by omega) ?_)); rfl, ?_⟩; rw [if_neg (by omega), if_neg (by omega), if_neg (by omega)]; exact ⟨sv (fup_s _ _ _), CV_ca hV (by omega) (by omega)⟩)

set_option maxHeartbeats 4000000 in
set_option maxRecDepth 100000 in
theorem q_X4_trace {K : KX} {d : Nat} {μ : Int → ME} {np ns day nr tr fl : Int} {rg kd nm sg pt : Int → Int} {ca : Int → Int → Int} {rs rp rl th la ln : Int → Int} {ce : Int → Int → Int} (hV : CV np ns day nr tr fl rg kd nm sg pt ca rs rp rl th la ln ce μ) (hW : WF np ns day nr tr fl rg kd nm sg pt ca rs rp rl th la ln ce) : Ct K (d) yX4_trace cX4_trace 1 (some .int) [vR 0] μ (fun r μ' => (∀ a, 42 ≤ a → μ' a = μ a) ∧ (r = some (vI (tr)) ∧ CV np ns day nr tr fl rg kd nm sg pt ca rs rp rl th la ln ce μ')) := by
  refine Ct.of (by decide) (Nat.le_of_ble_eq_true rfl) (fun X C => ?_)
  obtain ⟨⟨a0, a1, a2, a3⟩, ⟨b4, b5, b6, b7, b8, b9⟩, ⟨c0, c1, c2, c3⟩, dd, ee, ff⟩ := id hV
  obtain ⟨w0, w1, w2, w3, w4, w5, w6⟩ := id hW
  refine p_aload_n (pc := 0) C dX4_trace_0 rfl ?_
  refine p_get (pc := 1) C fl_X4_255 dX4_trace_1 ⟨by omega, by omega⟩ (by (repeat refine mg_n (by omega) ?_); first | assumption | exact mup_s _ _ _) (by rfl) ?_
  refine p_iret (pc := 4) C dX4_trace_4 ?_
  first
    | (refine ⟨fun q hq => by (repeat (refine mg_n (by omega) ?_)); rfl, ?_⟩; skip; exact ⟨rfl, hV⟩)

set_option maxHeartbeats 4000000 in
set_option maxRecDepth 100000 in
theorem q_X4_fault {K : KX} {d : Nat} {μ : Int → ME} {np ns day nr tr fl : Int} {rg kd nm sg pt : Int → Int} {ca : Int → Int → Int} {rs rp rl th la ln : Int → Int} {ce : Int → Int → Int} (hV : CV np ns day nr tr fl rg kd nm sg pt ca rs rp rl th la ln ce μ) (hW : WF np ns day nr tr fl rg kd nm sg pt ca rs rp rl th la ln ce) : Ct K (d) yX4_fault cX4_fault 1 (some .int) [vR 0] μ (fun r μ' => (∀ a, 42 ≤ a → μ' a = μ a) ∧ (r = some (vI (fl)) ∧ CV np ns day nr tr fl rg kd nm sg pt ca rs rp rl th la ln ce μ')) := by
  refine Ct.of (by decide) (Nat.le_of_ble_eq_true rfl) (fun X C => ?_)
  obtain ⟨⟨a0, a1, a2, a3⟩, ⟨b4, b5, b6, b7, b8, b9⟩, ⟨c0, c1, c2, c3⟩, dd, ee, ff⟩ := id hV
  obtain ⟨w0, w1, w2, w3, w4, w5, w6⟩ := id hW
  refine p_aload_n (pc := 0) C dX4_fault_0 rfl ?_
  refine p_get (pc := 1) C fl_X4_58 dX4_fault_1 ⟨by omega, by omega⟩ (by (repeat refine mg_n (by omega) ?_); first | assumption | exact mup_s _ _ _) (by rfl) ?_
  refine p_iret (pc := 4) C dX4_fault_4 ?_
  first
    | (refine ⟨fun q hq => by (repeat (refine mg_n (by omega) ?_)); rfl, ?_⟩; skip; exact ⟨rfl, hV⟩)

set_option maxHeartbeats 4000000 in
set_option maxRecDepth 100000 in
theorem q_X4_back {K : KX} {d : Nat} {μ : Int → ME} {k : Int} {np ns day nr tr fl : Int} {rg kd nm sg pt : Int → Int} {ca : Int → Int → Int} {rs rp rl th la ln : Int → Int} {ce : Int → Int → Int} (hV : CV np ns day nr tr fl rg kd nm sg pt ca rs rp rl th la ln ce μ) (hW : WF np ns day nr tr fl rg kd nm sg pt ca rs rp rl th la ln ce) : Ct K (d + 1) yX4_back cX4_back 2 (some .int) [vR 0, vI k] μ (fun r μ' => (∀ a, 42 ≤ a → μ' a = μ a) ∧ (if ¬ (0 ≤ k ∧ k ≤ nr) then r = some (vI (-2)) ∧ CV np ns day nr tr fl rg kd nm sg pt ca rs rp rl th la ln ce μ' else r = some (vI (nr - k)) ∧ CV np ns day (nr - k) tr fl rg kd nm sg pt ca rs rp rl th la ln ce μ')) := by
  refine Ct.of (by decide) (Nat.le_of_ble_eq_true rfl) (fun X C => ?_)
  obtain ⟨⟨a0, a1, a2, a3⟩, ⟨b4, b5, b6, b7, b8, b9⟩, ⟨c0, c1, c2, c3⟩, dd, ee, ff⟩ := id hV
  obtain ⟨w0, w1, w2, w3, w4, w5, w6⟩ := id hW
  refine p_iload_n (pc := 0) C dX4_back_0 rfl ?_
  refine p_aload_n (pc := 1) C dX4_back_1 rfl ?_
  refine p_get (pc := 2) C fl_X4_181 dX4_back_2 ⟨by omega, by omega⟩ (by (repeat refine mg_n (by omega) ?_); first | assumption | exact mup_s _ _ _) (by rfl) ?_
  refine p_callSF (pc := 5) C ln_X4_127 dX4_back_5 (k_X4_isUpTo) rfl rfl (Nat.le_of_ble_eq_true rfl) ?_
  refine p_ifne_b (pc := 8) (tgt := 14) C dX4_back_8 (by decide) (fun c_8 => ?_) (fun c_8 => ?_)
  · refine p_aload_n (pc := 14) C dX4_back_14 rfl ?_
    refine p_dup (pc := 15) C dX4_back_15 rfl ?_
    refine p_get (pc := 16) C fl_X4_181 dX4_back_16 ⟨by omega, by omega⟩ (by (repeat refine mg_n (by omega) ?_); first | assumption | exact mup_s _ _ _) (by rfl) ?_
    refine p_iload_n (pc := 19) C dX4_back_19 rfl ?_
    refine p_isub (pc := 20) C dX4_back_20 ⟨by omega, by omega⟩ ?_
    refine p_putL (pc := 21) (fs' := [_, _, _, _, _, _, _, _, _, _, _, _, _, _, _, _]) C fp_X4_181 dX4_back_21 ⟨by omega, by omega⟩ (by (repeat refine mg_n (by omega) ?_); first | assumption | exact mup_s _ _ _) (by exact Nat.le_of_ble_eq_true rfl) (by rfl) ?_
    try refine p_mem (mup_mup _ _ _ _) ?_
    refine p_aload_n (pc := 24) C dX4_back_24 rfl ?_
    refine p_get (pc := 25) C fl_X4_181 dX4_back_25 ⟨by omega, by omega⟩ (by (repeat refine mg_n (by omega) ?_); first | assumption | exact mup_s _ _ _) (by rfl) ?_
    refine p_iret (pc := 28) C dX4_back_28 ?_
    first
      | (refine ⟨fun q hq => by (repeat (refine mg_n (by omega) ?_)); rfl, ?_⟩; rw [if_pos (by omega)]; exact ⟨rfl, hV⟩)
      | (refine ⟨fun q hq => by (repeat (refine mg_n (by omega) ?_)); rfl, ?_⟩; rw [if_neg (by omega)]; exact ⟨rfl, CV_0 hV⟩)
  · refine p_bipush (pc := 11) C dX4_back_11 (by decide) ?_
    refine p_iret (pc := 13) C dX4_back_13 ?_
    first
      | (refine ⟨fun q hq => by (repeat (refine mg_n (by omega) ?_)); rfl, ?_⟩; rw [if_pos (by omega)]; exact ⟨rfl, hV⟩)
      | (refine ⟨fun q hq => by (repeat (refine mg_n (by omega) ?_)); rfl, ?_⟩; rw [if_neg (by omega)]; exact ⟨rfl, CV_0 hV⟩)

set_option maxHeartbeats 4000000 in
set_option maxRecDepth 100000 in
theorem q_X4_reading {K : KX} {d : Nat} {μ : Int → ME} {k p x : Int} {np ns day nr tr fl : Int} {rg kd nm sg pt : Int → Int} {ca : Int → Int → Int} {rs rp rl th la ln : Int → Int} {ce : Int → Int → Int} (hV : CV np ns day nr tr fl rg kd nm sg pt ca rs rp rl th la ln ce μ) (hW : WF np ns day nr tr fl rg kd nm sg pt ca rs rp rl th la ln ce) : Ct K (d + 2) yX4_reading cX4_reading 4 (some .int) [vR 0, vI k, vI p, vI x] μ (fun r μ' => (∀ a, 42 ≤ a → μ' a = μ a) ∧ (if ¬ ((0 ≤ k ∧ k < ns) ∧ (0 ≤ p ∧ p < np)) then r = some (vI (-1)) ∧ CV np ns day nr tr fl rg kd nm sg pt ca rs rp rl th la ln ce μ' else if ¬ (0 ≤ x ∧ x ≤ 1) then r = some (vI (-2)) ∧ CV np ns day nr tr fl rg kd nm sg pt ca rs rp rl th la ln ce μ' else if 8 ≤ nr then r = some (vI (-4)) ∧ CV np ns day nr tr fl rg kd nm sg pt ca rs rp rl th la ln ce μ' else r = some (vI (nr)) ∧ CV np ns day (nr + 1) tr fl rg kd nm sg pt ca (fup rs nr k) (fup rp nr p) (fup rl nr x) th la ln ce μ')) := by
  refine Ct.of (by decide) (Nat.le_of_ble_eq_true rfl) (fun X C => ?_)
  obtain ⟨⟨a0, a1, a2, a3⟩, ⟨b4, b5, b6, b7, b8, b9⟩, ⟨c0, c1, c2, c3⟩, dd, ee, ff⟩ := id hV
  obtain ⟨w0, w1, w2, w3, w4, w5, w6⟩ := id hW
  refine p_aload_n (pc := 0) C dX4_reading_0 rfl ?_
  refine p_iload_n (pc := 1) C dX4_reading_1 rfl ?_
  refine p_callVF (pc := 2) C ln_X4_89 dX4_reading_2 (k_X4_isShip (by (repeat refine mg_n (by omega) ?_); first | assumption | exact mup_s _ _ _)) ⟨by omega, by omega⟩ (by (repeat refine mg_n (by omega) ?_); first | assumption | exact mup_s _ _ _) rfl rfl rfl rfl (Nat.le_of_ble_eq_true rfl) ?_
  refine p_ifeq_b (pc := 5) (tgt := 16) C dX4_reading_5 (by decide) (fun c_5 => ?_) (fun c_5 => ?_)
  · refine p_iconst (pc := 16) C dX4_reading_16 (by decide) ?_
    refine p_iret (pc := 17) C dX4_reading_17 ?_
    first
      | (refine ⟨fun q hq => by (repeat (refine mg_n (by omega) ?_)); rfl, ?_⟩; rw [if_pos (by omega)]; exact ⟨rfl, hV⟩)
      | (refine ⟨fun q hq => by (repeat (refine mg_n (by omega) ?_)); rfl, ?_⟩; rw [if_neg (by omega), if_pos (by omega)]; exact ⟨rfl, hV⟩)
      | (refine ⟨fun q hq => by (repeat (refine mg_n (by omega) ?_)); rfl, ?_⟩; rw [if_neg (by omega), if_neg (by omega), if_pos (by omega)]; exact ⟨rfl, hV⟩)
      | (refine ⟨fun q hq => by (repeat (refine mg_n (by omega) ?_)); rfl, ?_⟩; rw [if_neg (by omega), if_neg (by omega), if_neg (by omega)]; exact ⟨sv (by omega), CV_0 (CV_12 (CV_11 (CV_10 hV)))⟩)
  · refine p_aload_n (pc := 8) C dX4_reading_8 rfl ?_
    refine p_iload_n (pc := 9) C dX4_reading_9 rfl ?_
    refine p_callVF (pc := 10) C ln_X4_124 dX4_reading_10 (k_X4_isPort a0) ⟨by omega, by omega⟩ (by (repeat refine mg_n (by omega) ?_); first | assumption | exact mup_s _ _ _) rfl rfl rfl rfl (Nat.le_of_ble_eq_true rfl) ?_
    refine p_ifne_b (pc := 13) (tgt := 18) C dX4_reading_13 (by decide) (fun c_13 => ?_) (fun c_13 => ?_)
    · refine p_iload_n (pc := 18) C dX4_reading_18 rfl ?_
      refine p_iconst (pc := 19) C dX4_reading_19 (by decide) ?_
      refine p_callSF (pc := 20) C ln_X4_127 dX4_reading_20 (k_X4_isUpTo) rfl rfl (Nat.le_of_ble_eq_true rfl) ?_
      refine p_ifne_b (pc := 23) (tgt := 29) C dX4_reading_23 (by decide) (fun c_23 => ?_) (fun c_23 => ?_)
      · refine p_aload_n (pc := 29) C dX4_reading_29 rfl ?_
        refine p_get (pc := 30) C fl_X4_181 dX4_reading_30 ⟨by omega, by omega⟩ (by (repeat refine mg_n (by omega) ?_); first | assumption | exact mup_s _ _ _) (by rfl) ?_
        refine p_bipush (pc := 33) C dX4_reading_33 (by decide) ?_
        refine p_icmp_lt (pc := 35) (tgt := 41) C dX4_reading_35 (by decide) (fun c_35 => ?_) (fun c_35 => ?_)
        · refine p_aload_n (pc := 41) C dX4_reading_41 rfl ?_
          refine p_get (pc := 42) C fl_X4_41 dX4_reading_42 ⟨by omega, by omega⟩ (by (repeat refine mg_n (by omega) ?_); first | assumption | exact mup_s _ _ _) (by rfl) ?_
          refine p_aload_n (pc := 45) C dX4_reading_45 rfl ?_
          refine p_get (pc := 46) C fl_X4_181 dX4_reading_46 ⟨by omega, by omega⟩ (by (repeat refine mg_n (by omega) ?_); first | assumption | exact mup_s _ _ _) (by rfl) ?_
          refine p_iload_n (pc := 49) C dX4_reading_49 rfl ?_
          refine p_iast (pc := 50) C dX4_reading_50 ⟨by omega, by omega⟩ (by (repeat refine mg_n (by omega) ?_); first | assumption | exact mup_s _ _ _) (by omega) ?_
          try refine p_mem (mup_mup _ _ _ _) ?_
          refine p_aload_n (pc := 51) C dX4_reading_51 rfl ?_
          refine p_get (pc := 52) C fl_X4_44 dX4_reading_52 ⟨by omega, by omega⟩ (by (repeat refine mg_n (by omega) ?_); first | assumption | exact mup_s _ _ _) (by rfl) ?_
          refine p_aload_n (pc := 55) C dX4_reading_55 rfl ?_
          refine p_get (pc := 56) C fl_X4_181 dX4_reading_56 ⟨by omega, by omega⟩ (by (repeat refine mg_n (by omega) ?_); first | assumption | exact mup_s _ _ _) (by rfl) ?_
          refine p_iload_n (pc := 59) C dX4_reading_59 rfl ?_
          refine p_iast (pc := 60) C dX4_reading_60 ⟨by omega, by omega⟩ (by (repeat refine mg_n (by omega) ?_); first | assumption | exact mup_s _ _ _) (by omega) ?_
          try refine p_mem (mup_mup _ _ _ _) ?_
          refine p_aload_n (pc := 61) C dX4_reading_61 rfl ?_
          refine p_get (pc := 62) C fl_X4_47 dX4_reading_62 ⟨by omega, by omega⟩ (by (repeat refine mg_n (by omega) ?_); first | assumption | exact mup_s _ _ _) (by rfl) ?_
          refine p_aload_n (pc := 65) C dX4_reading_65 rfl ?_
          refine p_get (pc := 66) C fl_X4_181 dX4_reading_66 ⟨by omega, by omega⟩ (by (repeat refine mg_n (by omega) ?_); first | assumption | exact mup_s _ _ _) (by rfl) ?_
          refine p_iload_n (pc := 69) C dX4_reading_69 rfl ?_
          refine p_iast (pc := 70) C dX4_reading_70 ⟨by omega, by omega⟩ (by (repeat refine mg_n (by omega) ?_); first | assumption | exact mup_s _ _ _) (by omega) ?_
          try refine p_mem (mup_mup _ _ _ _) ?_
          refine p_aload_n (pc := 71) C dX4_reading_71 rfl ?_
          refine p_dup (pc := 72) C dX4_reading_72 rfl ?_
          refine p_get (pc := 73) C fl_X4_181 dX4_reading_73 ⟨by omega, by omega⟩ (by (repeat refine mg_n (by omega) ?_); first | assumption | exact mup_s _ _ _) (by rfl) ?_
          refine p_iconst (pc := 76) C dX4_reading_76 (by decide) ?_
          refine p_iadd (pc := 77) C dX4_reading_77 ⟨by omega, by omega⟩ ?_
          refine p_putL (pc := 78) (fs' := [_, _, _, _, _, _, _, _, _, _, _, _, _, _, _, _]) C fp_X4_181 dX4_reading_78 ⟨by omega, by omega⟩ (by (repeat refine mg_n (by omega) ?_); first | assumption | exact mup_s _ _ _) (by exact Nat.le_of_ble_eq_true rfl) (by rfl) ?_
          try refine p_mem (mup_mup _ _ _ _) ?_
          refine p_aload_n (pc := 81) C dX4_reading_81 rfl ?_
          refine p_get (pc := 82) C fl_X4_181 dX4_reading_82 ⟨by omega, by omega⟩ (by (repeat refine mg_n (by omega) ?_); first | assumption | exact mup_s _ _ _) (by rfl) ?_
          refine p_iconst (pc := 85) C dX4_reading_85 (by decide) ?_
          refine p_isub (pc := 86) C dX4_reading_86 ⟨by omega, by omega⟩ ?_
          refine p_iret (pc := 87) C dX4_reading_87 ?_
          first
            | (refine ⟨fun q hq => by (repeat (refine mg_n (by omega) ?_)); rfl, ?_⟩; rw [if_pos (by omega)]; exact ⟨rfl, hV⟩)
            | (refine ⟨fun q hq => by (repeat (refine mg_n (by omega) ?_)); rfl, ?_⟩; rw [if_neg (by omega), if_pos (by omega)]; exact ⟨rfl, hV⟩)
            | (refine ⟨fun q hq => by (repeat (refine mg_n (by omega) ?_)); rfl, ?_⟩; rw [if_neg (by omega), if_neg (by omega), if_pos (by omega)]; exact ⟨rfl, hV⟩)
            | (refine ⟨fun q hq => by (repeat (refine mg_n (by omega) ?_)); rfl, ?_⟩; rw [if_neg (by omega), if_neg (by omega), if_neg (by omega)]; exact ⟨sv (by omega), CV_0 (CV_12 (CV_11 (CV_10 hV)))⟩)
        · refine p_bipush (pc := 38) C dX4_reading_38 (by decide) ?_
          refine p_iret (pc := 40) C dX4_reading_40 ?_
          first
            | (refine ⟨fun q hq => by (repeat (refine mg_n (by omega) ?_)); rfl, ?_⟩; rw [if_pos (by omega)]; exact ⟨rfl, hV⟩)
            | (refine ⟨fun q hq => by (repeat (refine mg_n (by omega) ?_)); rfl, ?_⟩; rw [if_neg (by omega), if_pos (by omega)]; exact ⟨rfl, hV⟩)
            | (refine ⟨fun q hq => by (repeat (refine mg_n (by omega) ?_)); rfl, ?_⟩; rw [if_neg (by omega), if_neg (by omega), if_pos (by omega)]; exact ⟨rfl, hV⟩)
            | (refine ⟨fun q hq => by (repeat (refine mg_n (by omega) ?_)); rfl, ?_⟩; rw [if_neg (by omega), if_neg (by omega), if_neg (by omega)]; exact ⟨sv (by omega), CV_0 (CV_12 (CV_11 (CV_10 hV)))⟩)
      · refine p_bipush (pc := 26) C dX4_reading_26 (by decide) ?_
        refine p_iret (pc := 28) C dX4_reading_28 ?_
        first
          | (refine ⟨fun q hq => by (repeat (refine mg_n (by omega) ?_)); rfl, ?_⟩; rw [if_pos (by omega)]; exact ⟨rfl, hV⟩)
          | (refine ⟨fun q hq => by (repeat (refine mg_n (by omega) ?_)); rfl, ?_⟩; rw [if_neg (by omega), if_pos (by omega)]; exact ⟨rfl, hV⟩)
          | (refine ⟨fun q hq => by (repeat (refine mg_n (by omega) ?_)); rfl, ?_⟩; rw [if_neg (by omega), if_neg (by omega), if_pos (by omega)]; exact ⟨rfl, hV⟩)
          | (refine ⟨fun q hq => by (repeat (refine mg_n (by omega) ?_)); rfl, ?_⟩; rw [if_neg (by omega), if_neg (by omega), if_neg (by omega)]; exact ⟨sv (by omega), CV_0 (CV_12 (CV_11 (CV_10 hV)))⟩)
    · refine p_iconst (pc := 16) C dX4_reading_16 (by decide) ?_
      refine p_iret (pc := 17) C dX4_reading_17 ?_
      first
        | (refine ⟨fun q hq => by (repeat (refine mg_n (by omega) ?_)); rfl, ?_⟩; rw [if_pos (by omega)]; exact ⟨rfl, hV⟩)
        | (refine ⟨fun q hq => by (repeat (refine mg_n (by omega) ?_)); rfl, ?_⟩; rw [if_neg (by omega), if_pos (by omega)]; exact ⟨rfl, hV⟩)
        | (refine ⟨fun q hq => by (repeat (refine mg_n (by omega) ?_)); rfl, ?_⟩; rw [if_neg (by omega), if_neg (by omega), if_pos (by omega)]; exact ⟨rfl, hV⟩)
        | (refine ⟨fun q hq => by (repeat (refine mg_n (by omega) ?_)); rfl, ?_⟩; rw [if_neg (by omega), if_neg (by omega), if_neg (by omega)]; exact ⟨sv (by omega), CV_0 (CV_12 (CV_11 (CV_10 hV)))⟩)

set_option maxHeartbeats 4000000 in
set_option maxRecDepth 100000 in
theorem q_X4_as {K : KX} {d : Nat} {μ : Int → ME} {k x : Int} {np ns day nr tr fl : Int} {rg kd nm sg pt : Int → Int} {ca : Int → Int → Int} {rs rp rl th la ln : Int → Int} {ce : Int → Int → Int} (hV : CV np ns day nr tr fl rg kd nm sg pt ca rs rp rl th la ln ce μ) (hW : WF np ns day nr tr fl rg kd nm sg pt ca rs rp rl th la ln ce) : Ct K (d + 2) yX4_as cX4_as 3 (some .int) [vR 0, vI k, vI x] μ (fun r μ' => (∀ a, 42 ≤ a → μ' a = μ a) ∧ (if ¬ (0 ≤ k ∧ k < ns) then r = some (vI (-1)) ∧ CV np ns day nr tr (0) rg kd nm sg pt ca rs rp rl th la ln ce μ' else if ¬ (0 ≤ x ∧ x < 3) then r = some (vI (-2)) ∧ CV np ns day nr tr (0) rg kd nm sg pt ca rs rp rl th la ln ce μ' else if kd k < x then r = some (vI (-12)) ∧ CV np ns day nr tr (2) rg kd nm sg pt ca rs rp rl th la ln ce μ' else r = some (vI (1)) ∧ CV np ns day nr tr (0) rg kd nm sg pt ca rs rp rl th la ln ce μ')) := by
  refine Ct.of (by decide) (Nat.le_of_ble_eq_true rfl) (fun X C => ?_)
  obtain ⟨⟨a0, a1, a2, a3⟩, ⟨b4, b5, b6, b7, b8, b9⟩, ⟨c0, c1, c2, c3⟩, dd, ee, ff⟩ := id hV
  obtain ⟨w0, w1, w2, w3, w4, w5, w6⟩ := id hW
  refine p_aload_n (pc := 0) C dX4_as_0 rfl ?_
  refine p_iconst (pc := 1) C dX4_as_1 (by decide) ?_
  refine p_putL (pc := 2) (fs' := [_, _, _, _, _, _, _, _, _, _, _, _, _, _, _, _]) C fp_X4_58 dX4_as_2 ⟨by omega, by omega⟩ (by (repeat refine mg_n (by omega) ?_); first | assumption | exact mup_s _ _ _) (by exact Nat.le_of_ble_eq_true rfl) (by rfl) ?_
  try refine p_mem (mup_mup _ _ _ _) ?_
  refine p_aload_n (pc := 5) C dX4_as_5 rfl ?_
  refine p_iload_n (pc := 6) C dX4_as_6 rfl ?_
  refine p_callVF (pc := 7) C ln_X4_89 dX4_as_7 (k_X4_isShip (by (repeat refine mg_n (by omega) ?_); first | assumption | exact mup_s _ _ _)) ⟨by omega, by omega⟩ (by (repeat refine mg_n (by omega) ?_); first | assumption | exact mup_s _ _ _) rfl rfl rfl rfl (Nat.le_of_ble_eq_true rfl) ?_
  refine p_ifne_b (pc := 10) (tgt := 15) C dX4_as_10 (by decide) (fun c_10 => ?_) (fun c_10 => ?_)
  · refine p_iload_n (pc := 15) C dX4_as_15 rfl ?_
    refine p_iconst (pc := 16) C dX4_as_16 (by decide) ?_
    refine p_callSF (pc := 17) C ln_X4_66 dX4_as_17 (k_X4_isBelow) rfl rfl (Nat.le_of_ble_eq_true rfl) ?_
    refine p_ifne_b (pc := 20) (tgt := 26) C dX4_as_20 (by decide) (fun c_20 => ?_) (fun c_20 => ?_)
    · obtain ⟨s1, s2⟩ := dd k (by omega) (by omega)
      obtain ⟨n1, n2, n3⟩ := w3 k (by omega) (by omega)
      obtain ⟨x1, x2⟩ := w4 k (by omega) (by omega)
      refine p_iload_n (pc := 26) C dX4_as_26 rfl ?_
      refine p_aload_n (pc := 27) C dX4_as_27 rfl ?_
      refine p_get (pc := 28) C fl_X4_17 dX4_as_28 ⟨by omega, by omega⟩ (by (repeat refine mg_n (by omega) ?_); first | assumption | exact mup_s _ _ _) (by rfl) ?_
      refine p_iload_n (pc := 31) C dX4_as_31 rfl ?_
      refine p_aald (pc := 32) C dX4_as_32 ⟨by omega, by omega⟩ (by (repeat refine mg_n (by omega) ?_); first | assumption | exact mup_s _ _ _) (by decide) (by omega) (by rfl) ?_
      refine p_get (pc := 33) C fl_X4_92 dX4_as_33 ⟨by omega, by omega⟩ (by (repeat refine mg_n (by omega) ?_); first | assumption | exact mup_s _ _ _) (by rfl) ?_
      refine p_icmp_le (pc := 36) (tgt := 47) C dX4_as_36 (by decide) (fun c_36 => ?_) (fun c_36 => ?_)
      · refine p_iconst (pc := 47) C dX4_as_47 (by decide) ?_
        refine p_iret (pc := 48) C dX4_as_48 ?_
        first
          | (refine ⟨fun q hq => by (repeat (refine mg_n (by omega) ?_)); rfl, ?_⟩; rw [if_pos (by omega)]; exact ⟨rfl, CV_0 hV⟩)
          | (refine ⟨fun q hq => by (repeat (refine mg_n (by omega) ?_)); rfl, ?_⟩; rw [if_neg (by omega), if_pos (by omega)]; exact ⟨rfl, CV_0 hV⟩)
          | (refine ⟨fun q hq => by (repeat (refine mg_n (by omega) ?_)); rfl, ?_⟩; rw [if_neg (by omega), if_neg (by omega), if_pos (by omega)]; exact ⟨rfl, CV_0 hV⟩)
          | (refine ⟨fun q hq => by (repeat (refine mg_n (by omega) ?_)); rfl, ?_⟩; rw [if_neg (by omega), if_neg (by omega), if_neg (by omega)]; exact ⟨rfl, CV_0 hV⟩)
      · refine p_aload_n (pc := 39) C dX4_as_39 rfl ?_
        refine p_iconst (pc := 40) C dX4_as_40 (by decide) ?_
        refine p_callVF (pc := 41) C ln_X4_74 dX4_as_41 (k_X4_faulted (by omega) (by (repeat refine mg_n (by omega) ?_); first | assumption | exact mup_s _ _ _)) ⟨by omega, by omega⟩ (by (repeat refine mg_n (by omega) ?_); first | assumption | exact mup_s _ _ _) rfl rfl rfl rfl (Nat.le_of_ble_eq_true rfl) ?_
        refine p_mem (mup_mup _ _ _ _) ?_
        refine p_goto (pc := 44) (tgt := 48) C dX4_as_44 (by decide) ?_
        refine p_iret (pc := 48) C dX4_as_48 ?_
        first
          | (refine ⟨fun q hq => by (repeat (refine mg_n (by omega) ?_)); rfl, ?_⟩; rw [if_pos (by omega)]; exact ⟨rfl, CV_0 hV⟩)
          | (refine ⟨fun q hq => by (repeat (refine mg_n (by omega) ?_)); rfl, ?_⟩; rw [if_neg (by omega), if_pos (by omega)]; exact ⟨rfl, CV_0 hV⟩)
          | (refine ⟨fun q hq => by (repeat (refine mg_n (by omega) ?_)); rfl, ?_⟩; rw [if_neg (by omega), if_neg (by omega), if_pos (by omega)]; exact ⟨rfl, CV_0 hV⟩)
          | (refine ⟨fun q hq => by (repeat (refine mg_n (by omega) ?_)); rfl, ?_⟩; rw [if_neg (by omega), if_neg (by omega), if_neg (by omega)]; exact ⟨rfl, CV_0 hV⟩)
    · refine p_bipush (pc := 23) C dX4_as_23 (by decide) ?_
      refine p_iret (pc := 25) C dX4_as_25 ?_
      first
        | (refine ⟨fun q hq => by (repeat (refine mg_n (by omega) ?_)); rfl, ?_⟩; rw [if_pos (by omega)]; exact ⟨rfl, CV_0 hV⟩)
        | (refine ⟨fun q hq => by (repeat (refine mg_n (by omega) ?_)); rfl, ?_⟩; rw [if_neg (by omega), if_pos (by omega)]; exact ⟨rfl, CV_0 hV⟩)
        | (refine ⟨fun q hq => by (repeat (refine mg_n (by omega) ?_)); rfl, ?_⟩; rw [if_neg (by omega), if_neg (by omega), if_pos (by omega)]; exact ⟨rfl, CV_0 hV⟩)
        | (refine ⟨fun q hq => by (repeat (refine mg_n (by omega) ?_)); rfl, ?_⟩; rw [if_neg (by omega), if_neg (by omega), if_neg (by omega)]; exact ⟨rfl, CV_0 hV⟩)
  · refine p_iconst (pc := 13) C dX4_as_13 (by decide) ?_
    refine p_iret (pc := 14) C dX4_as_14 ?_
    first
      | (refine ⟨fun q hq => by (repeat (refine mg_n (by omega) ?_)); rfl, ?_⟩; rw [if_pos (by omega)]; exact ⟨rfl, CV_0 hV⟩)
      | (refine ⟨fun q hq => by (repeat (refine mg_n (by omega) ?_)); rfl, ?_⟩; rw [if_neg (by omega), if_pos (by omega)]; exact ⟨rfl, CV_0 hV⟩)
      | (refine ⟨fun q hq => by (repeat (refine mg_n (by omega) ?_)); rfl, ?_⟩; rw [if_neg (by omega), if_neg (by omega), if_pos (by omega)]; exact ⟨rfl, CV_0 hV⟩)
      | (refine ⟨fun q hq => by (repeat (refine mg_n (by omega) ?_)); rfl, ?_⟩; rw [if_neg (by omega), if_neg (by omega), if_neg (by omega)]; exact ⟨rfl, CV_0 hV⟩)

set_option maxHeartbeats 4000000 in
set_option maxRecDepth 100000 in
theorem q_X4_tell {K : KX} {d : Nat} {μ : Int → ME} {k : Int} {np ns day nr tr fl : Int} {rg kd nm sg pt : Int → Int} {ca : Int → Int → Int} {rs rp rl th la ln : Int → Int} {ce : Int → Int → Int} (hV : CV np ns day nr tr fl rg kd nm sg pt ca rs rp rl th la ln ce μ) (hW : WF np ns day nr tr fl rg kd nm sg pt ca rs rp rl th la ln ce) : Ct K (d + 4) yX4_tell cX4_tell 3 (some .int) [vR 0, vI k] μ (fun r μ' => (∀ a, 42 ≤ a → μ' a = μ a) ∧ (if ¬ (0 ≤ k ∧ k < ns) then r = some (vI (-1)) ∧ CV np ns day nr tr fl rg kd nm sg pt ca rs rp rl th la ln ce μ' else if kd k = 1 then r = some (vI (sg k + 100)) ∧ CV np ns day nr (iwr (iwr (31 * (iwr (iwr (31 * tr) + 2))) + 1)) fl rg kd nm sg pt ca rs rp rl th la ln ce μ' else if kd k = 2 then r = some (vI (2 * sg k + 100)) ∧ CV np ns day nr (iwr (iwr (31 * (iwr (iwr (31 * (iwr (iwr (31 * (iwr (iwr (31 * tr) + 3))) + 2))) + 1))) + 1)) fl rg kd nm sg pt ca rs rp rl th la ln ce μ' else r = some (vI (sg k)) ∧ CV np ns day nr (iwr (iwr (31 * tr) + 1)) fl rg kd nm sg pt ca rs rp rl th la ln ce μ')) := by
  refine Ct.of (by decide) (Nat.le_of_ble_eq_true rfl) (fun X C => ?_)
  obtain ⟨⟨a0, a1, a2, a3⟩, ⟨b4, b5, b6, b7, b8, b9⟩, ⟨c0, c1, c2, c3⟩, dd, ee, ff⟩ := id hV
  obtain ⟨w0, w1, w2, w3, w4, w5, w6⟩ := id hW
  refine p_aload_n (pc := 0) C dX4_tell_0 rfl ?_
  refine p_iload_n (pc := 1) C dX4_tell_1 rfl ?_
  refine p_callVF (pc := 2) C ln_X4_89 dX4_tell_2 (k_X4_isShip (by (repeat refine mg_n (by omega) ?_); first | assumption | exact mup_s _ _ _)) ⟨by omega, by omega⟩ (by (repeat refine mg_n (by omega) ?_); first | assumption | exact mup_s _ _ _) rfl rfl rfl rfl (Nat.le_of_ble_eq_true rfl) ?_
  refine p_ifne_b (pc := 5) (tgt := 10) C dX4_tell_5 (by decide) (fun c_5 => ?_) (fun c_5 => ?_)
  · obtain ⟨s1, s2⟩ := dd k (by omega) (by omega)
    obtain ⟨n1, n2, n3⟩ := w3 k (by omega) (by omega)
    obtain ⟨x1, x2⟩ := w4 k (by omega) (by omega)
    refine p_aload_n (pc := 10) C dX4_tell_10 rfl ?_
    refine p_get (pc := 11) C fl_X4_17 dX4_tell_11 ⟨by omega, by omega⟩ (by (repeat refine mg_n (by omega) ?_); first | assumption | exact mup_s _ _ _) (by rfl) ?_
    refine p_iload_n (pc := 14) C dX4_tell_14 rfl ?_
    refine p_aald (pc := 15) C dX4_tell_15 ⟨by omega, by omega⟩ (by (repeat refine mg_n (by omega) ?_); first | assumption | exact mup_s _ _ _) (by decide) (by omega) (by rfl) ?_
    refine p_astore_n (pc := 16) (ls' := [(2, _), (0, _), (1, _)]) C dX4_tell_16 (by decide) rfl ?_
    refine p_aload_n (pc := 17) C dX4_tell_17 rfl ?_
    refine p_get (pc := 18) C fl_X4_92 dX4_tell_18 ⟨by omega, by omega⟩ (by (repeat refine mg_n (by omega) ?_); first | assumption | exact mup_s _ _ _) (by rfl) ?_
    by_cases s_21_1 : (kd k) = 1
    · refine p_look (pc := 21) (off := 33) (tgt := 54) C dX4_tell_21 (by decide) (by rw [s_21_1]; rfl) (by decide) ?_
      refine p_aload_n (pc := 54) C dX4_tell_54 rfl ?_
      refine p_aload_n (pc := 55) C dX4_tell_55 rfl ?_
      refine p_callVF (pc := 56) C ln_X4_243 dX4_tell_56 (k_X4_tellCutter ⟨by omega, by omega⟩ s1 a0 (by omega) n3) ⟨by omega, by omega⟩ (by (repeat refine mg_n (by omega) ?_); first | assumption | exact mup_s _ _ _) rfl rfl rfl rfl (Nat.le_of_ble_eq_true rfl) ?_
      refine p_iret (pc := 59) C dX4_tell_59 ?_
      first
        | (refine ⟨fun q hq => by (repeat (refine mg_n (by omega) ?_)); rfl, ?_⟩; rw [if_pos (by omega)]; exact ⟨rfl, hV⟩)
        | (refine ⟨fun q hq => by (repeat (refine mg_n (by omega) ?_)); rfl, ?_⟩; rw [if_neg (by omega), if_pos (by omega)]; exact ⟨rfl, CV_0 hV⟩)
        | (refine ⟨fun q hq => by (repeat (refine mg_n (by omega) ?_)); rfl, ?_⟩; rw [if_neg (by omega), if_neg (by omega), if_pos (by omega)]; exact ⟨rfl, CV_0 hV⟩)
        | (refine ⟨fun q hq => by (repeat (refine mg_n (by omega) ?_)); rfl, ?_⟩; rw [if_neg (by omega), if_neg (by omega), if_neg (by omega)]; exact ⟨rfl, CV_0 hV⟩)
    by_cases s_21_2 : (kd k) = 2
    · refine p_look (pc := 21) (off := 27) (tgt := 48) C dX4_tell_21 (by decide) (by rw [s_21_2]; rfl) (by decide) ?_
      refine p_aload_n (pc := 48) C dX4_tell_48 rfl ?_
      refine p_aload_n (pc := 49) C dX4_tell_49 rfl ?_
      refine p_callVF (pc := 50) C ln_X4_240 dX4_tell_50 (k_X4_tellSloop ⟨by omega, by omega⟩ s1 a0 (by omega) n3) ⟨by omega, by omega⟩ (by (repeat refine mg_n (by omega) ?_); first | assumption | exact mup_s _ _ _) rfl rfl rfl rfl (Nat.le_of_ble_eq_true rfl) ?_
      refine p_iret (pc := 53) C dX4_tell_53 ?_
      first
        | (refine ⟨fun q hq => by (repeat (refine mg_n (by omega) ?_)); rfl, ?_⟩; rw [if_pos (by omega)]; exact ⟨rfl, hV⟩)
        | (refine ⟨fun q hq => by (repeat (refine mg_n (by omega) ?_)); rfl, ?_⟩; rw [if_neg (by omega), if_pos (by omega)]; exact ⟨rfl, CV_0 hV⟩)
        | (refine ⟨fun q hq => by (repeat (refine mg_n (by omega) ?_)); rfl, ?_⟩; rw [if_neg (by omega), if_neg (by omega), if_pos (by omega)]; exact ⟨rfl, CV_0 hV⟩)
        | (refine ⟨fun q hq => by (repeat (refine mg_n (by omega) ?_)); rfl, ?_⟩; rw [if_neg (by omega), if_neg (by omega), if_neg (by omega)]; exact ⟨rfl, CV_0 hV⟩)
    refine p_look (pc := 21) (off := 39) (tgt := 60) C dX4_tell_21 (by decide) (by show (if (1 : Int) = (kd k) then (33 : Int) else if (2 : Int) = (kd k) then (27 : Int) else (39 : Int)) = (39 : Int); rw [if_neg (by omega), if_neg (by omega)]) (by decide) ?_
    refine p_aload_n (pc := 60) C dX4_tell_60 rfl ?_
    refine p_aload_n (pc := 61) C dX4_tell_61 rfl ?_
    refine p_callVF (pc := 62) C ln_X4_246 dX4_tell_62 (k_X4_tellBarge ⟨by omega, by omega⟩ s1 a0 (by omega)) ⟨by omega, by omega⟩ (by (repeat refine mg_n (by omega) ?_); first | assumption | exact mup_s _ _ _) rfl rfl rfl rfl (Nat.le_of_ble_eq_true rfl) ?_
    refine p_iret (pc := 65) C dX4_tell_65 ?_
    first
      | (refine ⟨fun q hq => by (repeat (refine mg_n (by omega) ?_)); rfl, ?_⟩; rw [if_pos (by omega)]; exact ⟨rfl, hV⟩)
      | (refine ⟨fun q hq => by (repeat (refine mg_n (by omega) ?_)); rfl, ?_⟩; rw [if_neg (by omega), if_pos (by omega)]; exact ⟨rfl, CV_0 hV⟩)
      | (refine ⟨fun q hq => by (repeat (refine mg_n (by omega) ?_)); rfl, ?_⟩; rw [if_neg (by omega), if_neg (by omega), if_pos (by omega)]; exact ⟨rfl, CV_0 hV⟩)
      | (refine ⟨fun q hq => by (repeat (refine mg_n (by omega) ?_)); rfl, ?_⟩; rw [if_neg (by omega), if_neg (by omega), if_neg (by omega)]; exact ⟨rfl, CV_0 hV⟩)
  · refine p_iconst (pc := 8) C dX4_tell_8 (by decide) ?_
    refine p_iret (pc := 9) C dX4_tell_9 ?_
    first
      | (refine ⟨fun q hq => by (repeat (refine mg_n (by omega) ?_)); rfl, ?_⟩; rw [if_pos (by omega)]; exact ⟨rfl, hV⟩)
      | (refine ⟨fun q hq => by (repeat (refine mg_n (by omega) ?_)); rfl, ?_⟩; rw [if_neg (by omega), if_pos (by omega)]; exact ⟨rfl, CV_0 hV⟩)
      | (refine ⟨fun q hq => by (repeat (refine mg_n (by omega) ?_)); rfl, ?_⟩; rw [if_neg (by omega), if_neg (by omega), if_pos (by omega)]; exact ⟨rfl, CV_0 hV⟩)
      | (refine ⟨fun q hq => by (repeat (refine mg_n (by omega) ?_)); rfl, ?_⟩; rw [if_neg (by omega), if_neg (by omega), if_neg (by omega)]; exact ⟨rfl, CV_0 hV⟩)

set_option maxHeartbeats 4000000 in
set_option maxRecDepth 100000 in
theorem q_X4_hail {K : KX} {d : Nat} {μ : Int → ME} {k : Int} {np ns day nr tr fl : Int} {rg kd nm sg pt : Int → Int} {ca : Int → Int → Int} {rs rp rl th la ln : Int → Int} {ce : Int → Int → Int} (hV : CV np ns day nr tr fl rg kd nm sg pt ca rs rp rl th la ln ce μ) (hW : WF np ns day nr tr fl rg kd nm sg pt ca rs rp rl th la ln ce) : Ct K (d + 2) yX4_hail cX4_hail 2 (some .int) [vR 0, vI k] μ (fun r μ' => (∀ a, 42 ≤ a → μ' a = μ a) ∧ (if ¬ (0 ≤ k ∧ k < ns) then r = some (vI (-1)) ∧ CV np ns day nr tr fl rg kd nm sg pt ca rs rp rl th la ln ce μ' else if kd k = 2 then r = some (vI (60)) ∧ CV np ns day nr (iwr (iwr (31 * tr) + 5)) fl rg kd nm sg pt ca rs rp rl th la ln ce μ' else r = some (vI (nm k)) ∧ CV np ns day nr (iwr (iwr (31 * tr) + 4)) fl rg kd nm sg pt ca rs rp rl th la ln ce μ')) := by
  refine Ct.of (by decide) (Nat.le_of_ble_eq_true rfl) (fun X C => ?_)
  obtain ⟨⟨a0, a1, a2, a3⟩, ⟨b4, b5, b6, b7, b8, b9⟩, ⟨c0, c1, c2, c3⟩, dd, ee, ff⟩ := id hV
  obtain ⟨w0, w1, w2, w3, w4, w5, w6⟩ := id hW
  refine p_aload_n (pc := 0) C dX4_hail_0 rfl ?_
  refine p_iload_n (pc := 1) C dX4_hail_1 rfl ?_
  refine p_callVF (pc := 2) C ln_X4_89 dX4_hail_2 (k_X4_isShip (by (repeat refine mg_n (by omega) ?_); first | assumption | exact mup_s _ _ _)) ⟨by omega, by omega⟩ (by (repeat refine mg_n (by omega) ?_); first | assumption | exact mup_s _ _ _) rfl rfl rfl rfl (Nat.le_of_ble_eq_true rfl) ?_
  refine p_ifne_b (pc := 5) (tgt := 10) C dX4_hail_5 (by decide) (fun c_5 => ?_) (fun c_5 => ?_)
  · obtain ⟨s1, s2⟩ := dd k (by omega) (by omega)
    obtain ⟨n1, n2, n3⟩ := w3 k (by omega) (by omega)
    obtain ⟨x1, x2⟩ := w4 k (by omega) (by omega)
    refine p_aload_n (pc := 10) C dX4_hail_10 rfl ?_
    refine p_get (pc := 11) C fl_X4_17 dX4_hail_11 ⟨by omega, by omega⟩ (by (repeat refine mg_n (by omega) ?_); first | assumption | exact mup_s _ _ _) (by rfl) ?_
    refine p_iload_n (pc := 14) C dX4_hail_14 rfl ?_
    refine p_aald (pc := 15) C dX4_hail_15 ⟨by omega, by omega⟩ (by (repeat refine mg_n (by omega) ?_); first | assumption | exact mup_s _ _ _) (by decide) (by omega) (by rfl) ?_
    refine p_get (pc := 16) C fl_X4_92 dX4_hail_16 ⟨by omega, by omega⟩ (by (repeat refine mg_n (by omega) ?_); first | assumption | exact mup_s _ _ _) (by rfl) ?_
    refine p_iconst (pc := 19) C dX4_hail_19 (by decide) ?_
    refine p_icmp_ne (pc := 20) (tgt := 30) C dX4_hail_20 (by decide) (fun c_20 => ?_) (fun c_20 => ?_)
    · refine p_aload_n (pc := 30) C dX4_hail_30 rfl ?_
      refine p_aload_n (pc := 31) C dX4_hail_31 rfl ?_
      refine p_get (pc := 32) C fl_X4_17 dX4_hail_32 ⟨by omega, by omega⟩ (by (repeat refine mg_n (by omega) ?_); first | assumption | exact mup_s _ _ _) (by rfl) ?_
      refine p_iload_n (pc := 35) C dX4_hail_35 rfl ?_
      refine p_aald (pc := 36) C dX4_hail_36 ⟨by omega, by omega⟩ (by (repeat refine mg_n (by omega) ?_); first | assumption | exact mup_s _ _ _) (by decide) (by omega) (by rfl) ?_
      refine p_callVF (pc := 37) C ln_X4_252 dX4_hail_37 (k_X4_hailLent ⟨by omega, by omega⟩ s1 a0 (by omega)) ⟨by omega, by omega⟩ (by (repeat refine mg_n (by omega) ?_); first | assumption | exact mup_s _ _ _) rfl rfl rfl rfl (Nat.le_of_ble_eq_true rfl) ?_
      refine p_iret (pc := 40) C dX4_hail_40 ?_
      first
        | (refine ⟨fun q hq => by (repeat (refine mg_n (by omega) ?_)); rfl, ?_⟩; rw [if_pos (by omega)]; exact ⟨rfl, hV⟩)
        | (refine ⟨fun q hq => by (repeat (refine mg_n (by omega) ?_)); rfl, ?_⟩; rw [if_neg (by omega), if_pos (by omega)]; exact ⟨rfl, CV_0 hV⟩)
        | (refine ⟨fun q hq => by (repeat (refine mg_n (by omega) ?_)); rfl, ?_⟩; rw [if_neg (by omega), if_neg (by omega)]; exact ⟨rfl, CV_0 hV⟩)
    · refine p_aload_n (pc := 23) C dX4_hail_23 rfl ?_
      refine p_callVF (pc := 24) C ln_X4_249 dX4_hail_24 (k_X4_hailSloop a0) ⟨by omega, by omega⟩ (by (repeat refine mg_n (by omega) ?_); first | assumption | exact mup_s _ _ _) rfl rfl rfl rfl (Nat.le_of_ble_eq_true rfl) ?_
      refine p_goto (pc := 27) (tgt := 40) C dX4_hail_27 (by decide) ?_
      refine p_iret (pc := 40) C dX4_hail_40 ?_
      first
        | (refine ⟨fun q hq => by (repeat (refine mg_n (by omega) ?_)); rfl, ?_⟩; rw [if_pos (by omega)]; exact ⟨rfl, hV⟩)
        | (refine ⟨fun q hq => by (repeat (refine mg_n (by omega) ?_)); rfl, ?_⟩; rw [if_neg (by omega), if_pos (by omega)]; exact ⟨rfl, CV_0 hV⟩)
        | (refine ⟨fun q hq => by (repeat (refine mg_n (by omega) ?_)); rfl, ?_⟩; rw [if_neg (by omega), if_neg (by omega)]; exact ⟨rfl, CV_0 hV⟩)
  · refine p_iconst (pc := 8) C dX4_hail_8 (by decide) ?_
    refine p_iret (pc := 9) C dX4_hail_9 ?_
    first
      | (refine ⟨fun q hq => by (repeat (refine mg_n (by omega) ?_)); rfl, ?_⟩; rw [if_pos (by omega)]; exact ⟨rfl, hV⟩)
      | (refine ⟨fun q hq => by (repeat (refine mg_n (by omega) ?_)); rfl, ?_⟩; rw [if_neg (by omega), if_pos (by omega)]; exact ⟨rfl, CV_0 hV⟩)
      | (refine ⟨fun q hq => by (repeat (refine mg_n (by omega) ?_)); rfl, ?_⟩; rw [if_neg (by omega), if_neg (by omega)]; exact ⟨rfl, CV_0 hV⟩)

set_option maxHeartbeats 4000000 in
set_option maxRecDepth 100000 in
theorem q_X4_lose {K : KX} {d : Nat} {μ : Int → ME} {k : Int} {np ns day nr tr fl : Int} {rg kd nm sg pt : Int → Int} {ca : Int → Int → Int} {rs rp rl th la ln : Int → Int} {ce : Int → Int → Int} (hV : CV np ns day nr tr fl rg kd nm sg pt ca rs rp rl th la ln ce μ) (hW : WF np ns day nr tr fl rg kd nm sg pt ca rs rp rl th la ln ce) : Ct K (d + 2) yX4_lose cX4_lose 3 (some .int) [vR 0, vI k] μ (fun r μ' => (∀ a, 42 ≤ a → μ' a = μ a) ∧ (if ¬ (0 ≤ k ∧ k < 4) then r = some (vI (-1)) ∧ CV np ns day nr tr fl rg kd nm sg pt ca rs rp rl th la ln ce μ' else r = some (vI (th k)) ∧ CV np ns day nr tr fl rg kd nm sg pt ca rs rp rl (fup th k 0) la ln ce μ')) := by
  refine Ct.of (by decide) (Nat.le_of_ble_eq_true rfl) (fun X C => ?_)
  obtain ⟨⟨a0, a1, a2, a3⟩, ⟨b4, b5, b6, b7, b8, b9⟩, ⟨c0, c1, c2, c3⟩, dd, ee, ff⟩ := id hV
  obtain ⟨w0, w1, w2, w3, w4, w5, w6⟩ := id hW
  refine p_iload_n (pc := 0) C dX4_lose_0 rfl ?_
  refine p_callSF (pc := 1) C ln_X4_62 dX4_lose_1 (k_X4_isSheet) rfl rfl (Nat.le_of_ble_eq_true rfl) ?_
  refine p_ifne_b (pc := 4) (tgt := 9) C dX4_lose_4 (by decide) (fun c_4 => ?_) (fun c_4 => ?_)
  · obtain ⟨r1, r2⟩ := ff k (by omega) (by omega)
    obtain ⟨y1, y2, y3⟩ := w6 k (by omega) (by omega)
    refine p_aload_n (pc := 9) C dX4_lose_9 rfl ?_
    refine p_get (pc := 10) C fl_X4_52 dX4_lose_10 ⟨by omega, by omega⟩ (by (repeat refine mg_n (by omega) ?_); first | assumption | exact mup_s _ _ _) (by rfl) ?_
    refine p_iload_n (pc := 13) C dX4_lose_13 rfl ?_
    refine p_aald (pc := 14) C dX4_lose_14 ⟨by omega, by omega⟩ (by (repeat refine mg_n (by omega) ?_); first | assumption | exact mup_s _ _ _) (by decide) (by omega) (by rfl) ?_
    refine p_get (pc := 15) C fl_X4_218 dX4_lose_15 ⟨by omega, by omega⟩ (by (repeat refine mg_n (by omega) ?_); first | assumption | exact mup_s _ _ _) (by rfl) ?_
    refine p_if_eq (pc := 18) (tgt := 25) C dX4_lose_18 (by decide) (fun c_18 => ?_) (fun c_18 => ?_)
    · refine p_iconst (pc := 25) C dX4_lose_25 (by decide) ?_
      refine p_istore_n (pc := 26) (ls' := [(2, _), (0, _), (1, _)]) C dX4_lose_26 (by decide) rfl ?_
      refine p_aload_n (pc := 27) C dX4_lose_27 rfl ?_
      refine p_get (pc := 28) C fl_X4_52 dX4_lose_28 ⟨by omega, by omega⟩ (by (repeat refine mg_n (by omega) ?_); first | assumption | exact mup_s _ _ _) (by rfl) ?_
      refine p_iload_n (pc := 31) C dX4_lose_31 rfl ?_
      refine p_aald (pc := 32) C dX4_lose_32 ⟨by omega, by omega⟩ (by (repeat refine mg_n (by omega) ?_); first | assumption | exact mup_s _ _ _) (by decide) (by omega) (by rfl) ?_
      refine p_iconst (pc := 33) C dX4_lose_33 (by decide) ?_
      refine p_putLZ (pc := 34) (fs' := [_, _, _, _]) C fp_X4_218 dX4_lose_34 ⟨by omega, by omega⟩ (by (repeat refine mg_n (by omega) ?_); first | assumption | exact mup_s _ _ _) (by exact Nat.le_of_ble_eq_true rfl) (by decide) (by rfl) ?_
      try refine p_mem (mup_mup _ _ _ _) ?_
      refine p_iload_n (pc := 37) C dX4_lose_37 rfl ?_
      refine p_iret (pc := 38) C dX4_lose_38 ?_
      first
        | (refine ⟨fun q hq => by (repeat (refine mg_n (by omega) ?_)); rfl, ?_⟩; rw [if_pos (by omega)]; exact ⟨rfl, hV⟩)
        | (refine ⟨fun q hq => by (repeat (refine mg_n (by omega) ?_)); rfl, ?_⟩; rw [if_neg (by omega)]; exact ⟨sv (by omega), (by have hz := CV_row (k := k) (x := 0) (y := la k) (z := ln k) hV (by omega) (by omega); rw [fup_id, fup_id] at hz; exact hz)⟩)
    · refine p_iconst (pc := 21) C dX4_lose_21 (by decide) ?_
      refine p_goto (pc := 22) (tgt := 26) C dX4_lose_22 (by decide) ?_
      refine p_istore_n (pc := 26) (ls' := [(2, _), (0, _), (1, _)]) C dX4_lose_26 (by decide) rfl ?_
      refine p_aload_n (pc := 27) C dX4_lose_27 rfl ?_
      refine p_get (pc := 28) C fl_X4_52 dX4_lose_28 ⟨by omega, by omega⟩ (by (repeat refine mg_n (by omega) ?_); first | assumption | exact mup_s _ _ _) (by rfl) ?_
      refine p_iload_n (pc := 31) C dX4_lose_31 rfl ?_
      refine p_aald (pc := 32) C dX4_lose_32 ⟨by omega, by omega⟩ (by (repeat refine mg_n (by omega) ?_); first | assumption | exact mup_s _ _ _) (by decide) (by omega) (by rfl) ?_
      refine p_iconst (pc := 33) C dX4_lose_33 (by decide) ?_
      refine p_putLZ (pc := 34) (fs' := [_, _, _, _]) C fp_X4_218 dX4_lose_34 ⟨by omega, by omega⟩ (by (repeat refine mg_n (by omega) ?_); first | assumption | exact mup_s _ _ _) (by exact Nat.le_of_ble_eq_true rfl) (by decide) (by rfl) ?_
      try refine p_mem (mup_mup _ _ _ _) ?_
      refine p_iload_n (pc := 37) C dX4_lose_37 rfl ?_
      refine p_iret (pc := 38) C dX4_lose_38 ?_
      first
        | (refine ⟨fun q hq => by (repeat (refine mg_n (by omega) ?_)); rfl, ?_⟩; rw [if_pos (by omega)]; exact ⟨rfl, hV⟩)
        | (refine ⟨fun q hq => by (repeat (refine mg_n (by omega) ?_)); rfl, ?_⟩; rw [if_neg (by omega)]; exact ⟨sv (by omega), (by have hz := CV_row (k := k) (x := 0) (y := la k) (z := ln k) hV (by omega) (by omega); rw [fup_id, fup_id] at hz; exact hz)⟩)
  · refine p_iconst (pc := 7) C dX4_lose_7 (by decide) ?_
    refine p_iret (pc := 8) C dX4_lose_8 ?_
    first
      | (refine ⟨fun q hq => by (repeat (refine mg_n (by omega) ?_)); rfl, ?_⟩; rw [if_pos (by omega)]; exact ⟨rfl, hV⟩)
      | (refine ⟨fun q hq => by (repeat (refine mg_n (by omega) ?_)); rfl, ?_⟩; rw [if_neg (by omega)]; exact ⟨sv (by omega), (by have hz := CV_row (k := k) (x := 0) (y := la k) (z := ln k) hV (by omega) (by omega); rw [fup_id, fup_id] at hz; exact hz)⟩)

set_option maxHeartbeats 4000000 in
set_option maxRecDepth 100000 in
theorem q_X4_sheet {K : KX} {d : Nat} {μ : Int → ME} {k l n : Int} {np ns day nr tr fl : Int} {rg kd nm sg pt : Int → Int} {ca : Int → Int → Int} {rs rp rl th la ln : Int → Int} {ce : Int → Int → Int} (hV : CV np ns day nr tr fl rg kd nm sg pt ca rs rp rl th la ln ce μ) (hW : WF np ns day nr tr fl rg kd nm sg pt ca rs rp rl th la ln ce) : Ct K (d + 2) yX4_sheet cX4_sheet 4 (some .int) [vR 0, vI k, vI l, vI n] μ (fun r μ' => (∀ a, 42 ≤ a → μ' a = μ a) ∧ (if ¬ (0 ≤ k ∧ k < 4) then r = some (vI (-1)) ∧ CV np ns day nr tr (0) rg kd nm sg pt ca rs rp rl th la ln ce μ' else if ¬ ((0 ≤ l ∧ l < 3) ∧ n ≤ 60) then r = some (vI (-2)) ∧ CV np ns day nr tr (0) rg kd nm sg pt ca rs rp rl th la ln ce μ' else if n < 0 then r = some (vI (-14)) ∧ CV np ns day nr tr (4) rg kd nm sg pt ca rs rp rl th la ln ce μ' else r = some (vI (1)) ∧ CV np ns day nr tr (0) rg kd nm sg pt ca rs rp rl (fup th k 1) (fup la k l) (fup ln k n) (cup ce k (fz (ce k) n)) μ')) := by
  refine Ct.of (by decide) (Nat.le_of_ble_eq_true rfl) (fun X C => ?_)
  obtain ⟨⟨a0, a1, a2, a3⟩, ⟨b4, b5, b6, b7, b8, b9⟩, ⟨c0, c1, c2, c3⟩, dd, ee, ff⟩ := id hV
  obtain ⟨w0, w1, w2, w3, w4, w5, w6⟩ := id hW
  refine p_aload_n (pc := 0) C dX4_sheet_0 rfl ?_
  refine p_iconst (pc := 1) C dX4_sheet_1 (by decide) ?_
  refine p_putL (pc := 2) (fs' := [_, _, _, _, _, _, _, _, _, _, _, _, _, _, _, _]) C fp_X4_58 dX4_sheet_2 ⟨by omega, by omega⟩ (by (repeat refine mg_n (by omega) ?_); first | assumption | exact mup_s _ _ _) (by exact Nat.le_of_ble_eq_true rfl) (by rfl) ?_
  try refine p_mem (mup_mup _ _ _ _) ?_
  refine p_iload_n (pc := 5) C dX4_sheet_5 rfl ?_
  refine p_callSF (pc := 6) C ln_X4_62 dX4_sheet_6 (k_X4_isSheet) rfl rfl (Nat.le_of_ble_eq_true rfl) ?_
  refine p_ifne_b (pc := 9) (tgt := 14) C dX4_sheet_9 (by decide) (fun c_9 => ?_) (fun c_9 => ?_)
  · refine p_iload_n (pc := 14) C dX4_sheet_14 rfl ?_
    refine p_iconst (pc := 15) C dX4_sheet_15 (by decide) ?_
    refine p_callSF (pc := 16) C ln_X4_66 dX4_sheet_16 (k_X4_isBelow) rfl rfl (Nat.le_of_ble_eq_true rfl) ?_
    refine p_ifeq_b (pc := 19) (tgt := 28) C dX4_sheet_19 (by decide) (fun c_19 => ?_) (fun c_19 => ?_)
    · refine p_bipush (pc := 28) C dX4_sheet_28 (by decide) ?_
      refine p_iret (pc := 30) C dX4_sheet_30 ?_
      first
        | (refine ⟨fun q hq => by (repeat (refine mg_n (by omega) ?_)); rfl, ?_⟩; rw [if_pos (by omega)]; exact ⟨rfl, CV_0 hV⟩)
        | (refine ⟨fun q hq => by (repeat (refine mg_n (by omega) ?_)); rfl, ?_⟩; rw [if_neg (by omega), if_pos (by omega)]; exact ⟨rfl, CV_0 hV⟩)
        | (refine ⟨fun q hq => by (repeat (refine mg_n (by omega) ?_)); rfl, ?_⟩; rw [if_neg (by omega), if_neg (by omega), if_pos (by omega)]; exact ⟨rfl, CV_0 hV⟩)
        | (refine ⟨fun q hq => by (repeat (refine mg_n (by omega) ?_)); rfl, ?_⟩; rw [if_neg (by omega), if_neg (by omega), if_neg (by omega)]; exact ⟨rfl, CV_ce (CV_row (CV_0 hV) (by omega) (by omega)) (by omega) (by omega)⟩)
    · refine p_iload_n (pc := 22) C dX4_sheet_22 rfl ?_
      refine p_bipush (pc := 23) C dX4_sheet_23 (by decide) ?_
      refine p_icmp_le (pc := 25) (tgt := 31) C dX4_sheet_25 (by decide) (fun c_25 => ?_) (fun c_25 => ?_)
      · refine p_iload_n (pc := 31) C dX4_sheet_31 rfl ?_
        refine p_if_ge (pc := 32) (tgt := 41) C dX4_sheet_32 (by decide) (fun c_32 => ?_) (fun c_32 => ?_)
        · obtain ⟨r1, r2⟩ := ff k (by omega) (by omega)
          obtain ⟨y1, y2, y3⟩ := w6 k (by omega) (by omega)
          refine p_aload_n (pc := 41) C dX4_sheet_41 rfl ?_
          refine p_get (pc := 42) C fl_X4_52 dX4_sheet_42 ⟨by omega, by omega⟩ (by (repeat refine mg_n (by omega) ?_); first | assumption | exact mup_s _ _ _) (by rfl) ?_
          refine p_iload_n (pc := 45) C dX4_sheet_45 rfl ?_
          refine p_aald (pc := 46) C dX4_sheet_46 ⟨by omega, by omega⟩ (by (repeat refine mg_n (by omega) ?_); first | assumption | exact mup_s _ _ _) (by decide) (by omega) (by rfl) ?_
          refine p_iload_n (pc := 47) C dX4_sheet_47 rfl ?_
          refine p_iload_n (pc := 48) C dX4_sheet_48 rfl ?_
          refine p_callVU (pc := 49) C ln_X4_214 dX4_sheet_49 (k_X0_begin ⟨by omega, by omega⟩ (by (repeat refine mg_n (by omega) ?_); first | assumption | exact mup_s _ _ _) ⟨by omega, by omega⟩ (by (repeat refine mg_n (by omega) ?_); first | assumption | exact mup_s _ _ _) (by omega) (by omega)) ⟨by omega, by omega⟩ (by (repeat refine mg_n (by omega) ?_); first | assumption | exact mup_s _ _ _) rfl rfl rfl rfl (Nat.le_of_ble_eq_true rfl) ?_
          refine p_iconst (pc := 52) C dX4_sheet_52 (by decide) ?_
          refine p_iret (pc := 53) C dX4_sheet_53 ?_
          first
            | (refine ⟨fun q hq => by (repeat (refine mg_n (by omega) ?_)); rfl, ?_⟩; rw [if_pos (by omega)]; exact ⟨rfl, CV_0 hV⟩)
            | (refine ⟨fun q hq => by (repeat (refine mg_n (by omega) ?_)); rfl, ?_⟩; rw [if_neg (by omega), if_pos (by omega)]; exact ⟨rfl, CV_0 hV⟩)
            | (refine ⟨fun q hq => by (repeat (refine mg_n (by omega) ?_)); rfl, ?_⟩; rw [if_neg (by omega), if_neg (by omega), if_pos (by omega)]; exact ⟨rfl, CV_0 hV⟩)
            | (refine ⟨fun q hq => by (repeat (refine mg_n (by omega) ?_)); rfl, ?_⟩; rw [if_neg (by omega), if_neg (by omega), if_neg (by omega)]; exact ⟨rfl, CV_ce (CV_row (CV_0 hV) (by omega) (by omega)) (by omega) (by omega)⟩)
        · refine p_aload_n (pc := 35) C dX4_sheet_35 rfl ?_
          refine p_iconst (pc := 36) C dX4_sheet_36 (by decide) ?_
          refine p_callVF (pc := 37) C ln_X4_74 dX4_sheet_37 (k_X4_faulted (by omega) (by (repeat refine mg_n (by omega) ?_); first | assumption | exact mup_s _ _ _)) ⟨by omega, by omega⟩ (by (repeat refine mg_n (by omega) ?_); first | assumption | exact mup_s _ _ _) rfl rfl rfl rfl (Nat.le_of_ble_eq_true rfl) ?_
          refine p_mem (mup_mup _ _ _ _) ?_
          refine p_iret (pc := 40) C dX4_sheet_40 ?_
          first
            | (refine ⟨fun q hq => by (repeat (refine mg_n (by omega) ?_)); rfl, ?_⟩; rw [if_pos (by omega)]; exact ⟨rfl, CV_0 hV⟩)
            | (refine ⟨fun q hq => by (repeat (refine mg_n (by omega) ?_)); rfl, ?_⟩; rw [if_neg (by omega), if_pos (by omega)]; exact ⟨rfl, CV_0 hV⟩)
            | (refine ⟨fun q hq => by (repeat (refine mg_n (by omega) ?_)); rfl, ?_⟩; rw [if_neg (by omega), if_neg (by omega), if_pos (by omega)]; exact ⟨rfl, CV_0 hV⟩)
            | (refine ⟨fun q hq => by (repeat (refine mg_n (by omega) ?_)); rfl, ?_⟩; rw [if_neg (by omega), if_neg (by omega), if_neg (by omega)]; exact ⟨rfl, CV_ce (CV_row (CV_0 hV) (by omega) (by omega)) (by omega) (by omega)⟩)
      · refine p_bipush (pc := 28) C dX4_sheet_28 (by decide) ?_
        refine p_iret (pc := 30) C dX4_sheet_30 ?_
        first
          | (refine ⟨fun q hq => by (repeat (refine mg_n (by omega) ?_)); rfl, ?_⟩; rw [if_pos (by omega)]; exact ⟨rfl, CV_0 hV⟩)
          | (refine ⟨fun q hq => by (repeat (refine mg_n (by omega) ?_)); rfl, ?_⟩; rw [if_neg (by omega), if_pos (by omega)]; exact ⟨rfl, CV_0 hV⟩)
          | (refine ⟨fun q hq => by (repeat (refine mg_n (by omega) ?_)); rfl, ?_⟩; rw [if_neg (by omega), if_neg (by omega), if_pos (by omega)]; exact ⟨rfl, CV_0 hV⟩)
          | (refine ⟨fun q hq => by (repeat (refine mg_n (by omega) ?_)); rfl, ?_⟩; rw [if_neg (by omega), if_neg (by omega), if_neg (by omega)]; exact ⟨rfl, CV_ce (CV_row (CV_0 hV) (by omega) (by omega)) (by omega) (by omega)⟩)
  · refine p_iconst (pc := 12) C dX4_sheet_12 (by decide) ?_
    refine p_iret (pc := 13) C dX4_sheet_13 ?_
    first
      | (refine ⟨fun q hq => by (repeat (refine mg_n (by omega) ?_)); rfl, ?_⟩; rw [if_pos (by omega)]; exact ⟨rfl, CV_0 hV⟩)
      | (refine ⟨fun q hq => by (repeat (refine mg_n (by omega) ?_)); rfl, ?_⟩; rw [if_neg (by omega), if_pos (by omega)]; exact ⟨rfl, CV_0 hV⟩)
      | (refine ⟨fun q hq => by (repeat (refine mg_n (by omega) ?_)); rfl, ?_⟩; rw [if_neg (by omega), if_neg (by omega), if_pos (by omega)]; exact ⟨rfl, CV_0 hV⟩)
      | (refine ⟨fun q hq => by (repeat (refine mg_n (by omega) ?_)); rfl, ?_⟩; rw [if_neg (by omega), if_neg (by omega), if_neg (by omega)]; exact ⟨rfl, CV_ce (CV_row (CV_0 hV) (by omega) (by omega)) (by omega) (by omega)⟩)

set_option maxHeartbeats 4000000 in
set_option maxRecDepth 100000 in
theorem q_X4_put {K : KX} {d : Nat} {μ : Int → ME} {k i v : Int} {np ns day nr tr fl : Int} {rg kd nm sg pt : Int → Int} {ca : Int → Int → Int} {rs rp rl th la ln : Int → Int} {ce : Int → Int → Int} (hV : CV np ns day nr tr fl rg kd nm sg pt ca rs rp rl th la ln ce μ) (hW : WF np ns day nr tr fl rg kd nm sg pt ca rs rp rl th la ln ce) : Ct K (d + 3) yX4_put cX4_put 5 (some .int) [vR 0, vI k, vI i, vI v] μ (fun r μ' => (∀ a, 42 ≤ a → μ' a = μ a) ∧ (if ¬ (0 ≤ k ∧ k < 4) then r = some (vI (-1)) ∧ CV np ns day nr tr (0) rg kd nm sg pt ca rs rp rl th la ln ce μ' else if th k = 0 then r = some (vI (-11)) ∧ CV np ns day nr tr (1) rg kd nm sg pt ca rs rp rl th la ln ce μ' else if ¬ ((0 ≤ i ∧ i ≤ ln k) ∧ 1 ≤ ln k - i) then r = some (vI (-13)) ∧ CV np ns day nr tr (3) rg kd nm sg pt ca rs rp rl th la ln ce μ' else r = some (vI (1)) ∧ CV np ns day nr tr (0) rg kd nm sg pt ca rs rp rl th la ln (cup ce k (fup (ce k) i (if la k = 0 then i2b v else if la k = 1 then i2s v else v))) μ')) := by
  refine Ct.of (by decide) (Nat.le_of_ble_eq_true rfl) (fun X C => ?_)
  obtain ⟨⟨a0, a1, a2, a3⟩, ⟨b4, b5, b6, b7, b8, b9⟩, ⟨c0, c1, c2, c3⟩, dd, ee, ff⟩ := id hV
  obtain ⟨w0, w1, w2, w3, w4, w5, w6⟩ := id hW
  refine p_aload_n (pc := 0) C dX4_put_0 rfl ?_
  refine p_iconst (pc := 1) C dX4_put_1 (by decide) ?_
  refine p_putL (pc := 2) (fs' := [_, _, _, _, _, _, _, _, _, _, _, _, _, _, _, _]) C fp_X4_58 dX4_put_2 ⟨by omega, by omega⟩ (by (repeat refine mg_n (by omega) ?_); first | assumption | exact mup_s _ _ _) (by exact Nat.le_of_ble_eq_true rfl) (by rfl) ?_
  try refine p_mem (mup_mup _ _ _ _) ?_
  refine p_iload_n (pc := 5) C dX4_put_5 rfl ?_
  refine p_callSF (pc := 6) C ln_X4_62 dX4_put_6 (k_X4_isSheet) rfl rfl (Nat.le_of_ble_eq_true rfl) ?_
  refine p_ifne_b (pc := 9) (tgt := 14) C dX4_put_9 (by decide) (fun c_9 => ?_) (fun c_9 => ?_)
  · obtain ⟨r1, r2⟩ := ff k (by omega) (by omega)
    obtain ⟨y1, y2, y3⟩ := w6 k (by omega) (by omega)
    refine p_aload_n (pc := 14) C dX4_put_14 rfl ?_
    refine p_get (pc := 15) C fl_X4_52 dX4_put_15 ⟨by omega, by omega⟩ (by (repeat refine mg_n (by omega) ?_); first | assumption | exact mup_s _ _ _) (by rfl) ?_
    refine p_iload_n (pc := 18) C dX4_put_18 rfl ?_
    refine p_aald (pc := 19) C dX4_put_19 ⟨by omega, by omega⟩ (by (repeat refine mg_n (by omega) ?_); first | assumption | exact mup_s _ _ _) (by decide) (by omega) (by rfl) ?_
    refine p_astore (pc := 20) (ls' := [(4, _), (0, _), (1, _), (2, _), (3, _)]) C dX4_put_20 (by decide) rfl ?_
    refine p_aload (pc := 22) C dX4_put_22 rfl ?_
    refine p_get (pc := 24) C fl_X4_218 dX4_put_24 ⟨by omega, by omega⟩ (by (repeat refine mg_n (by omega) ?_); first | assumption | exact mup_s _ _ _) (by rfl) ?_
    refine p_if_ne (pc := 27) (tgt := 36) C dX4_put_27 (by decide) (fun c_27 => ?_) (fun c_27 => ?_)
    · refine p_aload (pc := 36) C dX4_put_36 rfl ?_
      refine p_iload_n (pc := 38) C dX4_put_38 rfl ?_
      refine p_iconst (pc := 39) C dX4_put_39 (by decide) ?_
      refine p_callVF (pc := 40) C ln_X4_222 dX4_put_40 (k_X0_reaches ⟨by omega, by omega⟩ (by (repeat refine mg_n (by omega) ?_); first | assumption | exact mup_s _ _ _) (by omega)) ⟨by omega, by omega⟩ (by (repeat refine mg_n (by omega) ?_); first | assumption | exact mup_s _ _ _) rfl rfl rfl rfl (Nat.le_of_ble_eq_true rfl) ?_
      refine p_ifne_b (pc := 43) (tgt := 52) C dX4_put_43 (by decide) (fun c_43 => ?_) (fun c_43 => ?_)
      · refine p_aload (pc := 52) C dX4_put_52 rfl ?_
        refine p_get (pc := 54) C fl_X4_225 dX4_put_54 ⟨by omega, by omega⟩ (by (repeat refine mg_n (by omega) ?_); first | assumption | exact mup_s _ _ _) (by rfl) ?_
        refine p_iload_n (pc := 57) C dX4_put_57 rfl ?_
        refine p_aload (pc := 58) C dX4_put_58 rfl ?_
        refine p_get (pc := 60) C fl_X4_228 dX4_put_60 ⟨by omega, by omega⟩ (by (repeat refine mg_n (by omega) ?_); first | assumption | exact mup_s _ _ _) (by rfl) ?_
        refine p_iload_n (pc := 63) C dX4_put_63 rfl ?_
        refine p_callSF (pc := 64) C ln_X4_231 dX4_put_64 (k_X4_cutTo) rfl rfl (Nat.le_of_ble_eq_true rfl) ?_
        refine p_iast (pc := 67) C dX4_put_67 ⟨by omega, by omega⟩ (by (repeat refine mg_n (by omega) ?_); first | assumption | exact mup_s _ _ _) (by omega) ?_
        try refine p_mem (mup_mup _ _ _ _) ?_
        refine p_iconst (pc := 68) C dX4_put_68 (by decide) ?_
        refine p_iret (pc := 69) C dX4_put_69 ?_
        first
          | (refine ⟨fun q hq => by (repeat (refine mg_n (by omega) ?_)); rfl, ?_⟩; rw [if_pos (by omega)]; exact ⟨rfl, CV_0 hV⟩)
          | (refine ⟨fun q hq => by (repeat (refine mg_n (by omega) ?_)); rfl, ?_⟩; rw [if_neg (by omega), if_pos (by omega)]; exact ⟨rfl, CV_0 hV⟩)
          | (refine ⟨fun q hq => by (repeat (refine mg_n (by omega) ?_)); rfl, ?_⟩; rw [if_neg (by omega), if_neg (by omega), if_pos (by omega)]; exact ⟨rfl, CV_0 hV⟩)
          | (refine ⟨fun q hq => by (repeat (refine mg_n (by omega) ?_)); rfl, ?_⟩; rw [if_neg (by omega), if_neg (by omega), if_neg (by omega)]; exact ⟨rfl, CV_ce (CV_0 hV) (by omega) (by omega)⟩)
      · refine p_aload_n (pc := 46) C dX4_put_46 rfl ?_
        refine p_iconst (pc := 47) C dX4_put_47 (by decide) ?_
        refine p_callVF (pc := 48) C ln_X4_74 dX4_put_48 (k_X4_faulted (by omega) (by (repeat refine mg_n (by omega) ?_); first | assumption | exact mup_s _ _ _)) ⟨by omega, by omega⟩ (by (repeat refine mg_n (by omega) ?_); first | assumption | exact mup_s _ _ _) rfl rfl rfl rfl (Nat.le_of_ble_eq_true rfl) ?_
        refine p_mem (mup_mup _ _ _ _) ?_
        refine p_iret (pc := 51) C dX4_put_51 ?_
        first
          | (refine ⟨fun q hq => by (repeat (refine mg_n (by omega) ?_)); rfl, ?_⟩; rw [if_pos (by omega)]; exact ⟨rfl, CV_0 hV⟩)
          | (refine ⟨fun q hq => by (repeat (refine mg_n (by omega) ?_)); rfl, ?_⟩; rw [if_neg (by omega), if_pos (by omega)]; exact ⟨rfl, CV_0 hV⟩)
          | (refine ⟨fun q hq => by (repeat (refine mg_n (by omega) ?_)); rfl, ?_⟩; rw [if_neg (by omega), if_neg (by omega), if_pos (by omega)]; exact ⟨rfl, CV_0 hV⟩)
          | (refine ⟨fun q hq => by (repeat (refine mg_n (by omega) ?_)); rfl, ?_⟩; rw [if_neg (by omega), if_neg (by omega), if_neg (by omega)]; exact ⟨rfl, CV_ce (CV_0 hV) (by omega) (by omega)⟩)
    · refine p_aload_n (pc := 30) C dX4_put_30 rfl ?_
      refine p_iconst (pc := 31) C dX4_put_31 (by decide) ?_
      refine p_callVF (pc := 32) C ln_X4_74 dX4_put_32 (k_X4_faulted (by omega) (by (repeat refine mg_n (by omega) ?_); first | assumption | exact mup_s _ _ _)) ⟨by omega, by omega⟩ (by (repeat refine mg_n (by omega) ?_); first | assumption | exact mup_s _ _ _) rfl rfl rfl rfl (Nat.le_of_ble_eq_true rfl) ?_
      refine p_mem (mup_mup _ _ _ _) ?_
      refine p_iret (pc := 35) C dX4_put_35 ?_
      first
        | (refine ⟨fun q hq => by (repeat (refine mg_n (by omega) ?_)); rfl, ?_⟩; rw [if_pos (by omega)]; exact ⟨rfl, CV_0 hV⟩)
        | (refine ⟨fun q hq => by (repeat (refine mg_n (by omega) ?_)); rfl, ?_⟩; rw [if_neg (by omega), if_pos (by omega)]; exact ⟨rfl, CV_0 hV⟩)
        | (refine ⟨fun q hq => by (repeat (refine mg_n (by omega) ?_)); rfl, ?_⟩; rw [if_neg (by omega), if_neg (by omega), if_pos (by omega)]; exact ⟨rfl, CV_0 hV⟩)
        | (refine ⟨fun q hq => by (repeat (refine mg_n (by omega) ?_)); rfl, ?_⟩; rw [if_neg (by omega), if_neg (by omega), if_neg (by omega)]; exact ⟨rfl, CV_ce (CV_0 hV) (by omega) (by omega)⟩)
  · refine p_iconst (pc := 12) C dX4_put_12 (by decide) ?_
    refine p_iret (pc := 13) C dX4_put_13 ?_
    first
      | (refine ⟨fun q hq => by (repeat (refine mg_n (by omega) ?_)); rfl, ?_⟩; rw [if_pos (by omega)]; exact ⟨rfl, CV_0 hV⟩)
      | (refine ⟨fun q hq => by (repeat (refine mg_n (by omega) ?_)); rfl, ?_⟩; rw [if_neg (by omega), if_pos (by omega)]; exact ⟨rfl, CV_0 hV⟩)
      | (refine ⟨fun q hq => by (repeat (refine mg_n (by omega) ?_)); rfl, ?_⟩; rw [if_neg (by omega), if_neg (by omega), if_pos (by omega)]; exact ⟨rfl, CV_0 hV⟩)
      | (refine ⟨fun q hq => by (repeat (refine mg_n (by omega) ?_)); rfl, ?_⟩; rw [if_neg (by omega), if_neg (by omega), if_neg (by omega)]; exact ⟨rfl, CV_ce (CV_0 hV) (by omega) (by omega)⟩)

theorem fot_r {th ln le as i n : Int} : 0 ≤ fot th ln le as i n ∧ fot th ln le as i n ≤ 4 := by
  unfold fot; split
  · omega
  · split
    · omega
    · split
      · omega
      · split <;> omega
theorem fot_0 {th ln le as i n : Int} (h : fot th ln le as i n = 0) : th ≠ 0 ∧ ln = as ∧ 0 ≤ n ∧ ((0 ≤ i ∧ i ≤ le) ∧ n ≤ le - i) := by
  unfold fot at h; split at h
  · omega
  · split at h
    · omega
    · split at h
      · omega
      · split at h
        · omega
        · omega

set_option maxHeartbeats 4000000 in
set_option maxRecDepth 100000 in
theorem q_X4_cell {K : KX} {d : Nat} {μ : Int → ME} {k i l : Int} {np ns day nr tr fl : Int} {rg kd nm sg pt : Int → Int} {ca : Int → Int → Int} {rs rp rl th la ln : Int → Int} {ce : Int → Int → Int} (hV : CV np ns day nr tr fl rg kd nm sg pt ca rs rp rl th la ln ce μ) (hW : WF np ns day nr tr fl rg kd nm sg pt ca rs rp rl th la ln ce) : Ct K (d + 3) yX4_cell cX4_cell 5 (some .long) [vR 0, vI k, vI i, vI l] μ (fun r μ' => (∀ a, 42 ≤ a → μ' a = μ a) ∧ (if ¬ ((0 ≤ k ∧ k < 4) ∧ (0 ≤ l ∧ l < 3)) then r = some (vL (-9223372036854775808)) ∧ CV np ns day nr tr (0) rg kd nm sg pt ca rs rp rl th la ln ce μ' else if fot (th k) (la k) (ln k) l i 1 ≠ 0 then r = some (vL (-9223372036854775808)) ∧ CV np ns day nr tr (fot (th k) (la k) (ln k) l i 1) rg kd nm sg pt ca rs rp rl th la ln ce μ' else r = some (vL (ce k i)) ∧ CV np ns day nr tr (0) rg kd nm sg pt ca rs rp rl th la ln ce μ')) := by
  refine Ct.of (by decide) (Nat.le_of_ble_eq_true rfl) (fun X C => ?_)
  obtain ⟨⟨a0, a1, a2, a3⟩, ⟨b4, b5, b6, b7, b8, b9⟩, ⟨c0, c1, c2, c3⟩, dd, ee, ff⟩ := id hV
  obtain ⟨w0, w1, w2, w3, w4, w5, w6⟩ := id hW
  refine p_aload_n (pc := 0) C dX4_cell_0 rfl ?_
  refine p_iconst (pc := 1) C dX4_cell_1 (by decide) ?_
  refine p_putL (pc := 2) (fs' := [_, _, _, _, _, _, _, _, _, _, _, _, _, _, _, _]) C fp_X4_58 dX4_cell_2 ⟨by omega, by omega⟩ (by (repeat refine mg_n (by omega) ?_); first | assumption | exact mup_s _ _ _) (by exact Nat.le_of_ble_eq_true rfl) (by rfl) ?_
  try refine p_mem (mup_mup _ _ _ _) ?_
  refine p_iload_n (pc := 5) C dX4_cell_5 rfl ?_
  refine p_callSF (pc := 6) C ln_X4_62 dX4_cell_6 (k_X4_isSheet) rfl rfl (Nat.le_of_ble_eq_true rfl) ?_
  refine p_ifeq_b (pc := 9) (tgt := 20) C dX4_cell_9 (by decide) (fun c_9 => ?_) (fun c_9 => ?_)
  · refine p_ldc2 (pc := 20) C kc_X4_199 dX4_cell_20 ?_
    refine p_lret (pc := 23) C dX4_cell_23 ?_
    first
      | (refine ⟨fun q hq => by (repeat (refine mg_n (by omega) ?_)); rfl, ?_⟩; rw [if_pos (by omega)]; exact ⟨svL (by decide +kernel), CV_0 hV⟩)
      | (refine ⟨fun q hq => by (repeat (refine mg_n (by omega) ?_)); rfl, ?_⟩; rw [if_neg (by omega), if_pos (by omega)]; exact ⟨svL (by decide +kernel), CV_0 hV⟩)
      | (refine ⟨fun q hq => by (repeat (refine mg_n (by omega) ?_)); rfl, ?_⟩; rw [if_neg (by omega), if_neg (by omega)]; exact ⟨rfl, (by rw [c_48]; exact CV_0 hV)⟩)
  · refine p_iload_n (pc := 12) C dX4_cell_12 rfl ?_
    refine p_iconst (pc := 13) C dX4_cell_13 (by decide) ?_
    refine p_callSF (pc := 14) C ln_X4_66 dX4_cell_14 (k_X4_isBelow) rfl rfl (Nat.le_of_ble_eq_true rfl) ?_
    refine p_ifne_b (pc := 17) (tgt := 24) C dX4_cell_17 (by decide) (fun c_17 => ?_) (fun c_17 => ?_)
    · obtain ⟨r1, r2⟩ := ff k (by omega) (by omega)
      obtain ⟨y1, y2, y3⟩ := w6 k (by omega) (by omega)
      refine p_aload_n (pc := 24) C dX4_cell_24 rfl ?_
      refine p_get (pc := 25) C fl_X4_52 dX4_cell_25 ⟨by omega, by omega⟩ (by (repeat refine mg_n (by omega) ?_); first | assumption | exact mup_s _ _ _) (by rfl) ?_
      refine p_iload_n (pc := 28) C dX4_cell_28 rfl ?_
      refine p_aald (pc := 29) C dX4_cell_29 ⟨by omega, by omega⟩ (by (repeat refine mg_n (by omega) ?_); first | assumption | exact mup_s _ _ _) (by decide) (by omega) (by rfl) ?_
      refine p_astore (pc := 30) (ls' := [(4, _), (0, _), (1, _), (2, _), (3, _)]) C dX4_cell_30 (by decide) rfl ?_
      refine p_aload_n (pc := 32) C dX4_cell_32 rfl ?_
      refine p_aload (pc := 33) C dX4_cell_33 rfl ?_
      refine p_iload_n (pc := 35) C dX4_cell_35 rfl ?_
      refine p_iload_n (pc := 36) C dX4_cell_36 rfl ?_
      refine p_iconst (pc := 37) C dX4_cell_37 (by decide) ?_
      refine p_callVF (pc := 38) C ln_X4_70 dX4_cell_38 (k_X0_faultOfTaking ⟨by omega, by omega⟩ (by (repeat refine mg_n (by omega) ?_); first | assumption | exact mup_s _ _ _) (by omega)) ⟨by omega, by omega⟩ (by (repeat refine mg_n (by omega) ?_); first | assumption | exact mup_s _ _ _) rfl rfl rfl rfl (Nat.le_of_ble_eq_true rfl) ?_
      refine p_putL (pc := 41) (fs' := [_, _, _, _, _, _, _, _, _, _, _, _, _, _, _, _]) C fp_X4_58 dX4_cell_41 ⟨by omega, by omega⟩ (by (repeat refine mg_n (by omega) ?_); first | assumption | exact mup_s _ _ _) (by exact Nat.le_of_ble_eq_true rfl) (by rfl) ?_
      try refine p_mem (mup_mup _ _ _ _) ?_
      refine p_aload_n (pc := 44) C dX4_cell_44 rfl ?_
      refine p_get (pc := 45) C fl_X4_58 dX4_cell_45 ⟨by omega, by omega⟩ (by (repeat refine mg_n (by omega) ?_); first | assumption | exact mup_s _ _ _) (by rfl) ?_
      refine p_if_ne (pc := 48) (tgt := 62) C dX4_cell_48 (by decide) (fun c_48 => ?_) (fun c_48 => ?_)
      · refine p_ldc2 (pc := 62) C kc_X4_199 dX4_cell_62 ?_
        refine p_lret (pc := 65) C dX4_cell_65 ?_
        first
          | (refine ⟨fun q hq => by (repeat (refine mg_n (by omega) ?_)); rfl, ?_⟩; rw [if_pos (by omega)]; exact ⟨svL (by decide +kernel), CV_0 hV⟩)
          | (refine ⟨fun q hq => by (repeat (refine mg_n (by omega) ?_)); rfl, ?_⟩; rw [if_neg (by omega), if_pos (by omega)]; exact ⟨svL (by decide +kernel), CV_0 hV⟩)
          | (refine ⟨fun q hq => by (repeat (refine mg_n (by omega) ?_)); rfl, ?_⟩; rw [if_neg (by omega), if_neg (by omega)]; exact ⟨rfl, (by rw [c_48]; exact CV_0 hV)⟩)
      · have hz := fot_0 c_48
        refine p_aload (pc := 51) C dX4_cell_51 rfl ?_
        refine p_get (pc := 53) C fl_X4_225 dX4_cell_53 ⟨by omega, by omega⟩ (by (repeat refine mg_n (by omega) ?_); first | assumption | exact mup_s _ _ _) (by rfl) ?_
        refine p_iload_n (pc := 56) C dX4_cell_56 rfl ?_
        refine p_iald (pc := 57) C dX4_cell_57 ⟨by omega, by omega⟩ (by (repeat refine mg_n (by omega) ?_); first | assumption | exact mup_s _ _ _) (by omega) ?_
        refine p_i2l (pc := 58) C dX4_cell_58 ?_
        refine p_goto (pc := 59) (tgt := 65) C dX4_cell_59 (by decide) ?_
        refine p_lret (pc := 65) C dX4_cell_65 ?_
        first
          | (refine ⟨fun q hq => by (repeat (refine mg_n (by omega) ?_)); rfl, ?_⟩; rw [if_pos (by omega)]; exact ⟨svL (by decide +kernel), CV_0 hV⟩)
          | (refine ⟨fun q hq => by (repeat (refine mg_n (by omega) ?_)); rfl, ?_⟩; rw [if_neg (by omega), if_pos (by omega)]; exact ⟨svL (by decide +kernel), CV_0 hV⟩)
          | (refine ⟨fun q hq => by (repeat (refine mg_n (by omega) ?_)); rfl, ?_⟩; rw [if_neg (by omega), if_neg (by omega)]; exact ⟨rfl, (by rw [c_48]; exact CV_0 hV)⟩)
    · refine p_ldc2 (pc := 20) C kc_X4_199 dX4_cell_20 ?_
      refine p_lret (pc := 23) C dX4_cell_23 ?_
      first
        | (refine ⟨fun q hq => by (repeat (refine mg_n (by omega) ?_)); rfl, ?_⟩; rw [if_pos (by omega)]; exact ⟨svL (by decide +kernel), CV_0 hV⟩)
        | (refine ⟨fun q hq => by (repeat (refine mg_n (by omega) ?_)); rfl, ?_⟩; rw [if_neg (by omega), if_pos (by omega)]; exact ⟨svL (by decide +kernel), CV_0 hV⟩)
        | (refine ⟨fun q hq => by (repeat (refine mg_n (by omega) ?_)); rfl, ?_⟩; rw [if_neg (by omega), if_neg (by omega)]; exact ⟨rfl, (by rw [c_48]; exact CV_0 hV)⟩)

set_option maxHeartbeats 4000000 in
set_option maxRecDepth 100000 in
theorem q_X4_copy {K : KX} {d : Nat} {μ : Int → ME} {k i u j n : Int} {np ns day nr tr fl : Int} {rg kd nm sg pt : Int → Int} {ca : Int → Int → Int} {rs rp rl th la ln : Int → Int} {ce : Int → Int → Int} (hV : CV np ns day nr tr fl rg kd nm sg pt ca rs rp rl th la ln ce μ) (hW : WF np ns day nr tr fl rg kd nm sg pt ca rs rp rl th la ln ce) : Ct K (d + 3) yX4_copy cX4_copy 8 (some .int) [vR 0, vI k, vI i, vI u, vI j, vI n] μ (fun r μ' => (∀ a, 42 ≤ a → μ' a = μ a) ∧ (if ¬ ((0 ≤ k ∧ k < 4) ∧ (0 ≤ u ∧ u < 4)) then r = some (vI (-1)) ∧ CV np ns day nr tr (0) rg kd nm sg pt ca rs rp rl th la ln ce μ' else if th k = 0 ∨ th u = 0 then r = some (vI (-11)) ∧ CV np ns day nr tr (1) rg kd nm sg pt ca rs rp rl th la ln ce μ' else if la k ≠ la u then r = some (vI (-12)) ∧ CV np ns day nr tr (2) rg kd nm sg pt ca rs rp rl th la ln ce μ' else if ¬ (0 ≤ n ∧ ((0 ≤ i ∧ i ≤ ln k) ∧ n ≤ ln k - i) ∧ ((0 ≤ j ∧ j ≤ ln u) ∧ n ≤ ln u - j)) then r = some (vI (-13)) ∧ CV np ns day nr tr (3) rg kd nm sg pt ca rs rp rl th la ln ce μ' else r = some (vI (n)) ∧ CV np ns day nr tr (0) rg kd nm sg pt ca rs rp rl th la ln (cup ce u (fcp (ce k) (ce u) i j n)) μ')) := by
  refine Ct.of (by decide) (Nat.le_of_ble_eq_true rfl) (fun X C => ?_)
  obtain ⟨⟨a0, a1, a2, a3⟩, ⟨b4, b5, b6, b7, b8, b9⟩, ⟨c0, c1, c2, c3⟩, dd, ee, ff⟩ := id hV
  obtain ⟨w0, w1, w2, w3, w4, w5, w6⟩ := id hW
  refine p_aload_n (pc := 0) C dX4_copy_0 rfl ?_
  refine p_iconst (pc := 1) C dX4_copy_1 (by decide) ?_
  refine p_putL (pc := 2) (fs' := [_, _, _, _, _, _, _, _, _, _, _, _, _, _, _, _]) C fp_X4_58 dX4_copy_2 ⟨by omega, by omega⟩ (by (repeat refine mg_n (by omega) ?_); first | assumption | exact mup_s _ _ _) (by exact Nat.le_of_ble_eq_true rfl) (by rfl) ?_
  try refine p_mem (mup_mup _ _ _ _) ?_
  refine p_iload_n (pc := 5) C dX4_copy_5 rfl ?_
  refine p_callSF (pc := 6) C ln_X4_62 dX4_copy_6 (k_X4_isSheet) rfl rfl (Nat.le_of_ble_eq_true rfl) ?_
  refine p_ifeq_b (pc := 9) (tgt := 19) C dX4_copy_9 (by decide) (fun c_9 => ?_) (fun c_9 => ?_)
  · refine p_iconst (pc := 19) C dX4_copy_19 (by decide) ?_
    refine p_iret (pc := 20) C dX4_copy_20 ?_
    first
      | (refine ⟨fun q hq => by (repeat (refine mg_n (by omega) ?_)); rfl, ?_⟩; rw [if_pos (by omega)]; exact ⟨rfl, CV_0 hV⟩)
      | (refine ⟨fun q hq => by (repeat (refine mg_n (by omega) ?_)); rfl, ?_⟩; rw [if_neg (by omega), if_pos (by omega)]; exact ⟨rfl, CV_0 hV⟩)
      | (refine ⟨fun q hq => by (repeat (refine mg_n (by omega) ?_)); rfl, ?_⟩; rw [if_neg (by omega), if_neg (by omega), if_pos (by omega)]; exact ⟨rfl, CV_0 hV⟩)
      | (refine ⟨fun q hq => by (repeat (refine mg_n (by omega) ?_)); rfl, ?_⟩; rw [if_neg (by omega), if_neg (by omega), if_neg (by omega), if_pos (by omega)]; exact ⟨rfl, CV_0 hV⟩)
      | (refine ⟨fun q hq => by (repeat (refine mg_n (by omega) ?_)); rfl, ?_⟩; rw [if_neg (by omega), if_neg (by omega), if_neg (by omega), if_neg (by omega)]; exact ⟨rfl, CV_ce (CV_0 hV) (by omega) (by omega)⟩)
  · refine p_iload_n (pc := 12) C dX4_copy_12 rfl ?_
    refine p_callSF (pc := 13) C ln_X4_62 dX4_copy_13 (k_X4_isSheet) rfl rfl (Nat.le_of_ble_eq_true rfl) ?_
    refine p_ifne_b (pc := 16) (tgt := 21) C dX4_copy_16 (by decide) (fun c_16 => ?_) (fun c_16 => ?_)
    · obtain ⟨r1, r2⟩ := ff k (by omega) (by omega)
      obtain ⟨y1, y2, y3⟩ := w6 k (by omega) (by omega)
      obtain ⟨r3, r4⟩ := ff u (by omega) (by omega)
      obtain ⟨y4, y5, y6⟩ := w6 u (by omega) (by omega)
      refine p_aload_n (pc := 21) C dX4_copy_21 rfl ?_
      refine p_get (pc := 22) C fl_X4_52 dX4_copy_22 ⟨by omega, by omega⟩ (by (repeat refine mg_n (by omega) ?_); first | assumption | exact mup_s _ _ _) (by rfl) ?_
      refine p_iload_n (pc := 25) C dX4_copy_25 rfl ?_
      refine p_aald (pc := 26) C dX4_copy_26 ⟨by omega, by omega⟩ (by (repeat refine mg_n (by omega) ?_); first | assumption | exact mup_s _ _ _) (by decide) (by omega) (by rfl) ?_
      refine p_astore (pc := 27) (ls' := [(6, _), (0, _), (1, _), (2, _), (3, _), (4, _), (5, _)]) C dX4_copy_27 (by decide) rfl ?_
      refine p_aload_n (pc := 29) C dX4_copy_29 rfl ?_
      refine p_get (pc := 30) C fl_X4_52 dX4_copy_30 ⟨by omega, by omega⟩ (by (repeat refine mg_n (by omega) ?_); first | assumption | exact mup_s _ _ _) (by rfl) ?_
      refine p_iload_n (pc := 33) C dX4_copy_33 rfl ?_
      refine p_aald (pc := 34) C dX4_copy_34 ⟨by omega, by omega⟩ (by (repeat refine mg_n (by omega) ?_); first | assumption | exact mup_s _ _ _) (by decide) (by omega) (by rfl) ?_
      refine p_astore (pc := 35) (ls' := [(7, _), (6, _), (0, _), (1, _), (2, _), (3, _), (4, _), (5, _)]) C dX4_copy_35 (by decide) rfl ?_
      refine p_aload (pc := 37) C dX4_copy_37 rfl ?_
      refine p_get (pc := 39) C fl_X4_218 dX4_copy_39 ⟨by omega, by omega⟩ (by (repeat refine mg_n (by omega) ?_); first | assumption | exact mup_s _ _ _) (by rfl) ?_
      refine p_if_eq (pc := 42) (tgt := 53) C dX4_copy_42 (by decide) (fun c_42 => ?_) (fun c_42 => ?_)
      · refine p_aload_n (pc := 53) C dX4_copy_53 rfl ?_
        refine p_iconst (pc := 54) C dX4_copy_54 (by decide) ?_
        refine p_callVF (pc := 55) C ln_X4_74 dX4_copy_55 (k_X4_faulted (by omega) (by (repeat refine mg_n (by omega) ?_); first | assumption | exact mup_s _ _ _)) ⟨by omega, by omega⟩ (by (repeat refine mg_n (by omega) ?_); first | assumption | exact mup_s _ _ _) rfl rfl rfl rfl (Nat.le_of_ble_eq_true rfl) ?_
        refine p_mem (mup_mup _ _ _ _) ?_
        refine p_iret (pc := 58) C dX4_copy_58 ?_
        first
          | (refine ⟨fun q hq => by (repeat (refine mg_n (by omega) ?_)); rfl, ?_⟩; rw [if_pos (by omega)]; exact ⟨rfl, CV_0 hV⟩)
          | (refine ⟨fun q hq => by (repeat (refine mg_n (by omega) ?_)); rfl, ?_⟩; rw [if_neg (by omega), if_pos (by omega)]; exact ⟨rfl, CV_0 hV⟩)
          | (refine ⟨fun q hq => by (repeat (refine mg_n (by omega) ?_)); rfl, ?_⟩; rw [if_neg (by omega), if_neg (by omega), if_pos (by omega)]; exact ⟨rfl, CV_0 hV⟩)
          | (refine ⟨fun q hq => by (repeat (refine mg_n (by omega) ?_)); rfl, ?_⟩; rw [if_neg (by omega), if_neg (by omega), if_neg (by omega), if_pos (by omega)]; exact ⟨rfl, CV_0 hV⟩)
          | (refine ⟨fun q hq => by (repeat (refine mg_n (by omega) ?_)); rfl, ?_⟩; rw [if_neg (by omega), if_neg (by omega), if_neg (by omega), if_neg (by omega)]; exact ⟨rfl, CV_ce (CV_0 hV) (by omega) (by omega)⟩)
      · refine p_aload (pc := 45) C dX4_copy_45 rfl ?_
        refine p_get (pc := 47) C fl_X4_218 dX4_copy_47 ⟨by omega, by omega⟩ (by (repeat refine mg_n (by omega) ?_); first | assumption | exact mup_s _ _ _) (by rfl) ?_
        refine p_if_ne (pc := 50) (tgt := 59) C dX4_copy_50 (by decide) (fun c_50 => ?_) (fun c_50 => ?_)
        · refine p_aload (pc := 59) C dX4_copy_59 rfl ?_
          refine p_get (pc := 61) C fl_X4_228 dX4_copy_61 ⟨by omega, by omega⟩ (by (repeat refine mg_n (by omega) ?_); first | assumption | exact mup_s _ _ _) (by rfl) ?_
          refine p_aload (pc := 64) C dX4_copy_64 rfl ?_
          refine p_get (pc := 66) C fl_X4_228 dX4_copy_66 ⟨by omega, by omega⟩ (by (repeat refine mg_n (by omega) ?_); first | assumption | exact mup_s _ _ _) (by rfl) ?_
          refine p_icmp_eq (pc := 69) (tgt := 78) C dX4_copy_69 (by decide) (fun c_69 => ?_) (fun c_69 => ?_)
          · refine p_iload (pc := 78) C dX4_copy_78 rfl ?_
            refine p_if_lt (pc := 80) (tgt := 106) C dX4_copy_80 (by decide) (fun c_80 => ?_) (fun c_80 => ?_)
            · refine p_aload_n (pc := 106) C dX4_copy_106 rfl ?_
              refine p_iconst (pc := 107) C dX4_copy_107 (by decide) ?_
              refine p_callVF (pc := 108) C ln_X4_74 dX4_copy_108 (k_X4_faulted (by omega) (by (repeat refine mg_n (by omega) ?_); first | assumption | exact mup_s _ _ _)) ⟨by omega, by omega⟩ (by (repeat refine mg_n (by omega) ?_); first | assumption | exact mup_s _ _ _) rfl rfl rfl rfl (Nat.le_of_ble_eq_true rfl) ?_
              refine p_mem (mup_mup _ _ _ _) ?_
              refine p_iret (pc := 111) C dX4_copy_111 ?_
              first
                | (refine ⟨fun q hq => by (repeat (refine mg_n (by omega) ?_)); rfl, ?_⟩; rw [if_pos (by omega)]; exact ⟨rfl, CV_0 hV⟩)
                | (refine ⟨fun q hq => by (repeat (refine mg_n (by omega) ?_)); rfl, ?_⟩; rw [if_neg (by omega), if_pos (by omega)]; exact ⟨rfl, CV_0 hV⟩)
                | (refine ⟨fun q hq => by (repeat (refine mg_n (by omega) ?_)); rfl, ?_⟩; rw [if_neg (by omega), if_neg (by omega), if_pos (by omega)]; exact ⟨rfl, CV_0 hV⟩)
                | (refine ⟨fun q hq => by (repeat (refine mg_n (by omega) ?_)); rfl, ?_⟩; rw [if_neg (by omega), if_neg (by omega), if_neg (by omega), if_pos (by omega)]; exact ⟨rfl, CV_0 hV⟩)
                | (refine ⟨fun q hq => by (repeat (refine mg_n (by omega) ?_)); rfl, ?_⟩; rw [if_neg (by omega), if_neg (by omega), if_neg (by omega), if_neg (by omega)]; exact ⟨rfl, CV_ce (CV_0 hV) (by omega) (by omega)⟩)
            · refine p_aload (pc := 83) C dX4_copy_83 rfl ?_
              refine p_iload_n (pc := 85) C dX4_copy_85 rfl ?_
              refine p_iload (pc := 86) C dX4_copy_86 rfl ?_
              refine p_callVF (pc := 88) C ln_X4_222 dX4_copy_88 (k_X0_reaches ⟨by omega, by omega⟩ (by (repeat refine mg_n (by omega) ?_); first | assumption | exact mup_s _ _ _) (by omega)) ⟨by omega, by omega⟩ (by (repeat refine mg_n (by omega) ?_); first | assumption | exact mup_s _ _ _) rfl rfl rfl rfl (Nat.le_of_ble_eq_true rfl) ?_
              refine p_ifeq_b (pc := 91) (tgt := 106) C dX4_copy_91 (by decide) (fun c_91 => ?_) (fun c_91 => ?_)
              · refine p_aload_n (pc := 106) C dX4_copy_106 rfl ?_
                refine p_iconst (pc := 107) C dX4_copy_107 (by decide) ?_
                refine p_callVF (pc := 108) C ln_X4_74 dX4_copy_108 (k_X4_faulted (by omega) (by (repeat refine mg_n (by omega) ?_); first | assumption | exact mup_s _ _ _)) ⟨by omega, by omega⟩ (by (repeat refine mg_n (by omega) ?_); first | assumption | exact mup_s _ _ _) rfl rfl rfl rfl (Nat.le_of_ble_eq_true rfl) ?_
                refine p_mem (mup_mup _ _ _ _) ?_
                refine p_iret (pc := 111) C dX4_copy_111 ?_
                first
                  | (refine ⟨fun q hq => by (repeat (refine mg_n (by omega) ?_)); rfl, ?_⟩; rw [if_pos (by omega)]; exact ⟨rfl, CV_0 hV⟩)
                  | (refine ⟨fun q hq => by (repeat (refine mg_n (by omega) ?_)); rfl, ?_⟩; rw [if_neg (by omega), if_pos (by omega)]; exact ⟨rfl, CV_0 hV⟩)
                  | (refine ⟨fun q hq => by (repeat (refine mg_n (by omega) ?_)); rfl, ?_⟩; rw [if_neg (by omega), if_neg (by omega), if_pos (by omega)]; exact ⟨rfl, CV_0 hV⟩)
                  | (refine ⟨fun q hq => by (repeat (refine mg_n (by omega) ?_)); rfl, ?_⟩; rw [if_neg (by omega), if_neg (by omega), if_neg (by omega), if_pos (by omega)]; exact ⟨rfl, CV_0 hV⟩)
                  | (refine ⟨fun q hq => by (repeat (refine mg_n (by omega) ?_)); rfl, ?_⟩; rw [if_neg (by omega), if_neg (by omega), if_neg (by omega), if_neg (by omega)]; exact ⟨rfl, CV_ce (CV_0 hV) (by omega) (by omega)⟩)
              · refine p_aload (pc := 94) C dX4_copy_94 rfl ?_
                refine p_iload (pc := 96) C dX4_copy_96 rfl ?_
                refine p_iload (pc := 98) C dX4_copy_98 rfl ?_
                refine p_callVF (pc := 100) C ln_X4_222 dX4_copy_100 (k_X0_reaches ⟨by omega, by omega⟩ (by (repeat refine mg_n (by omega) ?_); first | assumption | exact mup_s _ _ _) (by omega)) ⟨by omega, by omega⟩ (by (repeat refine mg_n (by omega) ?_); first | assumption | exact mup_s _ _ _) rfl rfl rfl rfl (Nat.le_of_ble_eq_true rfl) ?_
                refine p_ifne_b (pc := 103) (tgt := 112) C dX4_copy_103 (by decide) (fun c_103 => ?_) (fun c_103 => ?_)
                · refine p_aload (pc := 112) C dX4_copy_112 rfl ?_
                  refine p_get (pc := 114) C fl_X4_225 dX4_copy_114 ⟨by omega, by omega⟩ (by (repeat refine mg_n (by omega) ?_); first | assumption | exact mup_s _ _ _) (by rfl) ?_
                  refine p_iload_n (pc := 117) C dX4_copy_117 rfl ?_
                  refine p_aload (pc := 118) C dX4_copy_118 rfl ?_
                  refine p_get (pc := 120) C fl_X4_225 dX4_copy_120 ⟨by omega, by omega⟩ (by (repeat refine mg_n (by omega) ?_); first | assumption | exact mup_s _ _ _) (by rfl) ?_
                  refine p_iload (pc := 123) C dX4_copy_123 rfl ?_
                  refine p_iload (pc := 125) C dX4_copy_125 rfl ?_
                  refine p_copy (pc := 127) C kl_X4_234 dX4_copy_127 ⟨by omega, by omega⟩ ⟨by omega, by omega⟩ (by (repeat refine mg_n (by omega) ?_); first | assumption | exact mup_s _ _ _) (by (repeat refine mg_n (by omega) ?_); first | assumption | exact mup_s _ _ _) (by omega) (by omega) (by omega) (by omega) (by omega) ?_
                  refine p_iload (pc := 130) C dX4_copy_130 rfl ?_
                  refine p_iret (pc := 132) C dX4_copy_132 ?_
                  first
                    | (refine ⟨fun q hq => by (repeat (refine mg_n (by omega) ?_)); rfl, ?_⟩; rw [if_pos (by omega)]; exact ⟨rfl, CV_0 hV⟩)
                    | (refine ⟨fun q hq => by (repeat (refine mg_n (by omega) ?_)); rfl, ?_⟩; rw [if_neg (by omega), if_pos (by omega)]; exact ⟨rfl, CV_0 hV⟩)
                    | (refine ⟨fun q hq => by (repeat (refine mg_n (by omega) ?_)); rfl, ?_⟩; rw [if_neg (by omega), if_neg (by omega), if_pos (by omega)]; exact ⟨rfl, CV_0 hV⟩)
                    | (refine ⟨fun q hq => by (repeat (refine mg_n (by omega) ?_)); rfl, ?_⟩; rw [if_neg (by omega), if_neg (by omega), if_neg (by omega), if_pos (by omega)]; exact ⟨rfl, CV_0 hV⟩)
                    | (refine ⟨fun q hq => by (repeat (refine mg_n (by omega) ?_)); rfl, ?_⟩; rw [if_neg (by omega), if_neg (by omega), if_neg (by omega), if_neg (by omega)]; exact ⟨rfl, CV_ce (CV_0 hV) (by omega) (by omega)⟩)
                · refine p_aload_n (pc := 106) C dX4_copy_106 rfl ?_
                  refine p_iconst (pc := 107) C dX4_copy_107 (by decide) ?_
                  refine p_callVF (pc := 108) C ln_X4_74 dX4_copy_108 (k_X4_faulted (by omega) (by (repeat refine mg_n (by omega) ?_); first | assumption | exact mup_s _ _ _)) ⟨by omega, by omega⟩ (by (repeat refine mg_n (by omega) ?_); first | assumption | exact mup_s _ _ _) rfl rfl rfl rfl (Nat.le_of_ble_eq_true rfl) ?_
                  refine p_mem (mup_mup _ _ _ _) ?_
                  refine p_iret (pc := 111) C dX4_copy_111 ?_
                  first
                    | (refine ⟨fun q hq => by (repeat (refine mg_n (by omega) ?_)); rfl, ?_⟩; rw [if_pos (by omega)]; exact ⟨rfl, CV_0 hV⟩)
                    | (refine ⟨fun q hq => by (repeat (refine mg_n (by omega) ?_)); rfl, ?_⟩; rw [if_neg (by omega), if_pos (by omega)]; exact ⟨rfl, CV_0 hV⟩)
                    | (refine ⟨fun q hq => by (repeat (refine mg_n (by omega) ?_)); rfl, ?_⟩; rw [if_neg (by omega), if_neg (by omega), if_pos (by omega)]; exact ⟨rfl, CV_0 hV⟩)
                    | (refine ⟨fun q hq => by (repeat (refine mg_n (by omega) ?_)); rfl, ?_⟩; rw [if_neg (by omega), if_neg (by omega), if_neg (by omega), if_pos (by omega)]; exact ⟨rfl, CV_0 hV⟩)
                    | (refine ⟨fun q hq => by (repeat (refine mg_n (by omega) ?_)); rfl, ?_⟩; rw [if_neg (by omega), if_neg (by omega), if_neg (by omega), if_neg (by omega)]; exact ⟨rfl, CV_ce (CV_0 hV) (by omega) (by omega)⟩)
          · refine p_aload_n (pc := 72) C dX4_copy_72 rfl ?_
            refine p_iconst (pc := 73) C dX4_copy_73 (by decide) ?_
            refine p_callVF (pc := 74) C ln_X4_74 dX4_copy_74 (k_X4_faulted (by omega) (by (repeat refine mg_n (by omega) ?_); first | assumption | exact mup_s _ _ _)) ⟨by omega, by omega⟩ (by (repeat refine mg_n (by omega) ?_); first | assumption | exact mup_s _ _ _) rfl rfl rfl rfl (Nat.le_of_ble_eq_true rfl) ?_
            refine p_mem (mup_mup _ _ _ _) ?_
            refine p_iret (pc := 77) C dX4_copy_77 ?_
            first
              | (refine ⟨fun q hq => by (repeat (refine mg_n (by omega) ?_)); rfl, ?_⟩; rw [if_pos (by omega)]; exact ⟨rfl, CV_0 hV⟩)
              | (refine ⟨fun q hq => by (repeat (refine mg_n (by omega) ?_)); rfl, ?_⟩; rw [if_neg (by omega), if_pos (by omega)]; exact ⟨rfl, CV_0 hV⟩)
              | (refine ⟨fun q hq => by (repeat (refine mg_n (by omega) ?_)); rfl, ?_⟩; rw [if_neg (by omega), if_neg (by omega), if_pos (by omega)]; exact ⟨rfl, CV_0 hV⟩)
              | (refine ⟨fun q hq => by (repeat (refine mg_n (by omega) ?_)); rfl, ?_⟩; rw [if_neg (by omega), if_neg (by omega), if_neg (by omega), if_pos (by omega)]; exact ⟨rfl, CV_0 hV⟩)
              | (refine ⟨fun q hq => by (repeat (refine mg_n (by omega) ?_)); rfl, ?_⟩; rw [if_neg (by omega), if_neg (by omega), if_neg (by omega), if_neg (by omega)]; exact ⟨rfl, CV_ce (CV_0 hV) (by omega) (by omega)⟩)
        · refine p_aload_n (pc := 53) C dX4_copy_53 rfl ?_
          refine p_iconst (pc := 54) C dX4_copy_54 (by decide) ?_
          refine p_callVF (pc := 55) C ln_X4_74 dX4_copy_55 (k_X4_faulted (by omega) (by (repeat refine mg_n (by omega) ?_); first | assumption | exact mup_s _ _ _)) ⟨by omega, by omega⟩ (by (repeat refine mg_n (by omega) ?_); first | assumption | exact mup_s _ _ _) rfl rfl rfl rfl (Nat.le_of_ble_eq_true rfl) ?_
          refine p_mem (mup_mup _ _ _ _) ?_
          refine p_iret (pc := 58) C dX4_copy_58 ?_
          first
            | (refine ⟨fun q hq => by (repeat (refine mg_n (by omega) ?_)); rfl, ?_⟩; rw [if_pos (by omega)]; exact ⟨rfl, CV_0 hV⟩)
            | (refine ⟨fun q hq => by (repeat (refine mg_n (by omega) ?_)); rfl, ?_⟩; rw [if_neg (by omega), if_pos (by omega)]; exact ⟨rfl, CV_0 hV⟩)
            | (refine ⟨fun q hq => by (repeat (refine mg_n (by omega) ?_)); rfl, ?_⟩; rw [if_neg (by omega), if_neg (by omega), if_pos (by omega)]; exact ⟨rfl, CV_0 hV⟩)
            | (refine ⟨fun q hq => by (repeat (refine mg_n (by omega) ?_)); rfl, ?_⟩; rw [if_neg (by omega), if_neg (by omega), if_neg (by omega), if_pos (by omega)]; exact ⟨rfl, CV_0 hV⟩)
            | (refine ⟨fun q hq => by (repeat (refine mg_n (by omega) ?_)); rfl, ?_⟩; rw [if_neg (by omega), if_neg (by omega), if_neg (by omega), if_neg (by omega)]; exact ⟨rfl, CV_ce (CV_0 hV) (by omega) (by omega)⟩)
    · refine p_iconst (pc := 19) C dX4_copy_19 (by decide) ?_
      refine p_iret (pc := 20) C dX4_copy_20 ?_
      first
        | (refine ⟨fun q hq => by (repeat (refine mg_n (by omega) ?_)); rfl, ?_⟩; rw [if_pos (by omega)]; exact ⟨rfl, CV_0 hV⟩)
        | (refine ⟨fun q hq => by (repeat (refine mg_n (by omega) ?_)); rfl, ?_⟩; rw [if_neg (by omega), if_pos (by omega)]; exact ⟨rfl, CV_0 hV⟩)
        | (refine ⟨fun q hq => by (repeat (refine mg_n (by omega) ?_)); rfl, ?_⟩; rw [if_neg (by omega), if_neg (by omega), if_pos (by omega)]; exact ⟨rfl, CV_0 hV⟩)
        | (refine ⟨fun q hq => by (repeat (refine mg_n (by omega) ?_)); rfl, ?_⟩; rw [if_neg (by omega), if_neg (by omega), if_neg (by omega), if_pos (by omega)]; exact ⟨rfl, CV_0 hV⟩)
        | (refine ⟨fun q hq => by (repeat (refine mg_n (by omega) ?_)); rfl, ?_⟩; rw [if_neg (by omega), if_neg (by omega), if_neg (by omega), if_neg (by omega)]; exact ⟨rfl, CV_ce (CV_0 hV) (by omega) (by omega)⟩)
