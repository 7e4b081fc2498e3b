set_option maxHeartbeats 4000000 in
set_option maxRecDepth 100000 in
theorem q_X4_keeps {K : KX} {d : Nat} {μ : Int → ME} {k : Int} {np ns day nr tr fl : Int} {rg kd nm sg pt : Int → Int} {ca : Int → Int → Int} {rs rp rl th la ln : Int → Int} {ce : Int → Int → Int} (hV : CV np ns day nr tr fl rg kd nm sg pt ca rs rp rl th la ln ce μ) (hW : WF np ns day nr tr fl rg kd nm sg pt ca rs rp rl th la ln ce) : Ct K (d + 2) yX4_keeps cX4_keeps 7 (some .int) [vR 0, vI k] μ (fun r μ' => (∀ a, 42 ≤ a → μ' a = μ a) ∧ (if ¬ (0 ≤ k ∧ k < ns) then r = some (vI (-1)) ∧ CV np ns day nr tr fl rg kd nm sg pt ca rs rp rl th la ln ce μ' else r = some (vI (kpT np rg (brg (kd k) (sg k)) (pt k) (ca k (nm k)))) ∧ CV np ns day nr tr fl rg kd nm sg pt ca rs rp rl th la ln ce μ')) := by
  refine Ct.of (by decide) (Nat.le_of_ble_eq_true rfl) (fun X C => ?_)
  obtain ⟨⟨a0, a1, a2, a3⟩, ⟨b4, b5, b6, b7, b8, b9⟩, ⟨c0, c1, c2, c3⟩, dd, ee, ff⟩ := id hV
  obtain ⟨w0, w1, w2, w3, w4, w5, w6⟩ := id hW
  have L : ∀ (t : Nat) (e p c : Int), 0 ≤ e → 30 - e = (t : Int) → (0 ≤ k ∧ k < ns) → (0 ≤ p ∧ p < np) → (0 ≤ c ∧ c ≤ 9) → kpN np rg (brg (kd k) (sg k)) p c e t = kpT np rg (brg (kd k) (sg k)) (pt k) (ca k (nm k)) → PW K X 7 (QM K X (fun r μ' => (∀ a, 42 ≤ a → μ' a = μ a) ∧ (if ¬ (0 ≤ k ∧ k < ns) then r = some (vI (-1)) ∧ CV np ns day nr tr fl rg kd nm sg pt ca rs rp rl th la ln ce μ' else r = some (vI (kpT np rg (brg (kd k) (sg k)) (pt k) (ca k (nm k)))) ∧ CV np ns day nr tr fl rg kd nm sg pt ca rs rp rl th la ln ce μ'))) 42 [(6, vI e), (5, vI p), (4, vI c), (3, vI (brg (kd k) (sg k))), (2, vR (14 + 4 * k)), (0, vR 0), (1, vI k)] [] μ := by
    intro t
    induction t with
    | zero =>
      intro e p c h1 h2 h3 h4 h5 h6
      rw [kpN] at h6
      refine p_iload (pc := 42) C dX4_keeps_42 rfl ?_
      refine p_if_le (pc := 44) (tgt := 82) C dX4_keeps_44 (by decide) (fun c_44 => ?_) (fun c_44 => ?_)
      · refine p_iload (pc := 82) C dX4_keeps_82 rfl ?_
        refine p_if_ne (pc := 84) (tgt := 92) C dX4_keeps_84 (by decide) (fun c_84 => ?_) (fun c_84 => ?_)
        · refine p_bipush (pc := 92) C dX4_keeps_92 (by decide) ?_
          refine p_iret (pc := 94) C dX4_keeps_94 ?_
          first
            | (exfalso; omega)
            | (refine ⟨fun q hq => by (repeat (refine mg_n (by omega) ?_)); rfl, ?_⟩; rw [if_neg (by omega)]; exact ⟨sv (by rw [← h6, if_pos (by omega)]), hV⟩)
            | (refine ⟨fun q hq => by (repeat (refine mg_n (by omega) ?_)); rfl, ?_⟩; rw [if_neg (by omega)]; exact ⟨sv (by rw [← h6, if_neg (by omega)]), hV⟩)
        · refine p_iload (pc := 87) C dX4_keeps_87 rfl ?_
          refine p_goto (pc := 89) (tgt := 94) C dX4_keeps_89 (by decide) ?_
          refine p_iret (pc := 94) C dX4_keeps_94 ?_
          first
            | (exfalso; omega)
            | (refine ⟨fun q hq => by (repeat (refine mg_n (by omega) ?_)); rfl, ?_⟩; rw [if_neg (by omega)]; exact ⟨sv (by rw [← h6, if_pos (by omega)]), hV⟩)
            | (refine ⟨fun q hq => by (repeat (refine mg_n (by omega) ?_)); rfl, ?_⟩; rw [if_neg (by omega)]; exact ⟨sv (by rw [← h6, if_neg (by omega)]), hV⟩)
      · refine p_iload (pc := 47) C dX4_keeps_47 rfl ?_
        refine p_bipush (pc := 49) C dX4_keeps_49 (by decide) ?_
        refine p_icmp_ge (pc := 51) (tgt := 82) C dX4_keeps_51 (by decide) (fun c_51 => ?_) (fun h => by exfalso; omega)
        refine p_iload (pc := 82) C dX4_keeps_82 rfl ?_
        refine p_if_ne (pc := 84) (tgt := 92) C dX4_keeps_84 (by decide) (fun c_84 => ?_) (fun c_84 => ?_)
        · refine p_bipush (pc := 92) C dX4_keeps_92 (by decide) ?_
          refine p_iret (pc := 94) C dX4_keeps_94 ?_
          first
            | (exfalso; omega)
            | (refine ⟨fun q hq => by (repeat (refine mg_n (by omega) ?_)); rfl, ?_⟩; rw [if_neg (by omega)]; exact ⟨sv (by rw [← h6, if_pos (by omega)]), hV⟩)
            | (refine ⟨fun q hq => by (repeat (refine mg_n (by omega) ?_)); rfl, ?_⟩; rw [if_neg (by omega)]; exact ⟨sv (by rw [← h6, if_neg (by omega)]), hV⟩)
        · refine p_iload (pc := 87) C dX4_keeps_87 rfl ?_
          refine p_goto (pc := 89) (tgt := 94) C dX4_keeps_89 (by decide) ?_
          refine p_iret (pc := 94) C dX4_keeps_94 ?_
          first
            | (exfalso; omega)
            | (refine ⟨fun q hq => by (repeat (refine mg_n (by omega) ?_)); rfl, ?_⟩; rw [if_neg (by omega)]; exact ⟨sv (by rw [← h6, if_pos (by omega)]), hV⟩)
            | (refine ⟨fun q hq => by (repeat (refine mg_n (by omega) ?_)); rfl, ?_⟩; rw [if_neg (by omega)]; exact ⟨sv (by rw [← h6, if_neg (by omega)]), hV⟩)
    | succ t ih =>
      intro e p c h1 h2 h3 h4 h5 h6
      rw [kpN] at h6
      have hq := nxp_r (np := np) h4.1 (by omega)
      refine p_iload (pc := 42) C dX4_keeps_42 rfl ?_
      refine p_if_le (pc := 44) (tgt := 82) C dX4_keeps_44 (by decide) (fun c_44 => ?_) (fun c_44 => ?_)
      · refine p_iload (pc := 82) C dX4_keeps_82 rfl ?_
        refine p_if_ne (pc := 84) (tgt := 92) C dX4_keeps_84 (by decide) (fun c_84 => ?_) (fun c_84 => ?_)
        · refine p_bipush (pc := 92) C dX4_keeps_92 (by decide) ?_
          refine p_iret (pc := 94) C dX4_keeps_94 ?_
          first
            | (exfalso; omega)
            | (refine ⟨fun q hq => by (repeat (refine mg_n (by omega) ?_)); rfl, ?_⟩; rw [if_neg (by omega)]; exact ⟨sv (by rw [← h6, if_pos (by omega)]), hV⟩)
        · refine p_iload (pc := 87) C dX4_keeps_87 rfl ?_
          refine p_goto (pc := 89) (tgt := 94) C dX4_keeps_89 (by decide) ?_
          refine p_iret (pc := 94) C dX4_keeps_94 ?_
          first
            | (exfalso; omega)
            | (refine ⟨fun q hq => by (repeat (refine mg_n (by omega) ?_)); rfl, ?_⟩; rw [if_neg (by omega)]; exact ⟨sv (by rw [← h6, if_pos (by omega)]), hV⟩)
      · refine p_iload (pc := 47) C dX4_keeps_47 rfl ?_
        refine p_bipush (pc := 49) C dX4_keeps_49 (by decide) ?_
        refine p_icmp_ge (pc := 51) (tgt := 82) C dX4_keeps_51 (by decide) (fun h => by exfalso; omega) (fun c_51 => ?_)
        refine p_aload_n (pc := 54) C dX4_keeps_54 rfl ?_
        refine p_get (pc := 55) C fl_X4_11 dX4_keeps_55 ⟨by omega, by omega⟩ (by (repeat refine mg_n (by omega) ?_); first | assumption | exact mup_s _ _ _) (by rfl) ?_
        refine p_iload (pc := 58) C dX4_keeps_58 rfl ?_
        refine p_iald (pc := 60) C dX4_keeps_60 ⟨by omega, by omega⟩ (by (repeat refine mg_n (by omega) ?_); first | assumption | exact mup_s _ _ _) (by omega) ?_
        refine p_iload_n (pc := 61) C dX4_keeps_61 rfl ?_
        refine p_icmp_le (pc := 62) (tgt := 68) C dX4_keeps_62 (by decide) (fun c_62 => ?_) (fun c_62 => ?_)
        · refine p_aload_n (pc := 68) C dX4_keeps_68 rfl ?_
          refine p_iload (pc := 69) C dX4_keeps_69 rfl ?_
          refine p_callVF (pc := 71) C ln_X4_155 dX4_keeps_71 (k_X4_portBehind (by omega) a0) ⟨by omega, by omega⟩ (by (repeat refine mg_n (by omega) ?_); first | assumption | exact mup_s _ _ _) rfl rfl rfl rfl (Nat.le_of_ble_eq_true rfl) ?_
          refine p_istore (pc := 74) (ls' := [(5, _), (6, _), (4, _), (3, _), (2, _), (0, _), (1, _)]) C dX4_keeps_74 (by decide) rfl ?_
          refine p_iinc (pc := 76) (ls' := [(6, _), (5, _), (4, _), (3, _), (2, _), (0, _), (1, _)]) C dX4_keeps_76 (by decide) rfl ⟨by omega, by omega⟩ rfl ?_
          refine p_goto (pc := 79) (tgt := 42) C dX4_keeps_79 (by decide) ?_
          first
            | (rw [if_neg (by omega), if_neg (by omega)] at h6; exact ih (e + 1) (nxp np p) c (by omega) (by omega) h3 hq (by omega) h6)
            | (rw [if_neg (by omega), if_pos (by omega)] at h6; exact ih (e + 1) (nxp np p) (c - 1) (by omega) (by omega) h3 hq (by omega) h6)
        · refine p_iinc (pc := 65) (ls' := [(4, _), (6, _), (5, _), (3, _), (2, _), (0, _), (1, _)]) C dX4_keeps_65 (by decide) rfl ⟨by omega, by omega⟩ rfl ?_
          refine p_aload_n (pc := 68) C dX4_keeps_68 rfl ?_
          refine p_iload (pc := 69) C dX4_keeps_69 rfl ?_
          refine p_callVF (pc := 71) C ln_X4_155 dX4_keeps_71 (k_X4_portBehind (by omega) a0) ⟨by omega, by omega⟩ (by (repeat refine mg_n (by omega) ?_); first | assumption | exact mup_s _ _ _) rfl rfl rfl rfl (Nat.le_of_ble_eq_true rfl) ?_
          refine p_istore (pc := 74) (ls' := [(5, _), (4, _), (6, _), (3, _), (2, _), (0, _), (1, _)]) C dX4_keeps_74 (by decide) rfl ?_
          refine p_iinc (pc := 76) (ls' := [(6, _), (5, _), (4, _), (3, _), (2, _), (0, _), (1, _)]) C dX4_keeps_76 (by decide) rfl ⟨by omega, by omega⟩ rfl ?_
          refine p_goto (pc := 79) (tgt := 42) C dX4_keeps_79 (by decide) ?_
          first
            | (rw [if_neg (by omega), if_neg (by omega)] at h6; exact ih (e + 1) (nxp np p) c (by omega) (by omega) h3 hq (by omega) h6)
            | (rw [if_neg (by omega), if_pos (by omega)] at h6; exact ih (e + 1) (nxp np p) (c - 1) (by omega) (by omega) h3 hq (by omega) h6)
  refine p_aload_n (pc := 0) C dX4_keeps_0 rfl ?_
  refine p_iload_n (pc := 1) C dX4_keeps_1 rfl ?_
  refine p_callVF (pc := 2) C ln_X4_89 dX4_keeps_2 (k_X4_isShip (by (repeat refine mg_n (by omega) ?_); first | assumption | exact mup_s _ _ _)) ⟨by omega, by omega⟩ (by (repeat refine mg_n (by omega) ?_); first | assumption | exact mup_s _ _ _) rfl rfl rfl rfl (Nat.le_of_ble_eq_true rfl) ?_
  refine p_ifne_b (pc := 5) (tgt := 10) C dX4_keeps_5 (by decide) (fun c_5 => ?_) (fun c_5 => ?_)
  · obtain ⟨s1, s2⟩ := dd k (by omega) (by omega)
    obtain ⟨n1, n2, n3⟩ := w3 k (by omega) (by omega)
    obtain ⟨x1, x2⟩ := w4 k (by omega) (by omega)
    have xg := x2.at n2.1 n2.2
    refine p_aload_n (pc := 10) C dX4_keeps_10 rfl ?_
    refine p_get (pc := 11) C fl_X4_17 dX4_keeps_11 ⟨by omega, by omega⟩ (by (repeat refine mg_n (by omega) ?_); first | assumption | exact mup_s _ _ _) (by rfl) ?_
    refine p_iload_n (pc := 14) C dX4_keeps_14 rfl ?_
    refine p_aald (pc := 15) C dX4_keeps_15 ⟨by omega, by omega⟩ (by (repeat refine mg_n (by omega) ?_); first | assumption | exact mup_s _ _ _) (by decide) (by omega) (by rfl) ?_
    refine p_astore_n (pc := 16) (ls' := [(2, _), (0, _), (1, _)]) C dX4_keeps_16 (by decide) rfl ?_
    refine p_aload_n (pc := 17) C dX4_keeps_17 rfl ?_
    refine p_callVF (pc := 18) C ln_X4_101 dX4_keeps_18 (k_X1_bearing ⟨by omega, by omega⟩ s1 (by omega)) ⟨by omega, by omega⟩ (by (repeat refine mg_n (by omega) ?_); first | assumption | exact mup_s _ _ _) rfl rfl rfl rfl (Nat.le_of_ble_eq_true rfl) ?_
    refine p_istore_n (pc := 21) (ls' := [(3, _), (2, _), (0, _), (1, _)]) C dX4_keeps_21 (by decide) rfl ?_
    refine p_aload_n (pc := 22) C dX4_keeps_22 rfl ?_
    refine p_get (pc := 23) C fl_X4_121 dX4_keeps_23 ⟨by omega, by omega⟩ (by (repeat refine mg_n (by omega) ?_); first | assumption | exact mup_s _ _ _) (by rfl) ?_
    refine p_aload_n (pc := 26) C dX4_keeps_26 rfl ?_
    refine p_get (pc := 27) C fl_X4_95 dX4_keeps_27 ⟨by omega, by omega⟩ (by (repeat refine mg_n (by omega) ?_); first | assumption | exact mup_s _ _ _) (by rfl) ?_
    refine p_iald (pc := 30) C dX4_keeps_30 ⟨by omega, by omega⟩ (by (repeat refine mg_n (by omega) ?_); first | assumption | exact mup_s _ _ _) (by omega) ?_
    refine p_istore (pc := 31) (ls' := [(4, _), (3, _), (2, _), (0, _), (1, _)]) C dX4_keeps_31 (by decide) rfl ?_
    refine p_aload_n (pc := 33) C dX4_keeps_33 rfl ?_
    refine p_get (pc := 34) C fl_X4_105 dX4_keeps_34 ⟨by omega, by omega⟩ (by (repeat refine mg_n (by omega) ?_); first | assumption | exact mup_s _ _ _) (by rfl) ?_
    refine p_istore (pc := 37) (ls' := [(5, _), (4, _), (3, _), (2, _), (0, _), (1, _)]) C dX4_keeps_37 (by decide) rfl ?_
    refine p_iconst (pc := 39) C dX4_keeps_39 (by decide) ?_
    refine p_istore (pc := 40) (ls' := [(6, _), (5, _), (4, _), (3, _), (2, _), (0, _), (1, _)]) C dX4_keeps_40 (by decide) rfl ?_
    exact L 30 0 (pt k) (ca k (nm k)) (by omega) (by omega) (by omega) x1 xg rfl
  · refine p_iconst (pc := 8) C dX4_keeps_8 (by decide) ?_
    refine p_iret (pc := 9) C dX4_keeps_9 ?_
    refine ⟨fun q hq => by (repeat (refine mg_n (by omega) ?_)); rfl, ?_⟩
    rw [if_pos (by omega)]
    exact ⟨rfl, hV⟩

set_option maxHeartbeats 4000000 in
set_option maxRecDepth 100000 in
theorem q_X4_harbour {K : KX} {d : Nat} {μ : Int → ME} {k n w : Int} {np ns day nr tr fl : Int} {rg kd nm sg pt : Int → Int} {ca : Int → Int → Int} {rs rp rl th la ln : Int → Int} {ce : Int → Int → Int} (hV : CV np ns day nr tr fl rg kd nm sg pt ca rs rp rl th la ln ce μ) (hW : WF np ns day nr tr fl rg kd nm sg pt ca rs rp rl th la ln ce) : Ct K (d + 4) yX4_harbour cX4_harbour 9 (some .int) [vR 0, vI k, vI n, vI w] μ (fun r μ' => (∀ a, 42 ≤ a → μ' a = μ a) ∧ (if ¬ (0 ≤ k ∧ k < ns) then r = some (vI (-1)) ∧ CV np ns day nr tr fl rg kd nm sg pt ca rs rp rl th la ln ce μ' else if ¬ ((0 ≤ n ∧ n ≤ 30) ∧ (0 ≤ w ∧ w ≤ 1)) then r = some (vI (-2)) ∧ CV np ns day nr tr fl rg kd nm sg pt ca rs rp rl th la ln ce μ' else r = some (vI (hbT np w (fun p => wor (los (ca k) (nm k) (rdN rg np (brg (kd k) (sg k)) p n.toNat))))) ∧ CV np ns day nr tr fl rg kd nm sg pt ca rs rp rl th la ln ce μ')) := by
  refine Ct.of (by decide) (Nat.le_of_ble_eq_true rfl) (fun X C => ?_)
  obtain ⟨⟨a0, a1, a2, a3⟩, ⟨b4, b5, b6, b7, b8, b9⟩, ⟨c0, c1, c2, c3⟩, dd, ee, ff⟩ := id hV
  obtain ⟨w0, w1, w2, w3, w4, w5, w6⟩ := id hW
  obtain ⟨G9, b9⟩ := b9
  have LL : (0 ≤ k ∧ k < ns) → (0 ≤ n ∧ n ≤ 30) → (0 ≤ w ∧ w ≤ 1) → ∀ ν : Int → ME, (∃ G : Int → Int, ν = mup μ 9 (mA 4 G)) → PW K X 9 (QM K X (fun r μ' => (∀ a, 42 ≤ a → μ' a = μ a) ∧ (if ¬ (0 ≤ k ∧ k < ns) then r = some (vI (-1)) ∧ CV np ns day nr tr fl rg kd nm sg pt ca rs rp rl th la ln ce μ' else if ¬ ((0 ≤ n ∧ n ≤ 30) ∧ (0 ≤ w ∧ w ≤ 1)) then r = some (vI (-2)) ∧ CV np ns day nr tr fl rg kd nm sg pt ca rs rp rl th la ln ce μ' else r = some (vI (hbT np w (fun p => wor (los (ca k) (nm k) (rdN rg np (brg (kd k) (sg k)) p n.toNat))))) ∧ CV np ns day nr tr fl rg kd nm sg pt ca rs rp rl th la ln ce μ'))) 54 [(7, vI 1), (6, vI ((fun p => wor (los (ca k) (nm k) (rdN rg np (brg (kd k) (sg k)) p n.toNat))) 0)), (5, vI 0), (4, vR (14 + 4 * k)), (0, vR 0), (1, vI k), (2, vI n), (3, vI w)] [] ν := by
    intro hk hn hw
    obtain ⟨s1, s2⟩ := dd k (by omega) (by omega)
    obtain ⟨n1, n2, n3⟩ := w3 k (by omega) (by omega)
    obtain ⟨x1, x2⟩ := w4 k (by omega) (by omega)
    have L : ∀ (t : Nat) (p b l : Int) (ν : Int → ME), 1 ≤ p → np - p = (t : Int) → (∃ G : Int → Int, ν = mup μ 9 (mA 4 G)) → hbN (fun p => wor (los (ca k) (nm k) (rdN rg np (brg (kd k) (sg k)) p n.toNat))) p b l t = hbN (fun p => wor (los (ca k) (nm k) (rdN rg np (brg (kd k) (sg k)) p n.toNat))) 1 0 ((fun p => wor (los (ca k) (nm k) (rdN rg np (brg (kd k) (sg k)) p n.toNat))) 0) (np - 1).toNat → PW K X 9 (QM K X (fun r μ' => (∀ a, 42 ≤ a → μ' a = μ a) ∧ (if ¬ (0 ≤ k ∧ k < ns) then r = some (vI (-1)) ∧ CV np ns day nr tr fl rg kd nm sg pt ca rs rp rl th la ln ce μ' else if ¬ ((0 ≤ n ∧ n ≤ 30) ∧ (0 ≤ w ∧ w ≤ 1)) then r = some (vI (-2)) ∧ CV np ns day nr tr fl rg kd nm sg pt ca rs rp rl th la ln ce μ' else r = some (vI (hbT np w (fun p => wor (los (ca k) (nm k) (rdN rg np (brg (kd k) (sg k)) p n.toNat))))) ∧ CV np ns day nr tr fl rg kd nm sg pt ca rs rp rl th la ln ce μ'))) 54 [(7, vI p), (6, vI l), (5, vI b), (4, vR (14 + 4 * k)), (0, vR 0), (1, vI k), (2, vI n), (3, vI w)] [] ν := by
      intro t
      induction t with
      | zero =>
        intro p b l ν h1 h2 h3 h6
        obtain ⟨G, rfl⟩ := h3
        rw [hbN] at h6
        refine p_iload (pc := 54) C dX4_harbour_54 rfl ?_
        refine p_aload_n (pc := 56) C dX4_harbour_56 rfl ?_
        refine p_get (pc := 57) C fl_X4_162 dX4_harbour_57 ⟨by omega, by omega⟩ (by (repeat refine mg_n (by omega) ?_); first | assumption | exact mup_s _ _ _) (by rfl) ?_
        refine p_icmp_ge (pc := 60) (tgt := 95) C dX4_harbour_60 (by decide) (fun c_60 => ?_) (fun h => by exfalso; omega)
        refine p_iload_n (pc := 95) C dX4_harbour_95 rfl ?_
        refine p_if_ne (pc := 96) (tgt := 104) C dX4_harbour_96 (by decide) (fun c_96 => ?_) (fun c_96 => ?_)
        · refine p_iload (pc := 104) C dX4_harbour_104 rfl ?_
          refine p_iret (pc := 106) C dX4_harbour_106 ?_
          first
            | (refine ⟨fun q hq => by (repeat (refine mg_n (by omega) ?_)); rfl, ?_⟩; rw [if_neg (by omega), if_neg (by omega)]; exact ⟨sv (by unfold hbT; rw [if_pos (by omega), ← h6]), CV_9 hV⟩)
            | (refine ⟨fun q hq => by (repeat (refine mg_n (by omega) ?_)); rfl, ?_⟩; rw [if_neg (by omega), if_neg (by omega)]; exact ⟨sv (by unfold hbT; rw [if_neg (by omega), ← h6]), CV_9 hV⟩)
        · refine p_iload (pc := 99) C dX4_harbour_99 rfl ?_
          refine p_goto (pc := 101) (tgt := 106) C dX4_harbour_101 (by decide) ?_
          refine p_iret (pc := 106) C dX4_harbour_106 ?_
          first
            | (refine ⟨fun q hq => by (repeat (refine mg_n (by omega) ?_)); rfl, ?_⟩; rw [if_neg (by omega), if_neg (by omega)]; exact ⟨sv (by unfold hbT; rw [if_pos (by omega), ← h6]), CV_9 hV⟩)
            | (refine ⟨fun q hq => by (repeat (refine mg_n (by omega) ?_)); rfl, ?_⟩; rw [if_neg (by omega), if_neg (by omega)]; exact ⟨sv (by unfold hbT; rw [if_neg (by omega), ← h6]), CV_9 hV⟩)
      | succ t ih =>
        intro p b l ν h1 h2 h3 h6
        obtain ⟨G, rfl⟩ := h3
        rw [hbN] at h6
        refine p_iload (pc := 54) C dX4_harbour_54 rfl ?_
        refine p_aload_n (pc := 56) C dX4_harbour_56 rfl ?_
        refine p_get (pc := 57) C fl_X4_162 dX4_harbour_57 ⟨by omega, by omega⟩ (by (repeat refine mg_n (by omega) ?_); first | assumption | exact mup_s _ _ _) (by rfl) ?_
        refine p_icmp_ge (pc := 60) (tgt := 95) C dX4_harbour_60 (by decide) (fun h => by exfalso; omega) (fun c_60 => ?_)
        refine p_aload_n (pc := 63) C dX4_harbour_63 rfl ?_
        refine p_aload (pc := 64) C dX4_harbour_64 rfl ?_
        refine p_iload (pc := 66) C dX4_harbour_66 rfl ?_
        refine p_iload_n (pc := 68) C dX4_harbour_68 rfl ?_
        refine p_callVI (pc := 69) C ln_X4_158 dX4_harbour_69 (k_X4_worthLostFrom ⟨by omega, by omega⟩ (by (repeat refine mg_n (by omega) ?_); first | assumption | exact mup_s _ _ _) ⟨by omega, by omega⟩ (by (repeat refine mg_n (by omega) ?_); first | assumption | exact mup_s _ _ _) (by (repeat refine mg_n (by omega) ?_); first | assumption | exact mup_s _ _ _) (by (repeat refine mg_n (by omega) ?_); first | assumption | exact mup_s _ _ _) (by omega) (by (repeat refine mg_n (by omega) ?_); first | assumption | exact mup_s _ _ _) (by omega) (by omega) (by omega) (by omega) (by omega) n3 n2 x2) ⟨by omega, by omega⟩ (by (repeat refine mg_n (by omega) ?_); first | assumption | exact mup_s _ _ _) rfl rfl rfl rfl (Nat.le_of_ble_eq_true rfl) (fun z μ' hpost => ?_)
        obtain ⟨hz, G2, rfl⟩ := hpost
        subst hz
        refine p_mem (mup_mup _ _ _ _) ?_
        refine p_istore (pc := 72) (ls' := [(8, _), (7, _), (6, _), (5, _), (4, _), (0, _), (1, _), (2, _), (3, _)]) C dX4_harbour_72 (by decide) rfl ?_
        refine p_iload (pc := 74) C dX4_harbour_74 rfl ?_
        refine p_iload (pc := 76) C dX4_harbour_76 rfl ?_
        refine p_icmp_ge (pc := 78) (tgt := 89) C dX4_harbour_78 (by decide) (fun c_78 => ?_) (fun c_78 => ?_)
        · refine p_iinc (pc := 89) (ls' := [(7, _), (8, _), (6, _), (5, _), (4, _), (0, _), (1, _), (2, _), (3, _)]) C dX4_harbour_89 (by decide) rfl ⟨by omega, by omega⟩ rfl ?_
          refine p_goto (pc := 92) (tgt := 54) C dX4_harbour_92 (by decide) ?_
          refine p_pick [0, 2, 3, 4, 5, 6, 7, 8] (ls' := [(7, _), (6, _), (5, _), (4, _), (0, _), (1, _), (2, _), (3, _)]) rfl ?_
          first
            | (rw [if_pos c_78] at h6; exact ih (p + 1) p _ _ (by omega) (by omega) ⟨G2, rfl⟩ h6)
            | (rw [if_neg (by omega)] at h6; exact ih (p + 1) b l _ (by omega) (by omega) ⟨G2, rfl⟩ h6)
            | (rw [if_pos (by omega)] at h6; exact ih (p + 1) p _ _ (by omega) (by omega) ⟨G2, rfl⟩ h6)
        · refine p_iload (pc := 81) C dX4_harbour_81 rfl ?_
          refine p_istore (pc := 83) (ls' := [(5, _), (8, _), (7, _), (6, _), (4, _), (0, _), (1, _), (2, _), (3, _)]) C dX4_harbour_83 (by decide) rfl ?_
          refine p_iload (pc := 85) C dX4_harbour_85 rfl ?_
          refine p_istore (pc := 87) (ls' := [(6, _), (5, _), (8, _), (7, _), (4, _), (0, _), (1, _), (2, _), (3, _)]) C dX4_harbour_87 (by decide) rfl ?_
          refine p_iinc (pc := 89) (ls' := [(7, _), (6, _), (5, _), (8, _), (4, _), (0, _), (1, _), (2, _), (3, _)]) C dX4_harbour_89 (by decide) rfl ⟨by omega, by omega⟩ rfl ?_
          refine p_goto (pc := 92) (tgt := 54) C dX4_harbour_92 (by decide) ?_
          refine p_pick [0, 1, 2, 4, 5, 6, 7, 8] (ls' := [(7, _), (6, _), (5, _), (4, _), (0, _), (1, _), (2, _), (3, _)]) rfl ?_
          first
            | (rw [if_pos c_78] at h6; exact ih (p + 1) p _ _ (by omega) (by omega) ⟨G2, rfl⟩ h6)
            | (rw [if_neg (by omega)] at h6; exact ih (p + 1) b l _ (by omega) (by omega) ⟨G2, rfl⟩ h6)
            | (rw [if_pos (by omega)] at h6; exact ih (p + 1) p _ _ (by omega) (by omega) ⟨G2, rfl⟩ h6)
    intro ν h3
    exact L (np - 1).toNat 1 0 _ ν (by omega) (by omega) h3 rfl
  refine p_aload_n (pc := 0) C dX4_harbour_0 rfl ?_
  refine p_iload_n (pc := 1) C dX4_harbour_1 rfl ?_
  refine p_callVF (pc := 2) C ln_X4_89 dX4_harbour_2 (k_X4_isShip (by (repeat refine mg_n (by omega) ?_); first | assumption | exact mup_s _ _ _)) ⟨by omega, by omega⟩ (by (repeat refine mg_n (by omega) ?_); first | assumption | exact mup_s _ _ _) rfl rfl rfl rfl (Nat.le_of_ble_eq_true rfl) ?_
  refine p_ifne_b (pc := 5) (tgt := 10) C dX4_harbour_5 (by decide) (fun c_5 => ?_) (fun c_5 => ?_)
  · refine p_iload_n (pc := 10) C dX4_harbour_10 rfl ?_
    refine p_bipush (pc := 11) C dX4_harbour_11 (by decide) ?_
    refine p_callSF (pc := 13) C ln_X4_127 dX4_harbour_13 (k_X4_isUpTo) rfl rfl (Nat.le_of_ble_eq_true rfl) ?_
    refine p_ifeq_b (pc := 16) (tgt := 27) C dX4_harbour_16 (by decide) (fun c_16 => ?_) (fun c_16 => ?_)
    · refine p_bipush (pc := 27) C dX4_harbour_27 (by decide) ?_
      refine p_iret (pc := 29) C dX4_harbour_29 ?_
      first
        | (refine ⟨fun q hq => by (repeat (refine mg_n (by omega) ?_)); rfl, ?_⟩; rw [if_pos (by omega)]; exact ⟨rfl, hV⟩)
        | (refine ⟨fun q hq => by (repeat (refine mg_n (by omega) ?_)); rfl, ?_⟩; rw [if_neg (by omega), if_pos (by omega)]; exact ⟨rfl, hV⟩)
    · refine p_iload_n (pc := 19) C dX4_harbour_19 rfl ?_
      refine p_iconst (pc := 20) C dX4_harbour_20 (by decide) ?_
      refine p_callSF (pc := 21) C ln_X4_127 dX4_harbour_21 (k_X4_isUpTo) rfl rfl (Nat.le_of_ble_eq_true rfl) ?_
      refine p_ifne_b (pc := 24) (tgt := 30) C dX4_harbour_24 (by decide) (fun c_24 => ?_) (fun c_24 => ?_)
      · obtain ⟨s1, s2⟩ := dd k (by omega) (by omega)
        obtain ⟨n1, n2, n3⟩ := w3 k (by omega) (by omega)
        obtain ⟨x1, x2⟩ := w4 k (by omega) (by omega)
        refine p_aload_n (pc := 30) C dX4_harbour_30 rfl ?_
        refine p_get (pc := 31) C fl_X4_17 dX4_harbour_31 ⟨by omega, by omega⟩ (by (repeat refine mg_n (by omega) ?_); first | assumption | exact mup_s _ _ _) (by rfl) ?_
        refine p_iload_n (pc := 34) C dX4_harbour_34 rfl ?_
        refine p_aald (pc := 35) C dX4_harbour_35 ⟨by omega, by omega⟩ (by (repeat refine mg_n (by omega) ?_); first | assumption | exact mup_s _ _ _) (by decide) (by omega) (by rfl) ?_
        refine p_astore (pc := 36) (ls' := [(4, _), (0, _), (1, _), (2, _), (3, _)]) C dX4_harbour_36 (by decide) rfl ?_
        refine p_iconst (pc := 38) C dX4_harbour_38 (by decide) ?_
        refine p_istore (pc := 39) (ls' := [(5, _), (4, _), (0, _), (1, _), (2, _), (3, _)]) C dX4_harbour_39 (by decide) rfl ?_
        refine p_aload_n (pc := 41) C dX4_harbour_41 rfl ?_
        refine p_aload (pc := 42) C dX4_harbour_42 rfl ?_
        refine p_iconst (pc := 44) C dX4_harbour_44 (by decide) ?_
        refine p_iload_n (pc := 45) C dX4_harbour_45 rfl ?_
        refine p_callVI (pc := 46) C ln_X4_158 dX4_harbour_46 (k_X4_worthLostFrom ⟨by omega, by omega⟩ (by (repeat refine mg_n (by omega) ?_); first | assumption | exact mup_s _ _ _) ⟨by omega, by omega⟩ (by (repeat refine mg_n (by omega) ?_); first | assumption | exact mup_s _ _ _) (by (repeat refine mg_n (by omega) ?_); first | assumption | exact mup_s _ _ _) (by (repeat refine mg_n (by omega) ?_); first | assumption | exact mup_s _ _ _) (by omega) (by (repeat refine mg_n (by omega) ?_); first | assumption | exact mup_s _ _ _) (by omega) (by omega) (by omega) (by omega) (by omega) n3 n2 x2) ⟨by omega, by omega⟩ (by (repeat refine mg_n (by omega) ?_); first | assumption | exact mup_s _ _ _) rfl rfl rfl rfl (Nat.le_of_ble_eq_true rfl) (fun z μ' hpost => ?_)
        obtain ⟨hz, G2, rfl⟩ := hpost
        subst hz
        refine p_istore (pc := 49) (ls' := [(6, _), (5, _), (4, _), (0, _), (1, _), (2, _), (3, _)]) C dX4_harbour_49 (by decide) rfl ?_
        refine p_iconst (pc := 51) C dX4_harbour_51 (by decide) ?_
        refine p_istore (pc := 52) (ls' := [(7, _), (6, _), (5, _), (4, _), (0, _), (1, _), (2, _), (3, _)]) C dX4_harbour_52 (by decide) rfl ?_
        exact LL (by omega) (by omega) (by omega) _ ⟨G2, rfl⟩
      · refine p_bipush (pc := 27) C dX4_harbour_27 (by decide) ?_
        refine p_iret (pc := 29) C dX4_harbour_29 ?_
        first
          | (refine ⟨fun q hq => by (repeat (refine mg_n (by omega) ?_)); rfl, ?_⟩; rw [if_pos (by omega)]; exact ⟨rfl, hV⟩)
          | (refine ⟨fun q hq => by (repeat (refine mg_n (by omega) ?_)); rfl, ?_⟩; rw [if_neg (by omega), if_pos (by omega)]; exact ⟨rfl, hV⟩)
  · refine p_iconst (pc := 8) C dX4_harbour_8 (by decide) ?_
    refine p_iret (pc := 9) C dX4_harbour_9 ?_
    first
      | (refine ⟨fun q hq => by (repeat (refine mg_n (by omega) ?_)); rfl, ?_⟩; rw [if_pos (by omega)]; exact ⟨rfl, hV⟩)
      | (refine ⟨fun q hq => by (repeat (refine mg_n (by omega) ?_)); rfl, ?_⟩; rw [if_neg (by omega), if_pos (by omega)]; exact ⟨rfl, hV⟩)

set_option maxHeartbeats 4000000 in
set_option maxRecDepth 100000 in
theorem q_X4_cover {K : KX} {d : Nat} {μ : Int → ME} {np ns day nr tr fl : Int} {rg kd nm sg pt : Int → Int} {ca : Int → Int → Int} {rs rp rl th la ln : Int → Int} {ce : Int → Int → Int} (hV : CV np ns day nr tr fl rg kd nm sg pt ca rs rp rl th la ln ce μ) (hW : WF np ns day nr tr fl rg kd nm sg pt ca rs rp rl th la ln ce) : Ct K (d + 1) yX4_cover cX4_cover 5 (some .int) [vR 0] μ (fun r μ' => (∀ a, 42 ≤ a → μ' a = μ a) ∧ (if ¬ 0 < ns then r = some (vI (-3)) ∧ CV np ns day nr tr fl rg kd nm sg pt ca rs rp rl th la ln ce μ' else r = some (vI ((coN nm 0 0 0 ns.toNat))) ∧ CV np ns day nr tr fl rg kd nm sg pt ca rs rp rl th la ln ce μ')) := by
  refine Ct.of (by decide) (Nat.le_of_ble_eq_true rfl) (fun X C => ?_)
  obtain ⟨⟨a0, a1, a2, a3⟩, ⟨b4, b5, b6, b7, b8, b9⟩, ⟨c0, c1, c2, c3⟩, dd, ee, ff⟩ := id hV
  obtain ⟨w0, w1, w2, w3, w4, w5, w6⟩ := id hW
  have L : ∀ (t : Nat) (k h c : Int), 0 ≤ k → ns - k = (t : Int) → 0 < ns → coN nm k c h t = coN nm 0 0 0 ns.toNat → PW K X 5 (QM K X (fun r μ' => (∀ a, 42 ≤ a → μ' a = μ a) ∧ (if ¬ 0 < ns then r = some (vI (-3)) ∧ CV np ns day nr tr fl rg kd nm sg pt ca rs rp rl th la ln ce μ' else r = some (vI ((coN nm 0 0 0 ns.toNat))) ∧ CV np ns day nr tr fl rg kd nm sg pt ca rs rp rl th la ln ce μ'))) 16 [(3, vI k), (2, vI h), (1, vI c), (0, vR 0)] [] μ := by
    intro t
    induction t with
    | zero =>
      intro k h c h1 h2 h3 h6
      rw [coN] at h6
      refine p_iload_n (pc := 16) C dX4_cover_16 rfl ?_
      refine p_aload_n (pc := 17) C dX4_cover_17 rfl ?_
      refine p_get (pc := 18) C fl_X4_86 dX4_cover_18 ⟨by omega, by omega⟩ (by (repeat refine mg_n (by omega) ?_); first | assumption | exact mup_s _ _ _) (by rfl) ?_
      refine p_icmp_ge (pc := 21) (tgt := 61) C dX4_cover_21 (by decide) (fun c_21 => ?_) (fun h => by exfalso; omega)
      refine p_iload_n (pc := 61) C dX4_cover_61 rfl ?_
      refine p_iret (pc := 62) C dX4_cover_62 ?_
      refine ⟨fun q hq => by (repeat (refine mg_n (by omega) ?_)); rfl, ?_⟩
      rw [if_neg (by omega)]
      exact ⟨sv (by rw [← h6]), hV⟩
    | succ t ih =>
      intro k h c h1 h2 h3 h6
      rw [coN] at h6
      obtain ⟨s1, s2⟩ := dd k (by omega) (by omega)
      refine p_iload_n (pc := 16) C dX4_cover_16 rfl ?_
      refine p_aload_n (pc := 17) C dX4_cover_17 rfl ?_
      refine p_get (pc := 18) C fl_X4_86 dX4_cover_18 ⟨by omega, by omega⟩ (by (repeat refine mg_n (by omega) ?_); first | assumption | exact mup_s _ _ _) (by rfl) ?_
      refine p_icmp_ge (pc := 21) (tgt := 61) C dX4_cover_21 (by decide) (fun h => by exfalso; omega) (fun c_21 => ?_)
      refine p_iconst (pc := 24) C dX4_cover_24 (by decide) ?_
      refine p_aload_n (pc := 25) C dX4_cover_25 rfl ?_
      refine p_get (pc := 26) C fl_X4_17 dX4_cover_26 ⟨by omega, by omega⟩ (by (repeat refine mg_n (by omega) ?_); first | assumption | exact mup_s _ _ _) (by rfl) ?_
      refine p_iload_n (pc := 29) C dX4_cover_29 rfl ?_
      refine p_aald (pc := 30) C dX4_cover_30 ⟨by omega, by omega⟩ (by (repeat refine mg_n (by omega) ?_); first | assumption | exact mup_s _ _ _) (by decide) (by omega) (by rfl) ?_
      refine p_get (pc := 31) C fl_X4_95 dX4_cover_31 ⟨by omega, by omega⟩ (by (repeat refine mg_n (by omega) ?_); first | assumption | exact mup_s _ _ _) (by rfl) ?_
      refine p_ishl (pc := 34) C dX4_cover_34 ?_
      refine p_istore (pc := 35) (ls' := [(4, _), (3, _), (2, _), (1, _), (0, _)]) C dX4_cover_35 (by decide) rfl ?_
      refine p_iload_n (pc := 37) C dX4_cover_37 rfl ?_
      refine p_iload (pc := 38) C dX4_cover_38 rfl ?_
      refine p_iand (pc := 40) C dX4_cover_40 ?_
      refine p_if_ne (pc := 41) (tgt := 55) C dX4_cover_41 (by decide) (fun c_41 => ?_) (fun c_41 => ?_)
      · refine p_iinc (pc := 55) (ls' := [(3, _), (4, _), (2, _), (1, _), (0, _)]) C dX4_cover_55 (by decide) rfl ⟨by omega, by omega⟩ rfl ?_
        refine p_goto (pc := 58) (tgt := 16) C dX4_cover_58 (by decide) ?_
        refine p_pick [0, 2, 3, 4] (ls' := [(3, _), (2, _), (1, _), (0, _)]) rfl ?_
        first
          | (rw [if_neg c_41] at h6; exact ih (k + 1) h c (by omega) (by omega) h3 h6)
          | (rw [if_pos c_41] at h6; exact ih (k + 1) _ _ (by omega) (by omega) h3 h6)
      · refine p_iload_n (pc := 44) C dX4_cover_44 rfl ?_
        refine p_iload (pc := 45) C dX4_cover_45 rfl ?_
        refine p_ior (pc := 47) C dX4_cover_47 ?_
        refine p_istore_n (pc := 48) (ls' := [(1, _), (4, _), (3, _), (2, _), (0, _)]) C dX4_cover_48 (by decide) rfl ?_
        refine p_iload_n (pc := 49) C dX4_cover_49 rfl ?_
        refine p_iconst (pc := 50) C dX4_cover_50 (by decide) ?_
        refine p_iload_n (pc := 51) C dX4_cover_51 rfl ?_
        refine p_ishl (pc := 52) C dX4_cover_52 ?_
        refine p_ior (pc := 53) C dX4_cover_53 ?_
        refine p_istore_n (pc := 54) (ls' := [(2, _), (1, _), (4, _), (3, _), (0, _)]) C dX4_cover_54 (by decide) rfl ?_
        refine p_iinc (pc := 55) (ls' := [(3, _), (2, _), (1, _), (4, _), (0, _)]) C dX4_cover_55 (by decide) rfl ⟨by omega, by omega⟩ rfl ?_
        refine p_goto (pc := 58) (tgt := 16) C dX4_cover_58 (by decide) ?_
        refine p_pick [0, 1, 2, 4] (ls' := [(3, _), (2, _), (1, _), (0, _)]) rfl ?_
        first
          | (rw [if_neg c_41] at h6; exact ih (k + 1) h c (by omega) (by omega) h3 h6)
          | (rw [if_pos c_41] at h6; exact ih (k + 1) _ _ (by omega) (by omega) h3 h6)
  refine p_aload_n (pc := 0) C dX4_cover_0 rfl ?_
  refine p_callVF (pc := 1) C ln_X4_130 dX4_cover_1 (k_X4_hasSea (by (repeat refine mg_n (by omega) ?_); first | assumption | exact mup_s _ _ _)) ⟨by omega, by omega⟩ (by (repeat refine mg_n (by omega) ?_); first | assumption | exact mup_s _ _ _) rfl rfl rfl rfl (Nat.le_of_ble_eq_true rfl) ?_
  refine p_ifne_b (pc := 4) (tgt := 10) C dX4_cover_4 (by decide) (fun c_4 => ?_) (fun c_4 => ?_)
  · refine p_iconst (pc := 10) C dX4_cover_10 (by decide) ?_
    refine p_istore_n (pc := 11) (ls' := [(1, _), (0, _)]) C dX4_cover_11 (by decide) rfl ?_
    refine p_iconst (pc := 12) C dX4_cover_12 (by decide) ?_
    refine p_istore_n (pc := 13) (ls' := [(2, _), (1, _), (0, _)]) C dX4_cover_13 (by decide) rfl ?_
    refine p_iconst (pc := 14) C dX4_cover_14 (by decide) ?_
    refine p_istore_n (pc := 15) (ls' := [(3, _), (2, _), (1, _), (0, _)]) C dX4_cover_15 (by decide) rfl ?_
    exact L ns.toNat 0 0 0 (by omega) (by omega) (by omega) rfl
  · refine p_bipush (pc := 7) C dX4_cover_7 (by decide) ?_
    refine p_iret (pc := 9) C dX4_cover_9 ?_
    refine ⟨fun q hq => by (repeat (refine mg_n (by omega) ?_)); rfl, ?_⟩
    rw [if_pos (by omega)]
    exact ⟨rfl, hV⟩

set_option maxHeartbeats 4000000 in
set_option maxRecDepth 100000 in
theorem q_X4_strengths {K : KX} {d : Nat} {μ : Int → ME} {k : Int} {np ns day nr tr fl : Int} {rg kd nm sg pt : Int → Int} {ca : Int → Int → Int} {rs rp rl th la ln : Int → Int} {ce : Int → Int → Int} (hV : CV np ns day nr tr fl rg kd nm sg pt ca rs rp rl th la ln ce μ) (hW : WF np ns day nr tr fl rg kd nm sg pt ca rs rp rl th la ln ce) : Ct K (d + 3) yX4_strengths cX4_strengths 4 (some .int) [vR 0, vI k] μ (fun r μ' => (∀ a, 42 ≤ a → μ' a = μ a) ∧ (if ¬ (0 ≤ k ∧ k < ns) then r = some (vI (-1)) ∧ CV np ns day nr tr fl rg kd nm sg pt ca rs rp rl th la ln ce μ' else r = some (vI (orN (fun v => soN (brK k (brg (kd k) v) rs kd sg) rg rp rl 0 nr.toNat = 1) 0 0 10)) ∧ CV np ns day nr tr fl rg kd nm sg pt ca rs rp rl th la ln ce μ')) := by
  refine Ct.of (by decide) (Nat.le_of_ble_eq_true rfl) (fun X C => ?_)
  obtain ⟨⟨a0, a1, a2, a3⟩, ⟨b4, b5, b6, b7, b8, b9⟩, ⟨c0, c1, c2, c3⟩, dd, ee, ff⟩ := id hV
  obtain ⟨w0, w1, w2, w3, w4, w5, w6⟩ := id hW
  have L : ∀ (t : Nat) (v w : Int), 0 ≤ v → 10 - v = (t : Int) → (0 ≤ k ∧ k < ns) → orN (fun v => soN (brK k (brg (kd k) v) rs kd sg) rg rp rl 0 nr.toNat = 1) v w t = orN (fun v => soN (brK k (brg (kd k) v) rs kd sg) rg rp rl 0 nr.toNat = 1) 0 0 10 → PW K X 4 (QM K X (fun r μ' => (∀ a, 42 ≤ a → μ' a = μ a) ∧ (if ¬ (0 ≤ k ∧ k < ns) then r = some (vI (-1)) ∧ CV np ns day nr tr fl rg kd nm sg pt ca rs rp rl th la ln ce μ' else r = some (vI (orN (fun v => soN (brK k (brg (kd k) v) rs kd sg) rg rp rl 0 nr.toNat = 1) 0 0 10)) ∧ CV np ns day nr tr fl rg kd nm sg pt ca rs rp rl th la ln ce μ'))) 14 [(3, vI v), (2, vI w), (0, vR 0), (1, vI k)] [] μ := by
    intro t
    induction t with
    | zero =>
      intro v w h1 h2 h3 h6
      rw [orN] at h6
      refine p_iload_n (pc := 14) C dX4_strengths_14 rfl ?_
      refine p_bipush (pc := 15) C dX4_strengths_15 (by decide) ?_
      refine p_icmp_gt (pc := 17) (tgt := 53) C dX4_strengths_17 (by decide) (fun c_17 => ?_) (fun h => by exfalso; omega)
      refine p_iload_n (pc := 53) C dX4_strengths_53 rfl ?_
      refine p_iret (pc := 54) C dX4_strengths_54 ?_
      refine ⟨fun q hq => by (repeat (refine mg_n (by omega) ?_)); rfl, ?_⟩
      rw [if_neg (by omega)]
      exact ⟨sv h6, hV⟩
    | succ t ih =>
      intro v w h1 h2 h3 h6
      obtain ⟨s1, s2⟩ := dd k (by omega) (by omega)
      obtain ⟨n1, n2, n3⟩ := w3 k (by omega) (by omega)
      obtain ⟨x1, x2⟩ := w4 k (by omega) (by omega)
      refine p_iload_n (pc := 14) C dX4_strengths_14 rfl ?_
      refine p_bipush (pc := 15) C dX4_strengths_15 (by decide) ?_
      refine p_icmp_gt (pc := 17) (tgt := 53) C dX4_strengths_17 (by decide) (fun h => by exfalso; omega) (fun c_17 => ?_)
      refine p_aload_n (pc := 20) C dX4_strengths_20 rfl ?_
      refine p_iload_n (pc := 21) C dX4_strengths_21 rfl ?_
      refine p_aload_n (pc := 22) C dX4_strengths_22 rfl ?_
      refine p_get (pc := 23) C fl_X4_17 dX4_strengths_23 ⟨by omega, by omega⟩ (by (repeat refine mg_n (by omega) ?_); first | assumption | exact mup_s _ _ _) (by rfl) ?_
      refine p_iload_n (pc := 26) C dX4_strengths_26 rfl ?_
      refine p_aald (pc := 27) C dX4_strengths_27 ⟨by omega, by omega⟩ (by (repeat refine mg_n (by omega) ?_); first | assumption | exact mup_s _ _ _) (by decide) (by omega) (by rfl) ?_
      refine p_get (pc := 28) C fl_X4_92 dX4_strengths_28 ⟨by omega, by omega⟩ (by (repeat refine mg_n (by omega) ?_); first | assumption | exact mup_s _ _ _) (by rfl) ?_
      refine p_iload_n (pc := 31) C dX4_strengths_31 rfl ?_
      refine p_callSF (pc := 32) C ln_X4_184 dX4_strengths_32 (k_X4_bearingOf (by omega)) rfl rfl (Nat.le_of_ble_eq_true rfl) ?_
      refine p_callVF (pc := 35) C ln_X4_188 dX4_strengths_35 (k_X4_readingsAreSo a0 a1 (by omega) a2 dd c0 c1 c2 (by omega) w1 (fun i i0 i1 => ⟨(w5 i i0 i1).1, (w5 i i0 i1).2.1⟩) (fun j j0 j1 => (w3 j j0 j1).2.2)) ⟨by omega, by omega⟩ (by (repeat refine mg_n (by omega) ?_); first | assumption | exact mup_s _ _ _) rfl rfl rfl rfl (Nat.le_of_ble_eq_true rfl) ?_
      refine p_ifeq_b (pc := 38) (tgt := 47) C dX4_strengths_38 (by decide) (fun c_38 => ?_) (fun c_38 => ?_)
      · refine p_iinc (pc := 47) (ls' := [(3, _), (2, _), (0, _), (1, _)]) C dX4_strengths_47 (by decide) rfl ⟨by omega, by omega⟩ rfl ?_
        refine p_goto (pc := 50) (tgt := 14) C dX4_strengths_50 (by decide) ?_
        first
          | (rw [or_t (P := (fun v => soN (brK k (brg (kd k) v) rs kd sg) rg rp rl 0 nr.toNat = 1)) (v := v) c_38] at h6; exact ih (v + 1) _ (by omega) (by omega) h3 h6)
          | (rw [or_f (P := (fun v => soN (brK k (brg (kd k) v) rs kd sg) rg rp rl 0 nr.toNat = 1)) (v := v) c_38] at h6; exact ih (v + 1) _ (by omega) (by omega) h3 h6)
      · refine p_iload_n (pc := 41) C dX4_strengths_41 rfl ?_
        refine p_iconst (pc := 42) C dX4_strengths_42 (by decide) ?_
        refine p_iload_n (pc := 43) C dX4_strengths_43 rfl ?_
        refine p_ishl (pc := 44) C dX4_strengths_44 ?_
        refine p_ior (pc := 45) C dX4_strengths_45 ?_
        refine p_istore_n (pc := 46) (ls' := [(2, _), (3, _), (0, _), (1, _)]) C dX4_strengths_46 (by decide) rfl ?_
        refine p_iinc (pc := 47) (ls' := [(3, _), (2, _), (0, _), (1, _)]) C dX4_strengths_47 (by decide) rfl ⟨by omega, by omega⟩ rfl ?_
        refine p_goto (pc := 50) (tgt := 14) C dX4_strengths_50 (by decide) ?_
        first
          | (rw [or_t (P := (fun v => soN (brK k (brg (kd k) v) rs kd sg) rg rp rl 0 nr.toNat = 1)) (v := v) c_38] at h6; exact ih (v + 1) _ (by omega) (by omega) h3 h6)
          | (rw [or_f (P := (fun v => soN (brK k (brg (kd k) v) rs kd sg) rg rp rl 0 nr.toNat = 1)) (v := v) c_38] at h6; exact ih (v + 1) _ (by omega) (by omega) h3 h6)
  refine p_aload_n (pc := 0) C dX4_strengths_0 rfl ?_
  refine p_iload_n (pc := 1) C dX4_strengths_1 rfl ?_
  refine p_callVF (pc := 2) C ln_X4_89 dX4_strengths_2 (k_X4_isShip (by (repeat refine mg_n (by omega) ?_); first | assumption | exact mup_s _ _ _)) ⟨by omega, by omega⟩ (by (repeat refine mg_n (by omega) ?_); first | assumption | exact mup_s _ _ _) rfl rfl rfl rfl (Nat.le_of_ble_eq_true rfl) ?_
  refine p_ifne_b (pc := 5) (tgt := 10) C dX4_strengths_5 (by decide) (fun c_5 => ?_) (fun c_5 => ?_)
  · refine p_iconst (pc := 10) C dX4_strengths_10 (by decide) ?_
    refine p_istore_n (pc := 11) (ls' := [(2, _), (0, _), (1, _)]) C dX4_strengths_11 (by decide) rfl ?_
    refine p_iconst (pc := 12) C dX4_strengths_12 (by decide) ?_
    refine p_istore_n (pc := 13) (ls' := [(3, _), (2, _), (0, _), (1, _)]) C dX4_strengths_13 (by decide) rfl ?_
    exact L 10 0 0 (by omega) (by omega) (by omega) rfl
  · refine p_iconst (pc := 8) C dX4_strengths_8 (by decide) ?_
    refine p_iret (pc := 9) C dX4_strengths_9 ?_
    refine ⟨fun q hq => by (repeat (refine mg_n (by omega) ?_)); rfl, ?_⟩
    rw [if_pos (by omega)]
    exact ⟨rfl, hV⟩

set_option maxHeartbeats 4000000 in
set_option maxRecDepth 100000 in
theorem q_X4_kinds {K : KX} {d : Nat} {μ : Int → ME} {k : Int} {np ns day nr tr fl : Int} {rg kd nm sg pt : Int → Int} {ca : Int → Int → Int} {rs rp rl th la ln : Int → Int} {ce : Int → Int → Int} (hV : CV np ns day nr tr fl rg kd nm sg pt ca rs rp rl th la ln ce μ) (hW : WF np ns day nr tr fl rg kd nm sg pt ca rs rp rl th la ln ce) : Ct K (d + 3) yX4_kinds cX4_kinds 4 (some .int) [vR 0, vI k] μ (fun r μ' => (∀ a, 42 ≤ a → μ' a = μ a) ∧ (if ¬ (0 ≤ k ∧ k < ns) then r = some (vI (-1)) ∧ CV np ns day nr tr fl rg kd nm sg pt ca rs rp rl th la ln ce μ' else r = some (vI (orN (fun v => soN (brK k (brg v (sg k)) rs kd sg) rg rp rl 0 nr.toNat = 1) 0 0 3)) ∧ CV np ns day nr tr fl rg kd nm sg pt ca rs rp rl th la ln ce μ')) := by
  refine Ct.of (by decide) (Nat.le_of_ble_eq_true rfl) (fun X C => ?_)
  obtain ⟨⟨a0, a1, a2, a3⟩, ⟨b4, b5, b6, b7, b8, b9⟩, ⟨c0, c1, c2, c3⟩, dd, ee, ff⟩ := id hV
  obtain ⟨w0, w1, w2, w3, w4, w5, w6⟩ := id hW
  have L : ∀ (t : Nat) (v w : Int), 0 ≤ v → 3 - v = (t : Int) → (0 ≤ k ∧ k < ns) → orN (fun v => soN (brK k (brg v (sg k)) rs kd sg) rg rp rl 0 nr.toNat = 1) v w t = orN (fun v => soN (brK k (brg v (sg k)) rs kd sg) rg rp rl 0 nr.toNat = 1) 0 0 3 → PW K X 4 (QM K X (fun r μ' => (∀ a, 42 ≤ a → μ' a = μ a) ∧ (if ¬ (0 ≤ k ∧ k < ns) then r = some (vI (-1)) ∧ CV np ns day nr tr fl rg kd nm sg pt ca rs rp rl th la ln ce μ' else r = some (vI (orN (fun v => soN (brK k (brg v (sg k)) rs kd sg) rg rp rl 0 nr.toNat = 1) 0 0 3)) ∧ CV np ns day nr tr fl rg kd nm sg pt ca rs rp rl th la ln ce μ'))) 14 [(3, vI v), (2, vI w), (0, vR 0), (1, vI k)] [] μ := by
    intro t
    induction t with
    | zero =>
      intro v w h1 h2 h3 h6
      rw [orN] at h6
      refine p_iload_n (pc := 14) C dX4_kinds_14 rfl ?_
      refine p_iconst (pc := 15) C dX4_kinds_15 (by decide) ?_
      refine p_icmp_ge (pc := 16) (tgt := 52) C dX4_kinds_16 (by decide) (fun c_16 => ?_) (fun h => by exfalso; omega)
      refine p_iload_n (pc := 52) C dX4_kinds_52 rfl ?_
      refine p_iret (pc := 53) C dX4_kinds_53 ?_
      refine ⟨fun q hq => by (repeat (refine mg_n (by omega) ?_)); rfl, ?_⟩
      rw [if_neg (by omega)]
      exact ⟨sv h6, hV⟩
    | succ t ih =>
      intro v w h1 h2 h3 h6
      obtain ⟨s1, s2⟩ := dd k (by omega) (by omega)
      obtain ⟨n1, n2, n3⟩ := w3 k (by omega) (by omega)
      obtain ⟨x1, x2⟩ := w4 k (by omega) (by omega)
      refine p_iload_n (pc := 14) C dX4_kinds_14 rfl ?_
      refine p_iconst (pc := 15) C dX4_kinds_15 (by decide) ?_
      refine p_icmp_ge (pc := 16) (tgt := 52) C dX4_kinds_16 (by decide) (fun h => by exfalso; omega) (fun c_16 => ?_)
      refine p_aload_n (pc := 19) C dX4_kinds_19 rfl ?_
      refine p_iload_n (pc := 20) C dX4_kinds_20 rfl ?_
      refine p_iload_n (pc := 21) C dX4_kinds_21 rfl ?_
      refine p_aload_n (pc := 22) C dX4_kinds_22 rfl ?_
      refine p_get (pc := 23) C fl_X4_17 dX4_kinds_23 ⟨by omega, by omega⟩ (by (repeat refine mg_n (by omega) ?_); first | assumption | exact mup_s _ _ _) (by rfl) ?_
      refine p_iload_n (pc := 26) C dX4_kinds_26 rfl ?_
      refine p_aald (pc := 27) C dX4_kinds_27 ⟨by omega, by omega⟩ (by (repeat refine mg_n (by omega) ?_); first | assumption | exact mup_s _ _ _) (by decide) (by omega) (by rfl) ?_
      refine p_get (pc := 28) C fl_X4_98 dX4_kinds_28 ⟨by omega, by omega⟩ (by (repeat refine mg_n (by omega) ?_); first | assumption | exact mup_s _ _ _) (by rfl) ?_
      refine p_callSF (pc := 31) C ln_X4_184 dX4_kinds_31 (k_X4_bearingOf (by omega)) rfl rfl (Nat.le_of_ble_eq_true rfl) ?_
      refine p_callVF (pc := 34) C ln_X4_188 dX4_kinds_34 (k_X4_readingsAreSo a0 a1 (by omega) a2 dd c0 c1 c2 (by omega) w1 (fun i i0 i1 => ⟨(w5 i i0 i1).1, (w5 i i0 i1).2.1⟩) (fun j j0 j1 => (w3 j j0 j1).2.2)) ⟨by omega, by omega⟩ (by (repeat refine mg_n (by omega) ?_); first | assumption | exact mup_s _ _ _) rfl rfl rfl rfl (Nat.le_of_ble_eq_true rfl) ?_
      refine p_ifeq_b (pc := 37) (tgt := 46) C dX4_kinds_37 (by decide) (fun c_37 => ?_) (fun c_37 => ?_)
      · refine p_iinc (pc := 46) (ls' := [(3, _), (2, _), (0, _), (1, _)]) C dX4_kinds_46 (by decide) rfl ⟨by omega, by omega⟩ rfl ?_
        refine p_goto (pc := 49) (tgt := 14) C dX4_kinds_49 (by decide) ?_
        first
          | (rw [or_t (P := (fun v => soN (brK k (brg v (sg k)) rs kd sg) rg rp rl 0 nr.toNat = 1)) (v := v) c_37] at h6; exact ih (v + 1) _ (by omega) (by omega) h3 h6)
          | (rw [or_f (P := (fun v => soN (brK k (brg v (sg k)) rs kd sg) rg rp rl 0 nr.toNat = 1)) (v := v) c_37] at h6; exact ih (v + 1) _ (by omega) (by omega) h3 h6)
      · refine p_iload_n (pc := 40) C dX4_kinds_40 rfl ?_
        refine p_iconst (pc := 41) C dX4_kinds_41 (by decide) ?_
        refine p_iload_n (pc := 42) C dX4_kinds_42 rfl ?_
        refine p_ishl (pc := 43) C dX4_kinds_43 ?_
        refine p_ior (pc := 44) C dX4_kinds_44 ?_
        refine p_istore_n (pc := 45) (ls' := [(2, _), (3, _), (0, _), (1, _)]) C dX4_kinds_45 (by decide) rfl ?_
        refine p_iinc (pc := 46) (ls' := [(3, _), (2, _), (0, _), (1, _)]) C dX4_kinds_46 (by decide) rfl ⟨by omega, by omega⟩ rfl ?_
        refine p_goto (pc := 49) (tgt := 14) C dX4_kinds_49 (by decide) ?_
        first
          | (rw [or_t (P := (fun v => soN (brK k (brg v (sg k)) rs kd sg) rg rp rl 0 nr.toNat = 1)) (v := v) c_37] at h6; exact ih (v + 1) _ (by omega) (by omega) h3 h6)
          | (rw [or_f (P := (fun v => soN (brK k (brg v (sg k)) rs kd sg) rg rp rl 0 nr.toNat = 1)) (v := v) c_37] at h6; exact ih (v + 1) _ (by omega) (by omega) h3 h6)
  refine p_aload_n (pc := 0) C dX4_kinds_0 rfl ?_
  refine p_iload_n (pc := 1) C dX4_kinds_1 rfl ?_
  refine p_callVF (pc := 2) C ln_X4_89 dX4_kinds_2 (k_X4_isShip (by (repeat refine mg_n (by omega) ?_); first | assumption | exact mup_s _ _ _)) ⟨by omega, by omega⟩ (by (repeat refine mg_n (by omega) ?_); first | assumption | exact mup_s _ _ _) rfl rfl rfl rfl (Nat.le_of_ble_eq_true rfl) ?_
  refine p_ifne_b (pc := 5) (tgt := 10) C dX4_kinds_5 (by decide) (fun c_5 => ?_) (fun c_5 => ?_)
  · refine p_iconst (pc := 10) C dX4_kinds_10 (by decide) ?_
    refine p_istore_n (pc := 11) (ls' := [(2, _), (0, _), (1, _)]) C dX4_kinds_11 (by decide) rfl ?_
    refine p_iconst (pc := 12) C dX4_kinds_12 (by decide) ?_
    refine p_istore_n (pc := 13) (ls' := [(3, _), (2, _), (0, _), (1, _)]) C dX4_kinds_13 (by decide) rfl ?_
    exact L 3 0 0 (by omega) (by omega) (by omega) rfl
  · refine p_iconst (pc := 8) C dX4_kinds_8 (by decide) ?_
    refine p_iret (pc := 9) C dX4_kinds_9 ?_
    refine ⟨fun q hq => by (repeat (refine mg_n (by omega) ?_)); rfl, ?_⟩
    rw [if_pos (by omega)]
    exact ⟨rfl, hV⟩
