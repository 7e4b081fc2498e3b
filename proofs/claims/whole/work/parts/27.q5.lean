set_option maxHeartbeats 4000000 in
set_option maxRecDepth 100000 in
theorem q_X4_names {K : KX} {d : Nat} {μ : Int → ME} {s l i k n : Int} {np ns day nr tr fl : Int} {rg kd nm sg pt : Int → Int} {ca : Int → Int → Int} {rs rp rl th la ln : Int → Int} {ce : Int → Int → Int} (hV : CV np ns day nr tr fl rg kd nm sg pt ca rs rp rl th la ln ce μ) (hW : WF np ns day nr tr fl rg kd nm sg pt ca rs rp rl th la ln ce) : Ct K (d + 3) yX4_names cX4_names 12 (some .int) [vR 0, vI s, vI l, vI i, vI k, vI n] μ (fun r μ' => (∀ a, 42 ≤ a → μ' a = μ a) ∧ (if ¬ ((0 ≤ s ∧ s < 4) ∧ (0 ≤ k ∧ k < ns)) then r = some (vI (-1)) ∧ CV np ns day nr tr (0) rg kd nm sg pt ca rs rp rl th la ln ce μ' else if ¬ ((0 ≤ l ∧ l < 3) ∧ (0 ≤ n ∧ n ≤ 30)) then r = some (vI (-2)) ∧ CV np ns day nr tr (0) rg kd nm sg pt ca rs rp rl th la ln ce μ' else if fot (th s) (la s) (ln s) l i 4 ≠ 0 then r = some (vI (-10 - fot (th s) (la s) (ln s) l i 4)) ∧ CV np ns day nr tr (fot (th s) (la s) (ln s) l i 4) rg kd nm sg pt ca rs rp rl th la ln ce μ' else r = some (vI (orN (fun v => nmP (cAt (ln s) (ce s)) i (los (ca k) v (rdN rg np (brg (kd k) (sg k)) (pt k) n.toNat))) 0 0 4)) ∧ CV np ns day nr tr (0) rg kd nm sg pt ca rs rp rl th la ln ce μ')) := by
  refine Ct.of (by decide) (Nat.le_of_ble_eq_true rfl) (fun X C => ?_)
  obtain ⟨⟨a0, a1, a2, a3⟩, ⟨b4, b5, b6, b7, b8, b9⟩, ⟨c0, c1, c2, c3⟩, dd, ee, ff⟩ := id hV
  obtain ⟨w0, w1, w2, w3, w4, w5, w6⟩ := id hW
  obtain ⟨G9, b9⟩ := b9
  have LL : (0 ≤ k ∧ k < ns) → (0 ≤ s ∧ s < 4) → (0 ≤ l ∧ l < 3) → (0 ≤ n ∧ n ≤ 30) → fot (th s) (la s) (ln s) l i 4 = 0 → ∀ ν : Int → ME, (∃ G : Int → Int, ν = mup (mup μ 0 (oY np ns day nr tr 0)) 9 (mA 4 G)) → PW K X 12 (QM K X (fun r μ' => (∀ a, 42 ≤ a → μ' a = μ a) ∧ (if ¬ ((0 ≤ s ∧ s < 4) ∧ (0 ≤ k ∧ k < ns)) then r = some (vI (-1)) ∧ CV np ns day nr tr (0) rg kd nm sg pt ca rs rp rl th la ln ce μ' else if ¬ ((0 ≤ l ∧ l < 3) ∧ (0 ≤ n ∧ n ≤ 30)) then r = some (vI (-2)) ∧ CV np ns day nr tr (0) rg kd nm sg pt ca rs rp rl th la ln ce μ' else if fot (th s) (la s) (ln s) l i 4 ≠ 0 then r = some (vI (-10 - fot (th s) (la s) (ln s) l i 4)) ∧ CV np ns day nr tr (fot (th s) (la s) (ln s) l i 4) rg kd nm sg pt ca rs rp rl th la ln ce μ' else r = some (vI (orN (fun v => nmP (cAt (ln s) (ce s)) i (los (ca k) v (rdN rg np (brg (kd k) (sg k)) (pt k) n.toNat))) 0 0 4)) ∧ CV np ns day nr tr (0) rg kd nm sg pt ca rs rp rl th la ln ce μ'))) 107 [(11, vI 0), (10, vI 0), (9, vI (rdN rg np (brg (kd k) (sg k)) (pt k) n.toNat)), (8, vR (14 + 4 * k)), (7, vI 0), (6, vR (34 + 2 * s)), (0, vR 0), (1, vI s), (2, vI l), (3, vI i), (4, vI k), (5, vI n)] [] ν := by
    intro hk hs hl hn hf0
    have hz := fot_0 hf0
    have hrd := rdN_r rg np (brg (kd k) (sg k)) n.toNat (pt k)
    obtain ⟨s1, s2⟩ := dd k (by omega) (by omega)
    obtain ⟨n1, n2, n3⟩ := w3 k (by omega) (by omega)
    obtain ⟨x1, x2⟩ := w4 k (by omega) (by omega)
    obtain ⟨r1, r2⟩ := ff s (by omega) (by omega)
    obtain ⟨y1, y2, y3⟩ := w6 s (by omega) (by omega)
    have L : ∀ (t : Nat) (v w : Int) (ν : Int → ME), 0 ≤ v → 4 - v = (t : Int) → (∃ G : Int → Int, ν = mup (mup μ 0 (oY np ns day nr tr 0)) 9 (mA 4 G)) → orN (fun v => nmP (cAt (ln s) (ce s)) i (los (ca k) v (rdN rg np (brg (kd k) (sg k)) (pt k) n.toNat))) v w t = orN (fun v => nmP (cAt (ln s) (ce s)) i (los (ca k) v (rdN rg np (brg (kd k) (sg k)) (pt k) n.toNat))) 0 0 4 → PW K X 12 (QM K X (fun r μ' => (∀ a, 42 ≤ a → μ' a = μ a) ∧ (if ¬ ((0 ≤ s ∧ s < 4) ∧ (0 ≤ k ∧ k < ns)) then r = some (vI (-1)) ∧ CV np ns day nr tr (0) rg kd nm sg pt ca rs rp rl th la ln ce μ' else if ¬ ((0 ≤ l ∧ l < 3) ∧ (0 ≤ n ∧ n ≤ 30)) then r = some (vI (-2)) ∧ CV np ns day nr tr (0) rg kd nm sg pt ca rs rp rl th la ln ce μ' else if fot (th s) (la s) (ln s) l i 4 ≠ 0 then r = some (vI (-10 - fot (th s) (la s) (ln s) l i 4)) ∧ CV np ns day nr tr (fot (th s) (la s) (ln s) l i 4) rg kd nm sg pt ca rs rp rl th la ln ce μ' else r = some (vI (orN (fun v => nmP (cAt (ln s) (ce s)) i (los (ca k) v (rdN rg np (brg (kd k) (sg k)) (pt k) n.toNat))) 0 0 4)) ∧ CV np ns day nr tr (0) rg kd nm sg pt ca rs rp rl th la ln ce μ'))) 107 [(11, vI v), (10, vI w), (9, vI (rdN rg np (brg (kd k) (sg k)) (pt k) n.toNat)), (8, vR (14 + 4 * k)), (7, vI 0), (6, vR (34 + 2 * s)), (0, vR 0), (1, vI s), (2, vI l), (3, vI i), (4, vI k), (5, vI n)] [] ν := by
      intro t
      induction t with
      | zero =>
        intro v w ν h1 h2 h3 h6
        rw [orN] at h6
        obtain ⟨G, rfl⟩ := h3
        refine p_iload (pc := 107) C dX4_names_107 rfl ?_
        refine p_iconst (pc := 109) C dX4_names_109 (by decide) ?_
        refine p_icmp_ge (pc := 110) (tgt := 157) C dX4_names_110 (by decide) (fun c_110 => ?_) (fun h => by exfalso; omega)
        refine p_iload (pc := 157) C dX4_names_157 rfl ?_
        refine p_iret (pc := 159) C dX4_names_159 ?_
        refine ⟨fun q hq => by (repeat (refine mg_n (by omega) ?_)); rfl, ?_⟩
        rw [if_neg (by omega), if_neg (by omega), if_neg (by omega)]
        exact ⟨sv h6, CV_9 (CV_0 hV)⟩
      | succ t ih =>
        intro v w ν h1 h2 h3 h6
        obtain ⟨G, rfl⟩ := h3
        refine p_iload (pc := 107) C dX4_names_107 rfl ?_
        refine p_iconst (pc := 109) C dX4_names_109 (by decide) ?_
        refine p_icmp_ge (pc := 110) (tgt := 157) C dX4_names_110 (by decide) (fun h => by exfalso; omega) (fun c_110 => ?_)
        refine p_aload (pc := 113) C dX4_names_113 rfl ?_
        refine p_get (pc := 115) C fl_X4_121 dX4_names_115 ⟨by omega, by omega⟩ (by (repeat refine mg_n (by omega) ?_); first | assumption | exact mup_s _ _ _) (by rfl) ?_
        refine p_iload (pc := 118) C dX4_names_118 rfl ?_
        refine p_iload (pc := 120) C dX4_names_120 rfl ?_
        refine p_aload_n (pc := 122) C dX4_names_122 rfl ?_
        refine p_get (pc := 123) C fl_X4_38 dX4_names_123 ⟨by omega, by omega⟩ (by (repeat refine mg_n (by omega) ?_); first | assumption | exact mup_s _ _ _) (by rfl) ?_
        refine p_callSV (pc := 126) C ln_X4_191 dX4_names_126 (k_X4_fillLosses ⟨by omega, by omega⟩ (by (repeat refine mg_n (by omega) ?_); first | assumption | exact mup_s _ _ _) ⟨by omega, by omega⟩ (by (repeat refine mg_n (by omega) ?_); first | assumption | exact mup_s _ _ _) (by omega) (by omega) (x2.le (by omega)) (by omega)) rfl rfl (Nat.le_of_ble_eq_true rfl) (fun μ' hpost => ?_)
        obtain ⟨G2, rfl, hG⟩ := hpost
        refine p_mem (mup_mup _ _ _ _) ?_
        have hP : (fun v => nmP (cAt (ln s) (ce s)) i (los (ca k) v (rdN rg np (brg (kd k) (sg k)) (pt k) n.toNat))) v ↔ (cAt (ln s) (ce s) (i + 0) = G2 0 ∧ cAt (ln s) (ce s) (i + 1) = G2 1 ∧ cAt (ln s) (ce s) (i + 2) = G2 2 ∧ cAt (ln s) (ce s) (i + 3) = G2 3) := by
          rw [hG 0 (by omega) (by omega), hG 1 (by omega) (by omega), hG 2 (by omega) (by omega), hG 3 (by omega) (by omega)]; exact Iff.rfl
        refine p_aload (pc := 129) C dX4_names_129 rfl ?_
        refine p_iload_n (pc := 131) C dX4_names_131 rfl ?_
        refine p_aload_n (pc := 132) C dX4_names_132 rfl ?_
        refine p_get (pc := 133) C fl_X4_38 dX4_names_133 ⟨by omega, by omega⟩ (by (repeat refine mg_n (by omega) ?_); first | assumption | exact mup_s _ _ _) (by rfl) ?_
        refine p_callVF (pc := 136) C ln_X4_195 dX4_names_136 (k_X0_standsAt ⟨by omega, by omega⟩ (by (repeat refine mg_n (by omega) ?_); first | assumption | exact mup_s _ _ _) ⟨by omega, by omega⟩ (by (repeat refine mg_n (by omega) ?_); first | assumption | exact mup_s _ _ _) (by omega) (by omega) ⟨by omega, by omega⟩ (mup_s _ _ _)) ⟨by omega, by omega⟩ (by (repeat refine mg_n (by omega) ?_); first | assumption | exact mup_s _ _ _) rfl rfl rfl rfl (Nat.le_of_ble_eq_true rfl) ?_
        refine p_ifeq_b (pc := 139) (tgt := 151) C dX4_names_139 (by decide) (fun c_139 => ?_) (fun c_139 => ?_)
        · refine p_iinc (pc := 151) (ls' := [(11, _), (10, _), (9, _), (8, _), (7, _), (6, _), (0, _), (1, _), (2, _), (3, _), (4, _), (5, _)]) C dX4_names_151 (by decide) rfl ⟨by omega, by omega⟩ rfl ?_
          refine p_goto (pc := 154) (tgt := 107) C dX4_names_154 (by decide) ?_
          first
            | (rw [or_t (P := (fun v => nmP (cAt (ln s) (ce s)) i (los (ca k) v (rdN rg np (brg (kd k) (sg k)) (pt k) n.toNat)))) (v := v) (hP.mpr c_139)] at h6; exact ih (v + 1) _ _ (by omega) (by omega) ⟨G2, rfl⟩ h6)
            | (rw [or_f (P := (fun v => nmP (cAt (ln s) (ce s)) i (los (ca k) v (rdN rg np (brg (kd k) (sg k)) (pt k) n.toNat)))) (v := v) (fun z => c_139 (hP.mp z))] at h6; exact ih (v + 1) _ _ (by omega) (by omega) ⟨G2, rfl⟩ h6)
        · refine p_iload (pc := 142) C dX4_names_142 rfl ?_
          refine p_iconst (pc := 144) C dX4_names_144 (by decide) ?_
          refine p_iload (pc := 145) C dX4_names_145 rfl ?_
          refine p_ishl (pc := 147) C dX4_names_147 ?_
          refine p_ior (pc := 148) C dX4_names_148 ?_
          refine p_istore (pc := 149) (ls' := [(10, _), (11, _), (9, _), (8, _), (7, _), (6, _), (0, _), (1, _), (2, _), (3, _), (4, _), (5, _)]) C dX4_names_149 (by decide) rfl ?_
          refine p_iinc (pc := 151) (ls' := [(11, _), (10, _), (9, _), (8, _), (7, _), (6, _), (0, _), (1, _), (2, _), (3, _), (4, _), (5, _)]) C dX4_names_151 (by decide) rfl ⟨by omega, by omega⟩ rfl ?_
          refine p_goto (pc := 154) (tgt := 107) C dX4_names_154 (by decide) ?_
          first
            | (rw [or_t (P := (fun v => nmP (cAt (ln s) (ce s)) i (los (ca k) v (rdN rg np (brg (kd k) (sg k)) (pt k) n.toNat)))) (v := v) (hP.mpr c_139)] at h6; exact ih (v + 1) _ _ (by omega) (by omega) ⟨G2, rfl⟩ h6)
            | (rw [or_f (P := (fun v => nmP (cAt (ln s) (ce s)) i (los (ca k) v (rdN rg np (brg (kd k) (sg k)) (pt k) n.toNat)))) (v := v) (fun z => c_139 (hP.mp z))] at h6; exact ih (v + 1) _ _ (by omega) (by omega) ⟨G2, rfl⟩ h6)
    intro ν h3
    exact L 4 0 0 ν (by omega) (by omega) h3 rfl
  refine p_aload_n (pc := 0) C dX4_names_0 rfl ?_
  refine p_iconst (pc := 1) C dX4_names_1 (by decide) ?_
  refine p_putL (pc := 2) (fs' := [_, _, _, _, _, _, _, _, _, _, _, _, _, _, _, _]) C fp_X4_58 dX4_names_2 ⟨by omega, by omega⟩ (by (repeat refine mg_n (by omega) ?_); first | assumption | exact mup_s _ _ _) (by exact Nat.le_of_ble_eq_true rfl) (by rfl) ?_
  try refine p_mem (mup_mup _ _ _ _) ?_
  refine p_iload_n (pc := 5) C dX4_names_5 rfl ?_
  refine p_callSF (pc := 6) C ln_X4_62 dX4_names_6 (k_X4_isSheet) rfl rfl (Nat.le_of_ble_eq_true rfl) ?_
  refine p_ifeq_b (pc := 9) (tgt := 21) C dX4_names_9 (by decide) (fun c_9 => ?_) (fun c_9 => ?_)
  · refine p_iconst (pc := 21) C dX4_names_21 (by decide) ?_
    refine p_iret (pc := 22) C dX4_names_22 ?_
    first
      | (refine ⟨fun q hq => by (repeat (refine mg_n (by omega) ?_)); rfl, ?_⟩; rw [if_pos (by omega)]; exact ⟨rfl, CV_0 hV⟩)
      | (refine ⟨fun q hq => by (repeat (refine mg_n (by omega) ?_)); rfl, ?_⟩; rw [if_neg (by omega), if_pos (by omega)]; exact ⟨rfl, CV_0 hV⟩)
      | (refine ⟨fun q hq => by (repeat (refine mg_n (by omega) ?_)); rfl, ?_⟩; rw [if_neg (by omega), if_neg (by omega), if_pos (by omega)]; exact ⟨rfl, CV_0 hV⟩)
  · refine p_aload_n (pc := 12) C dX4_names_12 rfl ?_
    refine p_iload (pc := 13) C dX4_names_13 rfl ?_
    refine p_callVF (pc := 15) C ln_X4_89 dX4_names_15 (k_X4_isShip (by (repeat refine mg_n (by omega) ?_); first | assumption | exact mup_s _ _ _)) ⟨by omega, by omega⟩ (by (repeat refine mg_n (by omega) ?_); first | assumption | exact mup_s _ _ _) rfl rfl rfl rfl (Nat.le_of_ble_eq_true rfl) ?_
    refine p_ifne_b (pc := 18) (tgt := 23) C dX4_names_18 (by decide) (fun c_18 => ?_) (fun c_18 => ?_)
    · refine p_iload_n (pc := 23) C dX4_names_23 rfl ?_
      refine p_iconst (pc := 24) C dX4_names_24 (by decide) ?_
      refine p_callSF (pc := 25) C ln_X4_66 dX4_names_25 (k_X4_isBelow) rfl rfl (Nat.le_of_ble_eq_true rfl) ?_
      refine p_ifeq_b (pc := 28) (tgt := 41) C dX4_names_28 (by decide) (fun c_28 => ?_) (fun c_28 => ?_)
      · refine p_bipush (pc := 41) C dX4_names_41 (by decide) ?_
        refine p_iret (pc := 43) C dX4_names_43 ?_
        first
          | (refine ⟨fun q hq => by (repeat (refine mg_n (by omega) ?_)); rfl, ?_⟩; rw [if_pos (by omega)]; exact ⟨rfl, CV_0 hV⟩)
          | (refine ⟨fun q hq => by (repeat (refine mg_n (by omega) ?_)); rfl, ?_⟩; rw [if_neg (by omega), if_pos (by omega)]; exact ⟨rfl, CV_0 hV⟩)
          | (refine ⟨fun q hq => by (repeat (refine mg_n (by omega) ?_)); rfl, ?_⟩; rw [if_neg (by omega), if_neg (by omega), if_pos (by omega)]; exact ⟨rfl, CV_0 hV⟩)
      · refine p_iload (pc := 31) C dX4_names_31 rfl ?_
        refine p_bipush (pc := 33) C dX4_names_33 (by decide) ?_
        refine p_callSF (pc := 35) C ln_X4_127 dX4_names_35 (k_X4_isUpTo) rfl rfl (Nat.le_of_ble_eq_true rfl) ?_
        refine p_ifne_b (pc := 38) (tgt := 44) C dX4_names_38 (by decide) (fun c_38 => ?_) (fun c_38 => ?_)
        · obtain ⟨r1, r2⟩ := ff s (by omega) (by omega)
          obtain ⟨y1, y2, y3⟩ := w6 s (by omega) (by omega)
          obtain ⟨s1, s2⟩ := dd k (by omega) (by omega)
          obtain ⟨n1, n2, n3⟩ := w3 k (by omega) (by omega)
          obtain ⟨x1, x2⟩ := w4 k (by omega) (by omega)
          refine p_aload_n (pc := 44) C dX4_names_44 rfl ?_
          refine p_get (pc := 45) C fl_X4_52 dX4_names_45 ⟨by omega, by omega⟩ (by (repeat refine mg_n (by omega) ?_); first | assumption | exact mup_s _ _ _) (by rfl) ?_
          refine p_iload_n (pc := 48) C dX4_names_48 rfl ?_
          refine p_aald (pc := 49) C dX4_names_49 ⟨by omega, by omega⟩ (by (repeat refine mg_n (by omega) ?_); first | assumption | exact mup_s _ _ _) (by decide) (by omega) (by rfl) ?_
          refine p_astore (pc := 50) (ls' := [(6, _), (0, _), (1, _), (2, _), (3, _), (4, _), (5, _)]) C dX4_names_50 (by decide) rfl ?_
          refine p_aload (pc := 52) C dX4_names_52 rfl ?_
          refine p_iload_n (pc := 54) C dX4_names_54 rfl ?_
          refine p_iload_n (pc := 55) C dX4_names_55 rfl ?_
          refine p_iconst (pc := 56) C dX4_names_56 (by decide) ?_
          refine p_callVF (pc := 57) C ln_X4_70 dX4_names_57 (k_X0_faultOfTaking ⟨by omega, by omega⟩ (by (repeat refine mg_n (by omega) ?_); first | assumption | exact mup_s _ _ _) (by omega)) ⟨by omega, by omega⟩ (by (repeat refine mg_n (by omega) ?_); first | assumption | exact mup_s _ _ _) rfl rfl rfl rfl (Nat.le_of_ble_eq_true rfl) ?_
          skip
          refine p_istore (pc := 60) (ls' := [(7, _), (6, _), (0, _), (1, _), (2, _), (3, _), (4, _), (5, _)]) C dX4_names_60 (by decide) rfl ?_
          refine p_iload (pc := 62) C dX4_names_62 rfl ?_
          refine p_if_eq (pc := 64) (tgt := 74) C dX4_names_64 (by decide) (fun c_64 => ?_) (fun c_64 => ?_)
          · refine p_aload_n (pc := 74) C dX4_names_74 rfl ?_
            refine p_get (pc := 75) C fl_X4_17 dX4_names_75 ⟨by omega, by omega⟩ (by (repeat refine mg_n (by omega) ?_); first | assumption | exact mup_s _ _ _) (by rfl) ?_
            refine p_iload (pc := 78) C dX4_names_78 rfl ?_
            refine p_aald (pc := 80) C dX4_names_80 ⟨by omega, by omega⟩ (by (repeat refine mg_n (by omega) ?_); first | assumption | exact mup_s _ _ _) (by decide) (by omega) (by rfl) ?_
            refine p_astore (pc := 81) (ls' := [(8, _), (7, _), (6, _), (0, _), (1, _), (2, _), (3, _), (4, _), (5, _)]) C dX4_names_81 (by decide) rfl ?_
            refine p_aload_n (pc := 83) C dX4_names_83 rfl ?_
            refine p_aload (pc := 84) C dX4_names_84 rfl ?_
            refine p_callVF (pc := 86) C ln_X4_101 dX4_names_86 (k_X1_bearing ⟨by omega, by omega⟩ (by (repeat refine mg_n (by omega) ?_); first | assumption | exact mup_s _ _ _) (by omega)) ⟨by omega, by omega⟩ (by (repeat refine mg_n (by omega) ?_); first | assumption | exact mup_s _ _ _) rfl rfl rfl rfl (Nat.le_of_ble_eq_true rfl) ?_
            refine p_aload (pc := 89) C dX4_names_89 rfl ?_
            refine p_get (pc := 91) C fl_X4_105 dX4_names_91 ⟨by omega, by omega⟩ (by (repeat refine mg_n (by omega) ?_); first | assumption | exact mup_s _ _ _) (by rfl) ?_
            refine p_iload (pc := 94) C dX4_names_94 rfl ?_
            refine p_callVF (pc := 96) C ln_X4_165 dX4_names_96 (k_X4_roughDays (by (repeat refine mg_n (by omega) ?_); first | assumption | exact mup_s _ _ _) (by (repeat refine mg_n (by omega) ?_); first | assumption | exact mup_s _ _ _) (by omega) (by omega) (by omega)) ⟨by omega, by omega⟩ (by (repeat refine mg_n (by omega) ?_); first | assumption | exact mup_s _ _ _) rfl rfl rfl rfl (Nat.le_of_ble_eq_true rfl) ?_
            refine p_istore (pc := 99) (ls' := [(9, _), (8, _), (7, _), (6, _), (0, _), (1, _), (2, _), (3, _), (4, _), (5, _)]) C dX4_names_99 (by decide) rfl ?_
            refine p_iconst (pc := 101) C dX4_names_101 (by decide) ?_
            refine p_istore (pc := 102) (ls' := [(10, _), (9, _), (8, _), (7, _), (6, _), (0, _), (1, _), (2, _), (3, _), (4, _), (5, _)]) C dX4_names_102 (by decide) rfl ?_
            refine p_iconst (pc := 104) C dX4_names_104 (by decide) ?_
            refine p_istore (pc := 105) (ls' := [(11, _), (10, _), (9, _), (8, _), (7, _), (6, _), (0, _), (1, _), (2, _), (3, _), (4, _), (5, _)]) C dX4_names_105 (by decide) rfl ?_
            refine p_ls (by rw [c_64]) ?_
            exact LL (by omega) (by omega) (by omega) (by omega) c_64 _ ⟨G9, (mup_id (mg_n (by omega) b9)).symm⟩
          · refine p_aload_n (pc := 67) C dX4_names_67 rfl ?_
            refine p_iload (pc := 68) C dX4_names_68 rfl ?_
            refine p_callVF (pc := 70) C ln_X4_74 dX4_names_70 (k_X4_faulted (by have := @fot_r (th s) (la s) (ln s) l i 4; omega) (by (repeat refine mg_n (by omega) ?_); first | assumption | exact mup_s _ _ _)) ⟨by omega, by omega⟩ (by (repeat refine mg_n (by omega) ?_); first | assumption | exact mup_s _ _ _) rfl rfl rfl rfl (Nat.le_of_ble_eq_true rfl) ?_
            refine p_mem (mup_mup _ _ _ _) ?_
            refine p_iret (pc := 73) C dX4_names_73 ?_
            first
              | (refine ⟨fun q hq => by (repeat (refine mg_n (by omega) ?_)); rfl, ?_⟩; rw [if_pos (by omega)]; exact ⟨rfl, CV_0 hV⟩)
              | (refine ⟨fun q hq => by (repeat (refine mg_n (by omega) ?_)); rfl, ?_⟩; rw [if_neg (by omega), if_pos (by omega)]; exact ⟨rfl, CV_0 hV⟩)
              | (refine ⟨fun q hq => by (repeat (refine mg_n (by omega) ?_)); rfl, ?_⟩; rw [if_neg (by omega), if_neg (by omega), if_pos (by omega)]; exact ⟨rfl, CV_0 hV⟩)
        · refine p_bipush (pc := 41) C dX4_names_41 (by decide) ?_
          refine p_iret (pc := 43) C dX4_names_43 ?_
          first
            | (refine ⟨fun q hq => by (repeat (refine mg_n (by omega) ?_)); rfl, ?_⟩; rw [if_pos (by omega)]; exact ⟨rfl, CV_0 hV⟩)
            | (refine ⟨fun q hq => by (repeat (refine mg_n (by omega) ?_)); rfl, ?_⟩; rw [if_neg (by omega), if_pos (by omega)]; exact ⟨rfl, CV_0 hV⟩)
            | (refine ⟨fun q hq => by (repeat (refine mg_n (by omega) ?_)); rfl, ?_⟩; rw [if_neg (by omega), if_neg (by omega), if_pos (by omega)]; exact ⟨rfl, CV_0 hV⟩)
    · refine p_iconst (pc := 21) C dX4_names_21 (by decide) ?_
      refine p_iret (pc := 22) C dX4_names_22 ?_
      first
        | (refine ⟨fun q hq => by (repeat (refine mg_n (by omega) ?_)); rfl, ?_⟩; rw [if_pos (by omega)]; exact ⟨rfl, CV_0 hV⟩)
        | (refine ⟨fun q hq => by (repeat (refine mg_n (by omega) ?_)); rfl, ?_⟩; rw [if_neg (by omega), if_pos (by omega)]; exact ⟨rfl, CV_0 hV⟩)
        | (refine ⟨fun q hq => by (repeat (refine mg_n (by omega) ?_)); rfl, ?_⟩; rw [if_neg (by omega), if_neg (by omega), if_pos (by omega)]; exact ⟨rfl, CV_0 hV⟩)

theorem wst_ne (nm r : Int) (S : SS) (x : Int) : wst nm r S x ≠ none := by
  unfold wst
  match S with
  | none => simp
  | some q => dsimp only; split <;> simp
theorem crN_ne (a b p nm r : Int) (hp : 0 ≤ p ∧ p ≤ 12) : ∀ (t : Nat) (c : Int) (S : SS), 1 ≤ t → c + (t : Int) = (if 9 < p then 9 else p) + 1 → crN a b p nm r c S t ≠ none
  | 0, c, S, h, _ => by omega
  | t + 1, c, S, _, h2 => by
    rw [crN]
    match t, h2 with
    | 0, h2 => rw [crN, if_pos (by push_cast at h2; split at h2 <;> omega)]; exact wst_ne _ _ _ _
    | t + 1, h2 => exact crN_ne a b p nm r hp (t + 1) (c + 1) _ (by omega) (by push_cast at h2 ⊢; omega)
theorem chB_ne (a p nm r : Int) (hp : 0 ≤ p - a ∧ p - a ≤ 12) : ∀ (t : Nat) (b : Int) (S : SS), 1 ≤ t → 0 ≤ b → b + (t : Int) = (if 9 < p - a then 9 else p - a) + 1 → chB a p nm r b S t ≠ none
  | 0, b, S, h, _, _ => by omega
  | t + 1, b, S, _, h1, h2 => by
    rw [chB]
    match t, h2 with
    | 0, h2 => rw [chB]; exact crN_ne _ _ _ _ _ (by push_cast at h2; split at h2 <;> omega) _ _ _ (by push_cast at h2; split at h2 <;> (split <;> omega)) (by push_cast at h2; split at h2 <;> (split <;> omega))
    | t + 1, h2 => exact chB_ne a p nm r hp (t + 1) (b + 1) _ (by omega) (by omega) (by push_cast at h2 ⊢; omega)
theorem chA_ne (p nm r : Int) (hp : 0 ≤ p ∧ p ≤ 12) : ∀ (t : Nat) (a : Int) (S : SS), 1 ≤ t → 0 ≤ a → a + (t : Int) = (if 9 < p then 9 else p) + 1 → chA p nm r a S t ≠ none
  | 0, a, S, h, _, _ => by omega
  | t + 1, a, S, _, h1, h2 => by
    rw [chA]
    match t, h2 with
    | 0, h2 => rw [chA]; exact chB_ne _ _ _ _ (by push_cast at h2; split at h2 <;> omega) _ _ _ (by push_cast at h2; split at h2 <;> (split <;> omega)) (by omega) (by push_cast at h2; split at h2 <;> (split <;> omega))
    | t + 1, h2 => exact chA_ne p nm r hp (t + 1) (a + 1) _ (by omega) (by omega) (by push_cast at h2 ⊢; omega)
theorem CV_SI {np ns day nr tr fl : Int} {rg kd nm sg pt : Int → Int} {ca : Int → Int → Int} {rs rp rl th la ln : Int → Int} {ce : Int → Int → Int} {μ ν : Int → ME} {S : SS} (h : CV np ns day nr tr fl rg kd nm sg pt ca rs rp rl th la ln ce μ) (hS : SI S μ ν) (h7 : ∃ T : Int → Int, ν 7 = mA 4 T) : CV np ns day nr tr fl rg kd nm sg pt ca rs rp rl th la ln ce ν := by
  obtain ⟨⟨a0, a1, a2, a3⟩, ⟨b4, b5, b6, b7, b8, b9⟩, ⟨c0, c1, c2, c3⟩, d, e, f⟩ := h
  obtain ⟨ho, l, m, f6, f8, g5, g6, g8, -⟩ := hS
  refine ⟨⟨?_, ?_, ?_, ?_⟩, ⟨?_, ⟨l, m, g5⟩, ⟨f6, g6⟩, h7, ⟨f8, g8⟩, ?_⟩, ⟨?_, ?_, ?_, ?_⟩, fun k k0 k1 => ?_, fun k k0 k1 => ?_, fun k k0 k1 => ?_⟩
  · rw [ho 0 (by omega)]; exact a0
  · rw [ho 1 (by omega)]; exact a1
  · rw [ho 2 (by omega)]; exact a2
  · rw [ho 3 (by omega)]; exact a3
  · rw [ho 4 (by omega)]; exact b4
  · rw [ho 9 (by omega)]; exact b9
  · rw [ho 10 (by omega)]; exact c0
  · rw [ho 11 (by omega)]; exact c1
  · rw [ho 12 (by omega)]; exact c2
  · rw [ho 13 (by omega)]; exact c3
  · rw [ho (14 + 4 * k) (by omega), ho (15 + 4 * k) (by omega)]; exact d k k0 k1
  · rw [ho (16 + 4 * k) (by omega), ho (17 + 4 * k) (by omega)]; exact e k k0 k1
  · rw [ho (34 + 2 * k) (by omega), ho (35 + 2 * k) (by omega)]; exact f k k0 k1

set_option maxHeartbeats 4000000 in
set_option maxRecDepth 100000 in
theorem q_X4_stow {K : KX} {d : Nat} {μ : Int → ME} {k n p w : Int} {np ns day nr tr fl : Int} {rg kd nm sg pt : Int → Int} {ca : Int → Int → Int} {rs rp rl th la ln : Int → Int} {ce : Int → Int → Int} (hV : CV np ns day nr tr fl rg kd nm sg pt ca rs rp rl th la ln ce μ) (hW : WF np ns day nr tr fl rg kd nm sg pt ca rs rp rl th la ln ce) (hw : rng w) : Ct K (d + 6) yX4_stow cX4_stow 6 (some .int) [vR 0, vI k, vI n, vI p, vI w] μ (fun r μ' => (∀ a, 42 ≤ a → μ' a = μ a) ∧ (if ¬ (0 ≤ k ∧ k < ns) then r = some (vI (-1)) ∧ CV np ns day nr tr fl rg kd nm sg pt ca rs rp rl th la ln ce μ' else if ¬ (((0 ≤ n ∧ n ≤ 30) ∧ (0 ≤ p ∧ p ≤ 12)) ∧ ((0 ≤ w ∧ w ≤ 1) ∨ (10 ≤ w ∧ w < 14))) then r = some (vI (-2)) ∧ CV np ns day nr tr fl rg kd nm sg pt ca rs rp rl th la ln ce μ' else r = some (vI (swT w (chA p (nm k) (rdN rg np (brg (kd k) (sg k)) (pt k) n.toNat) 0 none ((if 9 < p then 9 else p) + 1).toNat))) ∧ CV np ns day nr tr fl rg kd nm sg pt ca rs rp rl th la ln ce μ')) := by
  refine Ct.of (by decide) (Nat.le_of_ble_eq_true rfl) (fun X C => ?_)
  obtain ⟨⟨a0, a1, a2, a3⟩, ⟨b4, b5, b6, b7, b8, b9⟩, ⟨c0, c1, c2, c3⟩, dd, ee, ff⟩ := id hV
  obtain ⟨w0, w1, w2, w3, w4, w5, w6⟩ := id hW
  obtain ⟨l5, m5, b5⟩ := b5
  obtain ⟨g6, b6⟩ := b6
  obtain ⟨g7, b7⟩ := b7
  obtain ⟨g8, b8⟩ := b8
  have hlo := iwr_lo hw
  refine p_aload_n (pc := 0) C dX4_stow_0 rfl ?_
  refine p_iload_n (pc := 1) C dX4_stow_1 rfl ?_
  refine p_callVF (pc := 2) C ln_X4_89 dX4_stow_2 (k_X4_isShip (by (repeat refine mg_n (by omega) ?_); first | assumption | exact mup_s _ _ _)) ⟨by omega, by omega⟩ (by (repeat refine mg_n (by omega) ?_); first | assumption | exact mup_s _ _ _) rfl rfl rfl rfl (Nat.le_of_ble_eq_true rfl) ?_
  refine p_ifne_b (pc := 5) (tgt := 10) C dX4_stow_5 (by decide) (fun c_5 => ?_) (fun c_5 => ?_)
  · refine p_iload_n (pc := 10) C dX4_stow_10 rfl ?_
    refine p_bipush (pc := 11) C dX4_stow_11 (by decide) ?_
    refine p_callSF (pc := 13) C ln_X4_127 dX4_stow_13 (k_X4_isUpTo) rfl rfl (Nat.le_of_ble_eq_true rfl) ?_
    refine p_ifeq_b (pc := 16) (tgt := 28) C dX4_stow_16 (by decide) (fun c_16 => ?_) (fun c_16 => ?_)
    · refine p_bipush (pc := 28) C dX4_stow_28 (by decide) ?_
      refine p_iret (pc := 30) C dX4_stow_30 ?_
      first
        | (refine ⟨fun q hq => by (repeat (refine mg_n (by omega) ?_)); rfl, ?_⟩; rw [if_pos (by omega)]; exact ⟨rfl, hV⟩)
        | (refine ⟨fun q hq => by (repeat (refine mg_n (by omega) ?_)); rfl, ?_⟩; rw [if_neg (by omega), if_pos (by omega)]; exact ⟨rfl, hV⟩)
        | (refine ⟨fun q hq => ho q (by omega), ?_⟩; rw [if_neg (by omega), if_neg (by omega)]; exact ⟨sv (by unfold swT; dsimp only; rw [if_pos (by omega), e1]), hCV⟩)
        | (refine ⟨fun q hq => ho q (by omega), ?_⟩; rw [if_neg (by omega), if_neg (by omega)]; exact ⟨sv (by unfold swT; dsimp only; rw [if_neg (by omega), if_pos (by omega), e2]), hCV⟩)
        | (refine ⟨fun q hq => ho q (by omega), ?_⟩; rw [if_neg (by omega), if_neg (by omega)]; exact ⟨sv (by unfold swT; dsimp only; rw [if_neg (by omega), if_neg (by omega), e3 _ (by omega) (by omega)]), hCV⟩)
    · refine p_iload_n (pc := 19) C dX4_stow_19 rfl ?_
      refine p_bipush (pc := 20) C dX4_stow_20 (by decide) ?_
      refine p_callSF (pc := 22) C ln_X4_127 dX4_stow_22 (k_X4_isUpTo) rfl rfl (Nat.le_of_ble_eq_true rfl) ?_
      refine p_ifne_b (pc := 25) (tgt := 31) C dX4_stow_25 (by decide) (fun c_25 => ?_) (fun c_25 => ?_)
      · refine p_iload (pc := 31) C dX4_stow_31 rfl ?_
        refine p_iconst (pc := 33) C dX4_stow_33 (by decide) ?_
        refine p_callSF (pc := 34) C ln_X4_127 dX4_stow_34 (k_X4_isUpTo) rfl rfl (Nat.le_of_ble_eq_true rfl) ?_
        refine p_ifne_b (pc := 37) (tgt := 54) C dX4_stow_37 (by decide) (fun c_37 => ?_) (fun c_37 => ?_)
        · obtain ⟨s1, s2⟩ := dd k (by omega) (by omega)
          obtain ⟨n1, n2, n3⟩ := w3 k (by omega) (by omega)
          obtain ⟨x1, x2⟩ := w4 k (by omega) (by omega)
          have hrd := rdN_r rg np (brg (kd k) (sg k)) n.toNat (pt k)
          refine p_aload_n (pc := 54) C dX4_stow_54 rfl ?_
          refine p_get (pc := 55) C fl_X4_17 dX4_stow_55 ⟨by omega, by omega⟩ (by (repeat refine mg_n (by omega) ?_); first | assumption | exact mup_s _ _ _) (by rfl) ?_
          refine p_iload_n (pc := 58) C dX4_stow_58 rfl ?_
          refine p_aald (pc := 59) C dX4_stow_59 ⟨by omega, by omega⟩ (by (repeat refine mg_n (by omega) ?_); first | assumption | exact mup_s _ _ _) (by decide) (by omega) (by rfl) ?_
          refine p_astore (pc := 60) (ls' := [(5, _), (0, _), (1, _), (2, _), (3, _), (4, _)]) C dX4_stow_60 (by decide) rfl ?_
          refine p_aload_n (pc := 62) C dX4_stow_62 rfl ?_
          refine p_get (pc := 63) C fl_X4_34 dX4_stow_63 ⟨by omega, by omega⟩ (by (repeat refine mg_n (by omega) ?_); first | assumption | exact mup_s _ _ _) (by rfl) ?_
          refine p_iload_n (pc := 66) C dX4_stow_66 rfl ?_
          refine p_aload (pc := 67) C dX4_stow_67 rfl ?_
          refine p_get (pc := 69) C fl_X4_95 dX4_stow_69 ⟨by omega, by omega⟩ (by (repeat refine mg_n (by omega) ?_); first | assumption | exact mup_s _ _ _) (by rfl) ?_
          refine p_aload_n (pc := 72) C dX4_stow_72 rfl ?_
          refine p_aload (pc := 73) C dX4_stow_73 rfl ?_
          refine p_callVF (pc := 75) C ln_X4_101 dX4_stow_75 (k_X1_bearing ⟨by omega, by omega⟩ s1 (by omega)) ⟨by omega, by omega⟩ (by (repeat refine mg_n (by omega) ?_); first | assumption | exact mup_s _ _ _) rfl rfl rfl rfl (Nat.le_of_ble_eq_true rfl) ?_
          refine p_aload (pc := 78) C dX4_stow_78 rfl ?_
          refine p_get (pc := 80) C fl_X4_105 dX4_stow_80 ⟨by omega, by omega⟩ (by (repeat refine mg_n (by omega) ?_); first | assumption | exact mup_s _ _ _) (by rfl) ?_
          refine p_iload_n (pc := 83) C dX4_stow_83 rfl ?_
          refine p_callVF (pc := 84) C ln_X4_165 dX4_stow_84 (k_X4_roughDays a0 a1 (by omega) (by omega) (by omega)) ⟨by omega, by omega⟩ (by (repeat refine mg_n (by omega) ?_); first | assumption | exact mup_s _ _ _) rfl rfl rfl rfl (Nat.le_of_ble_eq_true rfl) ?_
          refine p_callVV (pc := 87) C ln_X4_168 dX4_stow_87 (k_X2_choose b5 b6 b7 b8 (by omega) n2 (by omega)) ⟨by omega, by omega⟩ (by (repeat refine mg_n (by omega) ?_); first | assumption | exact mup_s _ _ _) rfl rfl rfl rfl (Nat.le_of_ble_eq_true rfl) (fun μ' hpost => ?_)
          obtain ⟨hSI, hT7⟩ := hpost
          have hCV := CV_SI hV hSI hT7
          have hne := chA_ne p (nm k) (rdN rg np (brg (kd k) (sg k)) (pt k) n.toNat) (by omega) ((if 9 < p then 9 else p) + 1).toNat 0 none (by split <;> omega) (by omega) (by split <;> omega)
          obtain ⟨ho, l, m, f6, f8, g5, g6, g8, hrc⟩ := id hSI
          have u0 : μ' 0 = oY np ns day nr tr fl := (ho 0 (by omega)).trans a0
          generalize hS1 : chA p (nm k) (rdN rg np (brg (kd k) (sg k)) (pt k) n.toNat) 0 none ((if 9 < p then 9 else p) + 1).toNat = S1 at hne hrc
          match S1, hne, hrc, hS1 with
          | none, hne, _, _ => exact absurd rfl hne
          | some q, _, hrc, hS1 =>
          obtain ⟨e1, e2, e3⟩ := hrc
          refine p_iload (pc := 90) C dX4_stow_90 rfl ?_
          refine p_if_ne (pc := 92) (tgt := 103) C dX4_stow_92 (by decide) (fun c_92 => ?_) (fun c_92 => ?_)
          · refine p_iload (pc := 103) C dX4_stow_103 rfl ?_
            refine p_iconst (pc := 105) C dX4_stow_105 (by decide) ?_
            refine p_icmp_ne (pc := 106) (tgt := 119) C dX4_stow_106 (by decide) (fun c_106 => ?_) (fun c_106 => ?_)
            · refine p_aload_n (pc := 119) C dX4_stow_119 rfl ?_
              refine p_get (pc := 120) C fl_X4_34 dX4_stow_120 ⟨by omega, by omega⟩ (by (repeat refine mg_n (by omega) ?_); first | assumption | exact mup_s _ _ _) (by rfl) ?_
              refine p_get (pc := 123) C fl_X4_178 dX4_stow_123 ⟨by omega, by omega⟩ (by (repeat refine mg_n (by omega) ?_); first | assumption | exact mup_s _ _ _) (by rfl) ?_
              refine p_iload (pc := 126) C dX4_stow_126 rfl ?_
              refine p_bipush (pc := 128) C dX4_stow_128 (by decide) ?_
              refine p_isub (pc := 130) C dX4_stow_130 ⟨by omega, by omega⟩ ?_
              refine p_iald (pc := 131) C dX4_stow_131 ⟨by omega, by omega⟩ (by (repeat refine mg_n (by omega) ?_); first | assumption | exact mup_s _ _ _) (by omega) ?_
              refine p_iret (pc := 132) C dX4_stow_132 ?_
              first
                | (refine ⟨fun q hq => by (repeat (refine mg_n (by omega) ?_)); rfl, ?_⟩; rw [if_pos (by omega)]; exact ⟨rfl, hV⟩)
                | (refine ⟨fun q hq => by (repeat (refine mg_n (by omega) ?_)); rfl, ?_⟩; rw [if_neg (by omega), if_pos (by omega)]; exact ⟨rfl, hV⟩)
                | (refine ⟨fun q hq => ho q (by omega), ?_⟩; rw [if_neg (by omega), if_neg (by omega)]; exact ⟨sv (by unfold swT; dsimp only; rw [if_pos (by omega), e1]), hCV⟩)
                | (refine ⟨fun q hq => ho q (by omega), ?_⟩; rw [if_neg (by omega), if_neg (by omega)]; exact ⟨sv (by unfold swT; dsimp only; rw [if_neg (by omega), if_pos (by omega), e2]), hCV⟩)
                | (refine ⟨fun q hq => ho q (by omega), ?_⟩; rw [if_neg (by omega), if_neg (by omega)]; exact ⟨sv (by unfold swT; dsimp only; rw [if_neg (by omega), if_neg (by omega), e3 _ (by omega) (by omega)]), hCV⟩)
            · refine p_aload_n (pc := 109) C dX4_stow_109 rfl ?_
              refine p_get (pc := 110) C fl_X4_34 dX4_stow_110 ⟨by omega, by omega⟩ (by (repeat refine mg_n (by omega) ?_); first | assumption | exact mup_s _ _ _) (by rfl) ?_
              refine p_get (pc := 113) C fl_X4_175 dX4_stow_113 ⟨by omega, by omega⟩ (by (repeat refine mg_n (by omega) ?_); first | assumption | exact mup_s _ _ _) (by rfl) ?_
              refine p_goto (pc := 116) (tgt := 132) C dX4_stow_116 (by decide) ?_
              refine p_iret (pc := 132) C dX4_stow_132 ?_
              first
                | (refine ⟨fun q hq => by (repeat (refine mg_n (by omega) ?_)); rfl, ?_⟩; rw [if_pos (by omega)]; exact ⟨rfl, hV⟩)
                | (refine ⟨fun q hq => by (repeat (refine mg_n (by omega) ?_)); rfl, ?_⟩; rw [if_neg (by omega), if_pos (by omega)]; exact ⟨rfl, hV⟩)
                | (refine ⟨fun q hq => ho q (by omega), ?_⟩; rw [if_neg (by omega), if_neg (by omega)]; exact ⟨sv (by unfold swT; dsimp only; rw [if_pos (by omega), e1]), hCV⟩)
                | (refine ⟨fun q hq => ho q (by omega), ?_⟩; rw [if_neg (by omega), if_neg (by omega)]; exact ⟨sv (by unfold swT; dsimp only; rw [if_neg (by omega), if_pos (by omega), e2]), hCV⟩)
                | (refine ⟨fun q hq => ho q (by omega), ?_⟩; rw [if_neg (by omega), if_neg (by omega)]; exact ⟨sv (by unfold swT; dsimp only; rw [if_neg (by omega), if_neg (by omega), e3 _ (by omega) (by omega)]), hCV⟩)
          · refine p_aload_n (pc := 95) C dX4_stow_95 rfl ?_
            refine p_get (pc := 96) C fl_X4_34 dX4_stow_96 ⟨by omega, by omega⟩ (by (repeat refine mg_n (by omega) ?_); first | assumption | exact mup_s _ _ _) (by rfl) ?_
            refine p_get (pc := 99) C fl_X4_172 dX4_stow_99 ⟨by omega, by omega⟩ (by (repeat refine mg_n (by omega) ?_); first | assumption | exact mup_s _ _ _) (by rfl) ?_
            refine p_iret (pc := 102) C dX4_stow_102 ?_
            first
              | (refine ⟨fun q hq => by (repeat (refine mg_n (by omega) ?_)); rfl, ?_⟩; rw [if_pos (by omega)]; exact ⟨rfl, hV⟩)
              | (refine ⟨fun q hq => by (repeat (refine mg_n (by omega) ?_)); rfl, ?_⟩; rw [if_neg (by omega), if_pos (by omega)]; exact ⟨rfl, hV⟩)
              | (refine ⟨fun q hq => ho q (by omega), ?_⟩; rw [if_neg (by omega), if_neg (by omega)]; exact ⟨sv (by unfold swT; dsimp only; rw [if_pos (by omega), e1]), hCV⟩)
              | (refine ⟨fun q hq => ho q (by omega), ?_⟩; rw [if_neg (by omega), if_neg (by omega)]; exact ⟨sv (by unfold swT; dsimp only; rw [if_neg (by omega), if_pos (by omega), e2]), hCV⟩)
              | (refine ⟨fun q hq => ho q (by omega), ?_⟩; rw [if_neg (by omega), if_neg (by omega)]; exact ⟨sv (by unfold swT; dsimp only; rw [if_neg (by omega), if_neg (by omega), e3 _ (by omega) (by omega)]), hCV⟩)
        · refine p_iload (pc := 40) C dX4_stow_40 rfl ?_
          refine p_bipush (pc := 42) C dX4_stow_42 (by decide) ?_
          refine p_isubw (pc := 44) C dX4_stow_44 ?_
          refine p_callSF (pc := 45) C ln_X4_118 dX4_stow_45 (k_X4_isGood) rfl rfl (Nat.le_of_ble_eq_true rfl) ?_
          refine p_ifne_b (pc := 48) (tgt := 54) C dX4_stow_48 (by decide) (fun c_48 => ?_) (fun c_48 => ?_)
          · obtain ⟨s1, s2⟩ := dd k (by omega) (by omega)
            obtain ⟨n1, n2, n3⟩ := w3 k (by omega) (by omega)
            obtain ⟨x1, x2⟩ := w4 k (by omega) (by omega)
            have hrd := rdN_r rg np (brg (kd k) (sg k)) n.toNat (pt k)
            refine p_aload_n (pc := 54) C dX4_stow_54 rfl ?_
            refine p_get (pc := 55) C fl_X4_17 dX4_stow_55 ⟨by omega, by omega⟩ (by (repeat refine mg_n (by omega) ?_); first | assumption | exact mup_s _ _ _) (by rfl) ?_
            refine p_iload_n (pc := 58) C dX4_stow_58 rfl ?_
            refine p_aald (pc := 59) C dX4_stow_59 ⟨by omega, by omega⟩ (by (repeat refine mg_n (by omega) ?_); first | assumption | exact mup_s _ _ _) (by decide) (by omega) (by rfl) ?_
            refine p_astore (pc := 60) (ls' := [(5, _), (0, _), (1, _), (2, _), (3, _), (4, _)]) C dX4_stow_60 (by decide) rfl ?_
            refine p_aload_n (pc := 62) C dX4_stow_62 rfl ?_
            refine p_get (pc := 63) C fl_X4_34 dX4_stow_63 ⟨by omega, by omega⟩ (by (repeat refine mg_n (by omega) ?_); first | assumption | exact mup_s _ _ _) (by rfl) ?_
            refine p_iload_n (pc := 66) C dX4_stow_66 rfl ?_
            refine p_aload (pc := 67) C dX4_stow_67 rfl ?_
            refine p_get (pc := 69) C fl_X4_95 dX4_stow_69 ⟨by omega, by omega⟩ (by (repeat refine mg_n (by omega) ?_); first | assumption | exact mup_s _ _ _) (by rfl) ?_
            refine p_aload_n (pc := 72) C dX4_stow_72 rfl ?_
            refine p_aload (pc := 73) C dX4_stow_73 rfl ?_
            refine p_callVF (pc := 75) C ln_X4_101 dX4_stow_75 (k_X1_bearing ⟨by omega, by omega⟩ s1 (by omega)) ⟨by omega, by omega⟩ (by (repeat refine mg_n (by omega) ?_); first | assumption | exact mup_s _ _ _) rfl rfl rfl rfl (Nat.le_of_ble_eq_true rfl) ?_
            refine p_aload (pc := 78) C dX4_stow_78 rfl ?_
            refine p_get (pc := 80) C fl_X4_105 dX4_stow_80 ⟨by omega, by omega⟩ (by (repeat refine mg_n (by omega) ?_); first | assumption | exact mup_s _ _ _) (by rfl) ?_
            refine p_iload_n (pc := 83) C dX4_stow_83 rfl ?_
            refine p_callVF (pc := 84) C ln_X4_165 dX4_stow_84 (k_X4_roughDays a0 a1 (by omega) (by omega) (by omega)) ⟨by omega, by omega⟩ (by (repeat refine mg_n (by omega) ?_); first | assumption | exact mup_s _ _ _) rfl rfl rfl rfl (Nat.le_of_ble_eq_true rfl) ?_
            refine p_callVV (pc := 87) C ln_X4_168 dX4_stow_87 (k_X2_choose b5 b6 b7 b8 (by omega) n2 (by omega)) ⟨by omega, by omega⟩ (by (repeat refine mg_n (by omega) ?_); first | assumption | exact mup_s _ _ _) rfl rfl rfl rfl (Nat.le_of_ble_eq_true rfl) (fun μ' hpost => ?_)
            obtain ⟨hSI, hT7⟩ := hpost
            have hCV := CV_SI hV hSI hT7
            have hne := chA_ne p (nm k) (rdN rg np (brg (kd k) (sg k)) (pt k) n.toNat) (by omega) ((if 9 < p then 9 else p) + 1).toNat 0 none (by split <;> omega) (by omega) (by split <;> omega)
            obtain ⟨ho, l, m, f6, f8, g5, g6, g8, hrc⟩ := id hSI
            have u0 : μ' 0 = oY np ns day nr tr fl := (ho 0 (by omega)).trans a0
            generalize hS1 : chA p (nm k) (rdN rg np (brg (kd k) (sg k)) (pt k) n.toNat) 0 none ((if 9 < p then 9 else p) + 1).toNat = S1 at hne hrc
            match S1, hne, hrc, hS1 with
            | none, hne, _, _ => exact absurd rfl hne
            | some q, _, hrc, hS1 =>
            obtain ⟨e1, e2, e3⟩ := hrc
            refine p_iload (pc := 90) C dX4_stow_90 rfl ?_
            refine p_if_ne (pc := 92) (tgt := 103) C dX4_stow_92 (by decide) (fun c_92 => ?_) (fun c_92 => ?_)
            · refine p_iload (pc := 103) C dX4_stow_103 rfl ?_
              refine p_iconst (pc := 105) C dX4_stow_105 (by decide) ?_
              refine p_icmp_ne (pc := 106) (tgt := 119) C dX4_stow_106 (by decide) (fun c_106 => ?_) (fun c_106 => ?_)
              · refine p_aload_n (pc := 119) C dX4_stow_119 rfl ?_
                refine p_get (pc := 120) C fl_X4_34 dX4_stow_120 ⟨by omega, by omega⟩ (by (repeat refine mg_n (by omega) ?_); first | assumption | exact mup_s _ _ _) (by rfl) ?_
                refine p_get (pc := 123) C fl_X4_178 dX4_stow_123 ⟨by omega, by omega⟩ (by (repeat refine mg_n (by omega) ?_); first | assumption | exact mup_s _ _ _) (by rfl) ?_
                refine p_iload (pc := 126) C dX4_stow_126 rfl ?_
                refine p_bipush (pc := 128) C dX4_stow_128 (by decide) ?_
                refine p_isub (pc := 130) C dX4_stow_130 ⟨by omega, by omega⟩ ?_
                refine p_iald (pc := 131) C dX4_stow_131 ⟨by omega, by omega⟩ (by (repeat refine mg_n (by omega) ?_); first | assumption | exact mup_s _ _ _) (by omega) ?_
                refine p_iret (pc := 132) C dX4_stow_132 ?_
                first
                  | (refine ⟨fun q hq => by (repeat (refine mg_n (by omega) ?_)); rfl, ?_⟩; rw [if_pos (by omega)]; exact ⟨rfl, hV⟩)
                  | (refine ⟨fun q hq => by (repeat (refine mg_n (by omega) ?_)); rfl, ?_⟩; rw [if_neg (by omega), if_pos (by omega)]; exact ⟨rfl, hV⟩)
                  | (refine ⟨fun q hq => ho q (by omega), ?_⟩; rw [if_neg (by omega), if_neg (by omega)]; exact ⟨sv (by unfold swT; dsimp only; rw [if_pos (by omega), e1]), hCV⟩)
                  | (refine ⟨fun q hq => ho q (by omega), ?_⟩; rw [if_neg (by omega), if_neg (by omega)]; exact ⟨sv (by unfold swT; dsimp only; rw [if_neg (by omega), if_pos (by omega), e2]), hCV⟩)
                  | (refine ⟨fun q hq => ho q (by omega), ?_⟩; rw [if_neg (by omega), if_neg (by omega)]; exact ⟨sv (by unfold swT; dsimp only; rw [if_neg (by omega), if_neg (by omega), e3 _ (by omega) (by omega)]), hCV⟩)
              · refine p_aload_n (pc := 109) C dX4_stow_109 rfl ?_
                refine p_get (pc := 110) C fl_X4_34 dX4_stow_110 ⟨by omega, by omega⟩ (by (repeat refine mg_n (by omega) ?_); first | assumption | exact mup_s _ _ _) (by rfl) ?_
                refine p_get (pc := 113) C fl_X4_175 dX4_stow_113 ⟨by omega, by omega⟩ (by (repeat refine mg_n (by omega) ?_); first | assumption | exact mup_s _ _ _) (by rfl) ?_
                refine p_goto (pc := 116) (tgt := 132) C dX4_stow_116 (by decide) ?_
                refine p_iret (pc := 132) C dX4_stow_132 ?_
                first
                  | (refine ⟨fun q hq => by (repeat (refine mg_n (by omega) ?_)); rfl, ?_⟩; rw [if_pos (by omega)]; exact ⟨rfl, hV⟩)
                  | (refine ⟨fun q hq => by (repeat (refine mg_n (by omega) ?_)); rfl, ?_⟩; rw [if_neg (by omega), if_pos (by omega)]; exact ⟨rfl, hV⟩)
                  | (refine ⟨fun q hq => ho q (by omega), ?_⟩; rw [if_neg (by omega), if_neg (by omega)]; exact ⟨sv (by unfold swT; dsimp only; rw [if_pos (by omega), e1]), hCV⟩)
                  | (refine ⟨fun q hq => ho q (by omega), ?_⟩; rw [if_neg (by omega), if_neg (by omega)]; exact ⟨sv (by unfold swT; dsimp only; rw [if_neg (by omega), if_pos (by omega), e2]), hCV⟩)
                  | (refine ⟨fun q hq => ho q (by omega), ?_⟩; rw [if_neg (by omega), if_neg (by omega)]; exact ⟨sv (by unfold swT; dsimp only; rw [if_neg (by omega), if_neg (by omega), e3 _ (by omega) (by omega)]), hCV⟩)
            · refine p_aload_n (pc := 95) C dX4_stow_95 rfl ?_
              refine p_get (pc := 96) C fl_X4_34 dX4_stow_96 ⟨by omega, by omega⟩ (by (repeat refine mg_n (by omega) ?_); first | assumption | exact mup_s _ _ _) (by rfl) ?_
              refine p_get (pc := 99) C fl_X4_172 dX4_stow_99 ⟨by omega, by omega⟩ (by (repeat refine mg_n (by omega) ?_); first | assumption | exact mup_s _ _ _) (by rfl) ?_
              refine p_iret (pc := 102) C dX4_stow_102 ?_
              first
                | (refine ⟨fun q hq => by (repeat (refine mg_n (by omega) ?_)); rfl, ?_⟩; rw [if_pos (by omega)]; exact ⟨rfl, hV⟩)
                | (refine ⟨fun q hq => by (repeat (refine mg_n (by omega) ?_)); rfl, ?_⟩; rw [if_neg (by omega), if_pos (by omega)]; exact ⟨rfl, hV⟩)
                | (refine ⟨fun q hq => ho q (by omega), ?_⟩; rw [if_neg (by omega), if_neg (by omega)]; exact ⟨sv (by unfold swT; dsimp only; rw [if_pos (by omega), e1]), hCV⟩)
                | (refine ⟨fun q hq => ho q (by omega), ?_⟩; rw [if_neg (by omega), if_neg (by omega)]; exact ⟨sv (by unfold swT; dsimp only; rw [if_neg (by omega), if_pos (by omega), e2]), hCV⟩)
                | (refine ⟨fun q hq => ho q (by omega), ?_⟩; rw [if_neg (by omega), if_neg (by omega)]; exact ⟨sv (by unfold swT; dsimp only; rw [if_neg (by omega), if_neg (by omega), e3 _ (by omega) (by omega)]), hCV⟩)
          · refine p_bipush (pc := 51) C dX4_stow_51 (by decide) ?_
            refine p_iret (pc := 53) C dX4_stow_53 ?_
            first
              | (refine ⟨fun q hq => by (repeat (refine mg_n (by omega) ?_)); rfl, ?_⟩; rw [if_pos (by omega)]; exact ⟨rfl, hV⟩)
              | (refine ⟨fun q hq => by (repeat (refine mg_n (by omega) ?_)); rfl, ?_⟩; rw [if_neg (by omega), if_pos (by omega)]; exact ⟨rfl, hV⟩)
              | (refine ⟨fun q hq => ho q (by omega), ?_⟩; rw [if_neg (by omega), if_neg (by omega)]; exact ⟨sv (by unfold swT; dsimp only; rw [if_pos (by omega), e1]), hCV⟩)
              | (refine ⟨fun q hq => ho q (by omega), ?_⟩; rw [if_neg (by omega), if_neg (by omega)]; exact ⟨sv (by unfold swT; dsimp only; rw [if_neg (by omega), if_pos (by omega), e2]), hCV⟩)
              | (refine ⟨fun q hq => ho q (by omega), ?_⟩; rw [if_neg (by omega), if_neg (by omega)]; exact ⟨sv (by unfold swT; dsimp only; rw [if_neg (by omega), if_neg (by omega), e3 _ (by omega) (by omega)]), hCV⟩)
      · refine p_bipush (pc := 28) C dX4_stow_28 (by decide) ?_
        refine p_iret (pc := 30) C dX4_stow_30 ?_
        first
          | (refine ⟨fun q hq => by (repeat (refine mg_n (by omega) ?_)); rfl, ?_⟩; rw [if_pos (by omega)]; exact ⟨rfl, hV⟩)
          | (refine ⟨fun q hq => by (repeat (refine mg_n (by omega) ?_)); rfl, ?_⟩; rw [if_neg (by omega), if_pos (by omega)]; exact ⟨rfl, hV⟩)
          | (refine ⟨fun q hq => ho q (by omega), ?_⟩; rw [if_neg (by omega), if_neg (by omega)]; exact ⟨sv (by unfold swT; dsimp only; rw [if_pos (by omega), e1]), hCV⟩)
          | (refine ⟨fun q hq => ho q (by omega), ?_⟩; rw [if_neg (by omega), if_neg (by omega)]; exact ⟨sv (by unfold swT; dsimp only; rw [if_neg (by omega), if_pos (by omega), e2]), hCV⟩)
          | (refine ⟨fun q hq => ho q (by omega), ?_⟩; rw [if_neg (by omega), if_neg (by omega)]; exact ⟨sv (by unfold swT; dsimp only; rw [if_neg (by omega), if_neg (by omega), e3 _ (by omega) (by omega)]), hCV⟩)
  · refine p_iconst (pc := 8) C dX4_stow_8 (by decide) ?_
    refine p_iret (pc := 9) C dX4_stow_9 ?_
    first
      | (refine ⟨fun q hq => by (repeat (refine mg_n (by omega) ?_)); rfl, ?_⟩; rw [if_pos (by omega)]; exact ⟨rfl, hV⟩)
      | (refine ⟨fun q hq => by (repeat (refine mg_n (by omega) ?_)); rfl, ?_⟩; rw [if_neg (by omega), if_pos (by omega)]; exact ⟨rfl, hV⟩)
      | (refine ⟨fun q hq => ho q (by omega), ?_⟩; rw [if_neg (by omega), if_neg (by omega)]; exact ⟨sv (by unfold swT; dsimp only; rw [if_pos (by omega), e1]), hCV⟩)
      | (refine ⟨fun q hq => ho q (by omega), ?_⟩; rw [if_neg (by omega), if_neg (by omega)]; exact ⟨sv (by unfold swT; dsimp only; rw [if_neg (by omega), if_pos (by omega), e2]), hCV⟩)
      | (refine ⟨fun q hq => ho q (by omega), ?_⟩; rw [if_neg (by omega), if_neg (by omega)]; exact ⟨sv (by unfold swT; dsimp only; rw [if_neg (by omega), if_neg (by omega), e3 _ (by omega) (by omega)]), hCV⟩)
