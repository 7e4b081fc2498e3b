/-- a text that is taken: so many ports, so many ships -/
def okT (F : Int → Int) (fr n q m : Int) : Prop := (2 ≤ q ∧ q ≤ 6) ∧ (1 ≤ m ∧ m ≤ 5) ∧ n = 1 + q + 9 * m ∧ F fr = 121 ∧ (∀ p, 0 ≤ p → p < q → 48 ≤ F (fr + 1 + p) ∧ F (fr + 1 + p) < 58) ∧ (∀ k j, 0 ≤ k → k < m → 0 ≤ j → j < 9 → scP j (F (fr + (1 + q + 9 * k) + j)) q)
theorem cpN_d (F : Int → Int) (fr n : Int) : ∀ (t : Nat) (p : Int), ∀ j, p ≤ j → j < cpN F fr n p t → 48 ≤ F (fr + 1 + j) ∧ F (fr + 1 + j) < 58
  | 0, p, j, h1, h2 => by simp only [cpN] at h2; omega
  | t + 1, p, j, h1, h2 => by
    simp only [cpN] at h2
    split at h2
    · rename_i h
      by_cases e : j = p
      · subst e; exact h.2
      · exact cpN_d F fr n t (p + 1) j (by omega) h2
    · omega
theorem csN_d (F : Int → Int) (at_ n ports : Int) : ∀ (t : Nat) (p : Int), ∀ j, p ≤ j → j < csN F at_ n ports p t → scP j (F (at_ + j)) ports
  | 0, p, j, h1, h2 => by simp only [csN] at h2; omega
  | t + 1, p, j, h1, h2 => by
    simp only [csN] at h2
    split at h2
    · rename_i h
      by_cases e : j = p
      · subst e; exact h.2
      · exact csN_d F at_ n ports t (p + 1) j (by omega) h2
    · omega
theorem ffN_ok (F : Int → Int) (fr n q : Int) : ∀ (t : Nat) (place ship : Int), 0 ≤ ship → ship + (t : Int) = 5 → place = 1 + q + 9 * ship → 0 ≤ q → (∀ k j, 0 ≤ k → k < ship → 0 ≤ j → j < 9 → scP j (F (fr + (1 + q + 9 * k) + j)) q) → ffN F fr n q place ship t = -9 →
    ∃ m : Int, (1 ≤ m ∧ m ≤ 5) ∧ n = 1 + q + 9 * m ∧ (∀ k j, 0 ≤ k → k < m → 0 ≤ j → j < 9 → scP j (F (fr + (1 + q + 9 * k) + j)) q)
  | 0, place, ship, h1, h2, h3, h4, h5, h6 => by
    simp only [ffN] at h6
    split at h6
    · exact ⟨ship, by omega, by omega, h5⟩
    · omega
  | t + 1, place, ship, h1, h2, h3, h4, h5, h6 => by
    have hs := csN_r F (fr + place) (n - place) q 9 0
    have hd := csN_d F (fr + place) (n - place) q 9 0
    simp only [ffN] at h6
    split at h6
    · exact ⟨ship, by omega, by omega, h5⟩
    · split at h6
      · omega
      · have e9 : csN F (fr + place) (n - place) q 0 9 = 9 := by omega
        rw [e9] at h6 hd
        refine ffN_ok F fr n q t _ (ship + 1) (by omega) (by omega) (by omega) h4 ?_ h6
        intro k j k0 k1 j0 j1
        by_cases e : k = ship
        · subst e; rw [← h3]; exact hd j j0 j1
        · exact h5 k j k0 (by omega) j0 j1
theorem ffT_ok {F : Int → Int} {fr n : Int} (h : ffT F fr n = -9) : ∃ m : Int, okT F fr n (cpN F fr n 0 6) m := by
  have hr := cpN_r F fr n 6 0
  have hd := cpN_d F fr n 6 0
  unfold ffT at h
  split at h
  · omega
  · split at h
    · omega
    · obtain ⟨m, h1, h2, h3⟩ := ffN_ok F fr n (cpN F fr n 0 6) 5 _ 0 (by omega) (by omega) (by omega) (by omega) (fun k j k0 k1 => by omega) h
      exact ⟨m, by omega, h1, h2, by omega, hd, h3⟩

def kbc (v : Int) : Int := if v = 98 then 0 else if v = 99 then 1 else if v = 115 then 2 else -9
set_option maxHeartbeats 4000000 in
set_option maxRecDepth 100000 in
theorem k_X4_takeShip {K : KX} {d : Nat} {μ : Int → ME} {x q : Int} {a c th ln le : Int} {f : Int → Int} (ha : IR a) (hr1 : μ a = oR th ln le c) (hc : IR c) (hr2 : μ c = mA 60 f) (hl : 0 ≤ le ∧ le ≤ 60) {b e kd nm sg pt : Int} (hb : IR b) (h1 : μ b = oS kd nm sg pt e) {g : Int → Int} (he : IR e) (h2 : μ e = mA 4 g) (hbe : b ≠ e) (hab : a ≠ b) (hae : a ≠ e) (hcb : c ≠ b) (hce : c ≠ e) (hx : 0 ≤ x ∧ x ≤ 1000) (hq0 : 0 ≤ q ∧ q ≤ 10) (hok : ∀ j, 0 ≤ j → j < 9 → scP j (cAt le f (x + j)) q) : Ct K (d + 3) yX4_takeShip cX4_takeShip 4 none [vR b, vR a, vI x] μ (pU (mup (mup μ b (oS (kbc (cAt le f (x + 1))) (cAt le f (x + 2) - 48) (cAt le f (x + 3) - 48) (cAt le f (x + 4) - 48) e)) e (mA 4 (fup (fup (fup (fup g 0 (cAt le f (x + 5 + 0) - 48)) 1 (cAt le f (x + 5 + 1) - 48)) 2 (cAt le f (x + 5 + 2) - 48)) 3 (cAt le f (x + 5 + 3) - 48))))) := by
  refine Ct.of (by decide) (Nat.le_of_ble_eq_true rfl) (fun X C => ?_)
  have q2 : 0 ≤ cAt le f (x + 2) ∧ cAt le f (x + 2) ≤ 1000 := by have := hok 2 (by omega) (by omega); omega
  have q3 : 0 ≤ cAt le f (x + 3) ∧ cAt le f (x + 3) ≤ 1000 := by have := hok 3 (by omega) (by omega); omega
  have q4 : 0 ≤ cAt le f (x + 4) ∧ cAt le f (x + 4) ≤ 1000 := by have := hok 4 (by omega) (by omega); omega
  have q5 : 0 ≤ cAt le f (x + 5 + 0) ∧ cAt le f (x + 5 + 0) ≤ 1000 := by have := hok 5 (by omega) (by omega); rw [show x + 5 + 0 = x + 5 by omega]; omega
  have q6 : 0 ≤ cAt le f (x + 5 + 1) ∧ cAt le f (x + 5 + 1) ≤ 1000 := by have := hok 6 (by omega) (by omega); rw [show x + 5 + 1 = x + 6 by omega]; omega
  have q7 : 0 ≤ cAt le f (x + 5 + 2) ∧ cAt le f (x + 5 + 2) ≤ 1000 := by have := hok 7 (by omega) (by omega); rw [show x + 5 + 2 = x + 7 by omega]; omega
  have q8 : 0 ≤ cAt le f (x + 5 + 3) ∧ cAt le f (x + 5 + 3) ≤ 1000 := by have := hok 8 (by omega) (by omega); rw [show x + 5 + 3 = x + 8 by omega]; omega
  refine p_aload_n (pc := 0) C dX4_takeShip_0 rfl ?_
  refine p_aload_n (pc := 1) C dX4_takeShip_1 rfl ?_
  refine p_iload_n (pc := 2) C dX4_takeShip_2 rfl ?_
  refine p_iconst (pc := 3) C dX4_takeShip_3 (by decide) ?_
  refine p_iadd (pc := 4) C dX4_takeShip_4 ⟨by omega, by omega⟩ ?_
  refine p_callVF (pc := 5) C ln_X4_267 dX4_takeShip_5 (k_X0_codeAt ha (by (repeat refine mg_n (by omega) ?_); first | assumption | exact mup_s _ _ _) hc (by (repeat refine mg_n (by omega) ?_); first | assumption | exact mup_s _ _ _) hl) (by first | exact ha | exact hc | exact hb | exact he) (by (repeat refine mg_n (by omega) ?_); first | assumption | exact mup_s _ _ _) rfl rfl rfl rfl (Nat.le_of_ble_eq_true rfl) ?_
  refine p_callSF (pc := 8) C ln_X4_284 dX4_takeShip_8 (k_X4_kindByCode) rfl rfl (Nat.le_of_ble_eq_true rfl) ?_
  refine p_putL (pc := 11) (fs' := [_, _, _, _, _]) C fp_X4_92 dX4_takeShip_11 (by first | exact ha | exact hc | exact hb | exact he) (by (repeat refine mg_n (by omega) ?_); first | assumption | exact mup_s _ _ _) (by exact Nat.le_of_ble_eq_true rfl) (by rfl) ?_
  try refine p_mem (mup_mup _ _ _ _) ?_
  refine p_aload_n (pc := 14) C dX4_takeShip_14 rfl ?_
  refine p_aload_n (pc := 15) C dX4_takeShip_15 rfl ?_
  refine p_iload_n (pc := 16) C dX4_takeShip_16 rfl ?_
  refine p_iconst (pc := 17) C dX4_takeShip_17 (by decide) ?_
  refine p_iadd (pc := 18) C dX4_takeShip_18 ⟨by omega, by omega⟩ ?_
  refine p_callVF (pc := 19) C ln_X4_287 dX4_takeShip_19 (k_X0_digitAt ha (by (repeat refine mg_n (by omega) ?_); first | assumption | exact mup_s _ _ _) hc (by (repeat refine mg_n (by omega) ?_); first | assumption | exact mup_s _ _ _) hl (by first | exact q2 | exact q3 | exact q4 | exact q5 | exact q6 | exact q7 | exact q8)) (by first | exact ha | exact hc | exact hb | exact he) (by (repeat refine mg_n (by omega) ?_); first | assumption | exact mup_s _ _ _) rfl rfl rfl rfl (Nat.le_of_ble_eq_true rfl) ?_
  refine p_putL (pc := 22) (fs' := [_, _, _, _, _]) C fp_X4_95 dX4_takeShip_22 (by first | exact ha | exact hc | exact hb | exact he) (by (repeat refine mg_n (by omega) ?_); first | assumption | exact mup_s _ _ _) (by exact Nat.le_of_ble_eq_true rfl) (by rfl) ?_
  try refine p_mem (mup_mup _ _ _ _) ?_
  refine p_aload_n (pc := 25) C dX4_takeShip_25 rfl ?_
  refine p_aload_n (pc := 26) C dX4_takeShip_26 rfl ?_
  refine p_iload_n (pc := 27) C dX4_takeShip_27 rfl ?_
  refine p_iconst (pc := 28) C dX4_takeShip_28 (by decide) ?_
  refine p_iadd (pc := 29) C dX4_takeShip_29 ⟨by omega, by omega⟩ ?_
  refine p_callVF (pc := 30) C ln_X4_287 dX4_takeShip_30 (k_X0_digitAt ha (by (repeat refine mg_n (by omega) ?_); first | assumption | exact mup_s _ _ _) hc (by (repeat refine mg_n (by omega) ?_); first | assumption | exact mup_s _ _ _) hl (by first | exact q2 | exact q3 | exact q4 | exact q5 | exact q6 | exact q7 | exact q8)) (by first | exact ha | exact hc | exact hb | exact he) (by (repeat refine mg_n (by omega) ?_); first | assumption | exact mup_s _ _ _) rfl rfl rfl rfl (Nat.le_of_ble_eq_true rfl) ?_
  refine p_putL (pc := 33) (fs' := [_, _, _, _, _]) C fp_X4_98 dX4_takeShip_33 (by first | exact ha | exact hc | exact hb | exact he) (by (repeat refine mg_n (by omega) ?_); first | assumption | exact mup_s _ _ _) (by exact Nat.le_of_ble_eq_true rfl) (by rfl) ?_
  try refine p_mem (mup_mup _ _ _ _) ?_
  refine p_aload_n (pc := 36) C dX4_takeShip_36 rfl ?_
  refine p_aload_n (pc := 37) C dX4_takeShip_37 rfl ?_
  refine p_iload_n (pc := 38) C dX4_takeShip_38 rfl ?_
  refine p_iconst (pc := 39) C dX4_takeShip_39 (by decide) ?_
  refine p_iadd (pc := 40) C dX4_takeShip_40 ⟨by omega, by omega⟩ ?_
  refine p_callVF (pc := 41) C ln_X4_287 dX4_takeShip_41 (k_X0_digitAt ha (by (repeat refine mg_n (by omega) ?_); first | assumption | exact mup_s _ _ _) hc (by (repeat refine mg_n (by omega) ?_); first | assumption | exact mup_s _ _ _) hl (by first | exact q2 | exact q3 | exact q4 | exact q5 | exact q6 | exact q7 | exact q8)) (by first | exact ha | exact hc | exact hb | exact he) (by (repeat refine mg_n (by omega) ?_); first | assumption | exact mup_s _ _ _) rfl rfl rfl rfl (Nat.le_of_ble_eq_true rfl) ?_
  refine p_putL (pc := 44) (fs' := [_, _, _, _, _]) C fp_X4_105 dX4_takeShip_44 (by first | exact ha | exact hc | exact hb | exact he) (by (repeat refine mg_n (by omega) ?_); first | assumption | exact mup_s _ _ _) (by exact Nat.le_of_ble_eq_true rfl) (by rfl) ?_
  try refine p_mem (mup_mup _ _ _ _) ?_
  refine p_iconst (pc := 47) C dX4_takeShip_47 (by decide) ?_
  refine p_istore_n (pc := 48) (ls' := [(3, _), (0, _), (1, _), (2, _)]) C dX4_takeShip_48 (by decide) rfl ?_
  refine p_iload_n (pc := 49) C dX4_takeShip_49 rfl ?_
  refine p_iconst (pc := 50) C dX4_takeShip_50 (by decide) ?_
  refine p_icmp_ge (pc := 51) (tgt := 75) C dX4_takeShip_51 (by decide) (fun h => absurd h (by decide)) (fun c_51 => ?_)
  refine p_aload_n (pc := 54) C dX4_takeShip_54 rfl ?_
  refine p_get (pc := 55) C fl_X4_121 dX4_takeShip_55 (by first | exact ha | exact hc | exact hb | exact he) (by (repeat refine mg_n (by omega) ?_); first | assumption | exact mup_s _ _ _) (by rfl) ?_
  refine p_iload_n (pc := 58) C dX4_takeShip_58 rfl ?_
  refine p_aload_n (pc := 59) C dX4_takeShip_59 rfl ?_
  refine p_iload_n (pc := 60) C dX4_takeShip_60 rfl ?_
  refine p_iconst (pc := 61) C dX4_takeShip_61 (by decide) ?_
  refine p_iadd (pc := 62) C dX4_takeShip_62 ⟨by omega, by omega⟩ ?_
  refine p_iload_n (pc := 63) C dX4_takeShip_63 rfl ?_
  refine p_iadd (pc := 64) C dX4_takeShip_64 ⟨by omega, by omega⟩ ?_
  refine p_callVF (pc := 65) C ln_X4_287 dX4_takeShip_65 (k_X0_digitAt ha (by (repeat refine mg_n (by omega) ?_); first | assumption | exact mup_s _ _ _) hc (by (repeat refine mg_n (by omega) ?_); first | assumption | exact mup_s _ _ _) hl (by first | exact q2 | exact q3 | exact q4 | exact q5 | exact q6 | exact q7 | exact q8)) (by first | exact ha | exact hc | exact hb | exact he) (by (repeat refine mg_n (by omega) ?_); first | assumption | exact mup_s _ _ _) rfl rfl rfl rfl (Nat.le_of_ble_eq_true rfl) ?_
  refine p_iast (pc := 68) C dX4_takeShip_68 (by first | exact ha | exact hc | exact hb | exact he) (by (repeat refine mg_n (by omega) ?_); first | assumption | exact mup_s _ _ _) (by omega) ?_
  try refine p_mem (mup_mup _ _ _ _) ?_
  refine p_iincC (pc := 69) (w := 1) (ls' := [(3, _), (0, _), (1, _), (2, _)]) C dX4_takeShip_69 (by decide) rfl (by decide) (by decide) rfl ?_
  refine p_goto (pc := 72) (tgt := 49) C dX4_takeShip_72 (by decide) ?_
  refine p_iload_n (pc := 49) C dX4_takeShip_49 rfl ?_
  refine p_iconst (pc := 50) C dX4_takeShip_50 (by decide) ?_
  refine p_icmp_ge (pc := 51) (tgt := 75) C dX4_takeShip_51 (by decide) (fun h => absurd h (by decide)) (fun c_51 => ?_)
  refine p_aload_n (pc := 54) C dX4_takeShip_54 rfl ?_
  refine p_get (pc := 55) C fl_X4_121 dX4_takeShip_55 (by first | exact ha | exact hc | exact hb | exact he) (by (repeat refine mg_n (by omega) ?_); first | assumption | exact mup_s _ _ _) (by rfl) ?_
  refine p_iload_n (pc := 58) C dX4_takeShip_58 rfl ?_
  refine p_aload_n (pc := 59) C dX4_takeShip_59 rfl ?_
  refine p_iload_n (pc := 60) C dX4_takeShip_60 rfl ?_
  refine p_iconst (pc := 61) C dX4_takeShip_61 (by decide) ?_
  refine p_iadd (pc := 62) C dX4_takeShip_62 ⟨by omega, by omega⟩ ?_
  refine p_iload_n (pc := 63) C dX4_takeShip_63 rfl ?_
  refine p_iadd (pc := 64) C dX4_takeShip_64 ⟨by omega, by omega⟩ ?_
  refine p_callVF (pc := 65) C ln_X4_287 dX4_takeShip_65 (k_X0_digitAt ha (by (repeat refine mg_n (by omega) ?_); first | assumption | exact mup_s _ _ _) hc (by (repeat refine mg_n (by omega) ?_); first | assumption | exact mup_s _ _ _) hl (by first | exact q2 | exact q3 | exact q4 | exact q5 | exact q6 | exact q7 | exact q8)) (by first | exact ha | exact hc | exact hb | exact he) (by (repeat refine mg_n (by omega) ?_); first | assumption | exact mup_s _ _ _) rfl rfl rfl rfl (Nat.le_of_ble_eq_true rfl) ?_
  refine p_iast (pc := 68) C dX4_takeShip_68 (by first | exact ha | exact hc | exact hb | exact he) (by (repeat refine mg_n (by omega) ?_); first | assumption | exact mup_s _ _ _) (by omega) ?_
  try refine p_mem (mup_mup _ _ _ _) ?_
  refine p_iincC (pc := 69) (w := 2) (ls' := [(3, _), (0, _), (1, _), (2, _)]) C dX4_takeShip_69 (by decide) rfl (by decide) (by decide) rfl ?_
  refine p_goto (pc := 72) (tgt := 49) C dX4_takeShip_72 (by decide) ?_
  refine p_iload_n (pc := 49) C dX4_takeShip_49 rfl ?_
  refine p_iconst (pc := 50) C dX4_takeShip_50 (by decide) ?_
  refine p_icmp_ge (pc := 51) (tgt := 75) C dX4_takeShip_51 (by decide) (fun h => absurd h (by decide)) (fun c_51 => ?_)
  refine p_aload_n (pc := 54) C dX4_takeShip_54 rfl ?_
  refine p_get (pc := 55) C fl_X4_121 dX4_takeShip_55 (by first | exact ha | exact hc | exact hb | exact he) (by (repeat refine mg_n (by omega) ?_); first | assumption | exact mup_s _ _ _) (by rfl) ?_
  refine p_iload_n (pc := 58) C dX4_takeShip_58 rfl ?_
  refine p_aload_n (pc := 59) C dX4_takeShip_59 rfl ?_
  refine p_iload_n (pc := 60) C dX4_takeShip_60 rfl ?_
  refine p_iconst (pc := 61) C dX4_takeShip_61 (by decide) ?_
  refine p_iadd (pc := 62) C dX4_takeShip_62 ⟨by omega, by omega⟩ ?_
  refine p_iload_n (pc := 63) C dX4_takeShip_63 rfl ?_
  refine p_iadd (pc := 64) C dX4_takeShip_64 ⟨by omega, by omega⟩ ?_
  refine p_callVF (pc := 65) C ln_X4_287 dX4_takeShip_65 (k_X0_digitAt ha (by (repeat refine mg_n (by omega) ?_); first | assumption | exact mup_s _ _ _) hc (by (repeat refine mg_n (by omega) ?_); first | assumption | exact mup_s _ _ _) hl (by first | exact q2 | exact q3 | exact q4 | exact q5 | exact q6 | exact q7 | exact q8)) (by first | exact ha | exact hc | exact hb | exact he) (by (repeat refine mg_n (by omega) ?_); first | assumption | exact mup_s _ _ _) rfl rfl rfl rfl (Nat.le_of_ble_eq_true rfl) ?_
  refine p_iast (pc := 68) C dX4_takeShip_68 (by first | exact ha | exact hc | exact hb | exact he) (by (repeat refine mg_n (by omega) ?_); first | assumption | exact mup_s _ _ _) (by omega) ?_
  try refine p_mem (mup_mup _ _ _ _) ?_
  refine p_iincC (pc := 69) (w := 3) (ls' := [(3, _), (0, _), (1, _), (2, _)]) C dX4_takeShip_69 (by decide) rfl (by decide) (by decide) rfl ?_
  refine p_goto (pc := 72) (tgt := 49) C dX4_takeShip_72 (by decide) ?_
  refine p_iload_n (pc := 49) C dX4_takeShip_49 rfl ?_
  refine p_iconst (pc := 50) C dX4_takeShip_50 (by decide) ?_
  refine p_icmp_ge (pc := 51) (tgt := 75) C dX4_takeShip_51 (by decide) (fun h => absurd h (by decide)) (fun c_51 => ?_)
  refine p_aload_n (pc := 54) C dX4_takeShip_54 rfl ?_
  refine p_get (pc := 55) C fl_X4_121 dX4_takeShip_55 (by first | exact ha | exact hc | exact hb | exact he) (by (repeat refine mg_n (by omega) ?_); first | assumption | exact mup_s _ _ _) (by rfl) ?_
  refine p_iload_n (pc := 58) C dX4_takeShip_58 rfl ?_
  refine p_aload_n (pc := 59) C dX4_takeShip_59 rfl ?_
  refine p_iload_n (pc := 60) C dX4_takeShip_60 rfl ?_
  refine p_iconst (pc := 61) C dX4_takeShip_61 (by decide) ?_
  refine p_iadd (pc := 62) C dX4_takeShip_62 ⟨by omega, by omega⟩ ?_
  refine p_iload_n (pc := 63) C dX4_takeShip_63 rfl ?_
  refine p_iadd (pc := 64) C dX4_takeShip_64 ⟨by omega, by omega⟩ ?_
  refine p_callVF (pc := 65) C ln_X4_287 dX4_takeShip_65 (k_X0_digitAt ha (by (repeat refine mg_n (by omega) ?_); first | assumption | exact mup_s _ _ _) hc (by (repeat refine mg_n (by omega) ?_); first | assumption | exact mup_s _ _ _) hl (by first | exact q2 | exact q3 | exact q4 | exact q5 | exact q6 | exact q7 | exact q8)) (by first | exact ha | exact hc | exact hb | exact he) (by (repeat refine mg_n (by omega) ?_); first | assumption | exact mup_s _ _ _) rfl rfl rfl rfl (Nat.le_of_ble_eq_true rfl) ?_
  refine p_iast (pc := 68) C dX4_takeShip_68 (by first | exact ha | exact hc | exact hb | exact he) (by (repeat refine mg_n (by omega) ?_); first | assumption | exact mup_s _ _ _) (by omega) ?_
  try refine p_mem (mup_mup _ _ _ _) ?_
  refine p_iincC (pc := 69) (w := 4) (ls' := [(3, _), (0, _), (1, _), (2, _)]) C dX4_takeShip_69 (by decide) rfl (by decide) (by decide) rfl ?_
  refine p_goto (pc := 72) (tgt := 49) C dX4_takeShip_72 (by decide) ?_
  refine p_iload_n (pc := 49) C dX4_takeShip_49 rfl ?_
  refine p_iconst (pc := 50) C dX4_takeShip_50 (by decide) ?_
  refine p_icmp_ge (pc := 51) (tgt := 75) C dX4_takeShip_51 (by decide) (fun c_51 => ?_) (fun h => absurd h (by decide))
  refine p_vret (pc := 75) C dX4_takeShip_75 ?_
  exact ⟨rfl, rfl⟩
