/-- one ship's day -/
def sdG (rg f : Int → Int) (kd nm sg pt : Int) : Int := if brg kd sg < rg pt then gtg f nm else -9
def sdF (f : Int → Int) (g : Int) : Int → Int := if g = -9 then f else fup f g (f g - 1)
def nxp (np p : Int) : Int := if p + 1 < np then p + 1 else 0
theorem gtg_r {f : Int → Int} {nm m : Int} (hb : bd4 f m) (hn : 0 ≤ nm ∧ nm < 4) : (gtg f nm = -9 ∧ f 0 = 0 ∧ f 1 = 0 ∧ f 2 = 0 ∧ f 3 = 0) ∨ ((0 ≤ gtg f nm ∧ gtg f nm < 4) ∧ 0 < f (gtg f nm)) := by
  have hm := hb.at hn.1 hn.2
  obtain ⟨⟨b0, b1⟩, ⟨b2, b3⟩, ⟨b4, b5⟩, ⟨b6, b7⟩⟩ := hb
  unfold gtg
  by_cases h : f nm ≠ 0
  · rw [if_pos h]; exact Or.inr ⟨hn, by omega⟩
  · rw [if_neg h]
    by_cases h0 : 0 < f 0
    · rw [if_pos h0]; exact Or.inr ⟨by omega, h0⟩
    · rw [if_neg h0]
      by_cases h1 : 0 < f 1
      · rw [if_pos h1]; exact Or.inr ⟨by omega, h1⟩
      · rw [if_neg h1]
        by_cases h2 : 0 < f 2
        · rw [if_pos h2]; exact Or.inr ⟨by omega, h2⟩
        · rw [if_neg h2]
          by_cases h3 : 0 < f 3
          · rw [if_pos h3]; exact Or.inr ⟨by omega, h3⟩
          · rw [if_neg h3]; exact Or.inl ⟨rfl, by omega, by omega, by omega, by omega⟩
theorem brg_r {kd sg : Int} (hs : 0 ≤ sg ∧ sg ≤ 9) : 0 ≤ brg kd sg ∧ brg kd sg ≤ 18 := by
  unfold brg; split
  · omega
  · split <;> omega
theorem nxp_r {np p : Int} (h : 0 ≤ p) (hn : 0 < np) : 0 ≤ nxp np p ∧ nxp np p < np := by
  unfold nxp; split <;> omega
theorem bd4_fup {f : Int → Int} {m g v : Int} (hb : bd4 f m) (hv : 0 ≤ v ∧ v ≤ m) : bd4 (fup f g v) m := by
  obtain ⟨b0, b1, b2, b3⟩ := hb
  unfold bd4 fup
  refine ⟨?_, ?_, ?_, ?_⟩ <;> (split <;> assumption)
theorem sdF_b {f : Int → Int} {nm m : Int} (hb : bd4 f m) (hn : 0 ≤ nm ∧ nm < 4) : bd4 (sdF f (gtg f nm)) m := by
  rcases gtg_r hb hn with h | ⟨h, h2⟩
  · unfold sdF; rw [if_pos h.1]; exact hb
  · unfold sdF; rw [if_neg (by omega)]
    have := hb.at h.1 h.2
    exact bd4_fup hb ⟨by omega, by omega⟩

set_option maxHeartbeats 4000000 in
set_option maxRecDepth 100000 in
theorem k_X4_sailDay {K : KX} {d : Nat} {μ : Int → ME} {a c kd nm sg pt : Int} (ha : IR a) (h1 : μ a = oS kd nm sg pt c) {f : Int → Int} (hc : IR c) (h2 : μ c = mA 4 f) {np ns day nr tr fl : Int} (h0 : μ 0 = oY np ns day nr tr fl) {rg : Int → Int} (hr : μ 1 = mA 6 rg) (hnp : np ≤ 6) (hac : a ≠ c) (ha0 : 2 ≤ a) (hc0 : 2 ≤ c) (hpt : 0 ≤ pt ∧ pt < np) (hsg : 0 ≤ sg ∧ sg ≤ 9) (hnm : 0 ≤ nm ∧ nm < 4) (hb : bd4 f 9) : Ct K (d + 2) yX4_sailDay cX4_sailDay 3 (some .int) [vR 0, vR a] μ (pF (vI (sdG rg f kd nm sg pt)) (mup (mup μ c (mA 4 (sdF f (sdG rg f kd nm sg pt)))) a (oS kd nm sg (nxp np pt) c))) := by
  refine Ct.of (by decide) (Nat.le_of_ble_eq_true rfl) (fun X C => ?_)
  refine p_aload_n (pc := 0) C dX4_sailDay_0 rfl ?_
  refine p_get (pc := 1) C fl_X4_11 dX4_sailDay_1 (by first | exact ha | exact hc | exact ⟨by omega, by omega⟩) (by (repeat refine mg_n (by omega) ?_); first | assumption | exact mup_s _ _ _) (by rfl) ?_
  refine p_aload_n (pc := 4) C dX4_sailDay_4 rfl ?_
  refine p_get (pc := 5) C fl_X4_105 dX4_sailDay_5 (by first | exact ha | exact hc | exact ⟨by omega, by omega⟩) (by (repeat refine mg_n (by omega) ?_); first | assumption | exact mup_s _ _ _) (by rfl) ?_
  refine p_iald (pc := 8) C dX4_sailDay_8 (by first | exact ha | exact hc | exact ⟨by omega, by omega⟩) (by (repeat refine mg_n (by omega) ?_); first | assumption | exact mup_s _ _ _) (by omega) ?_
  refine p_aload_n (pc := 9) C dX4_sailDay_9 rfl ?_
  refine p_callVF (pc := 10) C ln_X4_101 dX4_sailDay_10 (k_X1_bearing ha h1 (by omega)) (by first | exact ha | exact hc | exact ⟨by omega, by omega⟩) (by (repeat refine mg_n (by omega) ?_); first | assumption | exact mup_s _ _ _) rfl rfl rfl rfl (Nat.le_of_ble_eq_true rfl) ?_
  refine p_icmp_le (pc := 13) (tgt := 23) C dX4_sailDay_13 (by decide) (fun c_13 => ?_) (fun c_13 => ?_)
  · refine p_bipush (pc := 23) C dX4_sailDay_23 (by decide) ?_
    refine p_istore_n (pc := 25) (ls' := [(2, _), (0, _), (1, _)]) C dX4_sailDay_25 (by decide) rfl ?_
    refine p_iload_n (pc := 26) C dX4_sailDay_26 rfl ?_
    refine p_bipush (pc := 27) C dX4_sailDay_27 (by decide) ?_
    refine p_icmp_eq (pc := 29) (tgt := 42) C dX4_sailDay_29 (by decide) (fun c_29 => ?_) (fun h => absurd h (by decide))
    refine p_aload_n (pc := 42) C dX4_sailDay_42 rfl ?_
    refine p_aload_n (pc := 43) C dX4_sailDay_43 rfl ?_
    refine p_aload_n (pc := 44) C dX4_sailDay_44 rfl ?_
    refine p_get (pc := 45) C fl_X4_105 dX4_sailDay_45 (by first | exact ha | exact hc | exact ⟨by omega, by omega⟩) (by (repeat refine mg_n (by omega) ?_); first | assumption | exact mup_s _ _ _) (by rfl) ?_
    refine p_callVF (pc := 48) C ln_X4_155 dX4_sailDay_48 (k_X4_portBehind (by omega) (by (repeat refine mg_n (by omega) ?_); first | assumption | exact mup_s _ _ _)) (by first | exact ha | exact hc | exact ⟨by omega, by omega⟩) (by (repeat refine mg_n (by omega) ?_); first | assumption | exact mup_s _ _ _) rfl rfl rfl rfl (Nat.le_of_ble_eq_true rfl) ?_
    refine p_putL (pc := 51) (fs' := [_, _, _, _, _]) C fp_X4_105 dX4_sailDay_51 (by first | exact ha | exact hc | exact ⟨by omega, by omega⟩) (by (repeat refine mg_n (by omega) ?_); first | assumption | exact mup_s _ _ _) (by exact Nat.le_of_ble_eq_true rfl) (by rfl) ?_
    try refine p_mem (mup_mup _ _ _ _) ?_
    refine p_iload_n (pc := 54) C dX4_sailDay_54 rfl ?_
    refine p_iret (pc := 55) C dX4_sailDay_55 ?_
    first
      | (have e : sdG rg f kd nm sg pt = gtg f nm := if_pos (by omega)
         rw [e, sdF, if_neg c_29]
         exact ⟨rfl, rfl⟩)
      | (have e : sdG rg f kd nm sg pt = -9 := (if_pos (by omega)).trans c_29
         rw [e, sdF, if_pos rfl, mup_id h2]
         exact ⟨sv (by omega), rfl⟩)
      | (have e : sdG rg f kd nm sg pt = -9 := if_neg (by omega)
         rw [e, sdF, if_pos rfl, mup_id h2]
         exact ⟨rfl, rfl⟩)
  · refine p_aload_n (pc := 16) C dX4_sailDay_16 rfl ?_
    refine p_callVF (pc := 17) C ln_X4_201 dX4_sailDay_17 (k_X1_goodThatGoes ha h1 hc h2 hnm) (by first | exact ha | exact hc | exact ⟨by omega, by omega⟩) (by (repeat refine mg_n (by omega) ?_); first | assumption | exact mup_s _ _ _) rfl rfl rfl rfl (Nat.le_of_ble_eq_true rfl) ?_
    refine p_goto (pc := 20) (tgt := 25) C dX4_sailDay_20 (by decide) ?_
    refine p_istore_n (pc := 25) (ls' := [(2, _), (0, _), (1, _)]) C dX4_sailDay_25 (by decide) rfl ?_
    refine p_iload_n (pc := 26) C dX4_sailDay_26 rfl ?_
    refine p_bipush (pc := 27) C dX4_sailDay_27 (by decide) ?_
    refine p_icmp_eq (pc := 29) (tgt := 42) C dX4_sailDay_29 (by decide) (fun c_29 => ?_) (fun c_29 => ?_)
    · refine p_aload_n (pc := 42) C dX4_sailDay_42 rfl ?_
      refine p_aload_n (pc := 43) C dX4_sailDay_43 rfl ?_
      refine p_aload_n (pc := 44) C dX4_sailDay_44 rfl ?_
      refine p_get (pc := 45) C fl_X4_105 dX4_sailDay_45 (by first | exact ha | exact hc | exact ⟨by omega, by omega⟩) (by (repeat refine mg_n (by omega) ?_); first | assumption | exact mup_s _ _ _) (by rfl) ?_
      refine p_callVF (pc := 48) C ln_X4_155 dX4_sailDay_48 (k_X4_portBehind (by omega) (by (repeat refine mg_n (by omega) ?_); first | assumption | exact mup_s _ _ _)) (by first | exact ha | exact hc | exact ⟨by omega, by omega⟩) (by (repeat refine mg_n (by omega) ?_); first | assumption | exact mup_s _ _ _) rfl rfl rfl rfl (Nat.le_of_ble_eq_true rfl) ?_
      refine p_putL (pc := 51) (fs' := [_, _, _, _, _]) C fp_X4_105 dX4_sailDay_51 (by first | exact ha | exact hc | exact ⟨by omega, by omega⟩) (by (repeat refine mg_n (by omega) ?_); first | assumption | exact mup_s _ _ _) (by exact Nat.le_of_ble_eq_true rfl) (by rfl) ?_
      try refine p_mem (mup_mup _ _ _ _) ?_
      refine p_iload_n (pc := 54) C dX4_sailDay_54 rfl ?_
      refine p_iret (pc := 55) C dX4_sailDay_55 ?_
      first
        | (have e : sdG rg f kd nm sg pt = gtg f nm := if_pos (by omega)
           rw [e, sdF, if_neg c_29]
           exact ⟨rfl, rfl⟩)
        | (have e : sdG rg f kd nm sg pt = -9 := (if_pos (by omega)).trans c_29
           rw [e, sdF, if_pos rfl, mup_id h2]
           exact ⟨sv (by omega), rfl⟩)
        | (have e : sdG rg f kd nm sg pt = -9 := if_neg (by omega)
           rw [e, sdF, if_pos rfl, mup_id h2]
           exact ⟨rfl, rfl⟩)
    · have hg : 0 ≤ gtg f nm ∧ gtg f nm < 4 := (gtg_r hb hnm).elim (fun h => absurd h.1 c_29) (fun h => h.1)
      have hg2 := hb.at hg.1 hg.2
      refine p_aload_n (pc := 32) C dX4_sailDay_32 rfl ?_
      refine p_get (pc := 33) C fl_X4_121 dX4_sailDay_33 (by first | exact ha | exact hc | exact ⟨by omega, by omega⟩) (by (repeat refine mg_n (by omega) ?_); first | assumption | exact mup_s _ _ _) (by rfl) ?_
      refine p_iload_n (pc := 36) C dX4_sailDay_36 rfl ?_
      refine p_dup2 (pc := 37) C dX4_sailDay_37 rfl rfl ?_
      refine p_iald (pc := 38) C dX4_sailDay_38 (by first | exact ha | exact hc | exact ⟨by omega, by omega⟩) (by (repeat refine mg_n (by omega) ?_); first | assumption | exact mup_s _ _ _) (by omega) ?_
      refine p_iconst (pc := 39) C dX4_sailDay_39 (by decide) ?_
      refine p_isub (pc := 40) C dX4_sailDay_40 ⟨by omega, by omega⟩ ?_
      refine p_iast (pc := 41) C dX4_sailDay_41 (by first | exact ha | exact hc | exact ⟨by omega, by omega⟩) (by (repeat refine mg_n (by omega) ?_); first | assumption | exact mup_s _ _ _) (by omega) ?_
      try refine p_mem (mup_mup _ _ _ _) ?_
      refine p_aload_n (pc := 42) C dX4_sailDay_42 rfl ?_
      refine p_aload_n (pc := 43) C dX4_sailDay_43 rfl ?_
      refine p_aload_n (pc := 44) C dX4_sailDay_44 rfl ?_
      refine p_get (pc := 45) C fl_X4_105 dX4_sailDay_45 (by first | exact ha | exact hc | exact ⟨by omega, by omega⟩) (by (repeat refine mg_n (by omega) ?_); first | assumption | exact mup_s _ _ _) (by rfl) ?_
      refine p_callVF (pc := 48) C ln_X4_155 dX4_sailDay_48 (k_X4_portBehind (by omega) (by (repeat refine mg_n (by omega) ?_); first | assumption | exact mup_s _ _ _)) (by first | exact ha | exact hc | exact ⟨by omega, by omega⟩) (by (repeat refine mg_n (by omega) ?_); first | assumption | exact mup_s _ _ _) rfl rfl rfl rfl (Nat.le_of_ble_eq_true rfl) ?_
      refine p_putL (pc := 51) (fs' := [_, _, _, _, _]) C fp_X4_105 dX4_sailDay_51 (by first | exact ha | exact hc | exact ⟨by omega, by omega⟩) (by (repeat refine mg_n (by omega) ?_); first | assumption | exact mup_s _ _ _) (by exact Nat.le_of_ble_eq_true rfl) (by rfl) ?_
      try refine p_mem (mup_mup _ _ _ _) ?_
      refine p_iload_n (pc := 54) C dX4_sailDay_54 rfl ?_
      refine p_iret (pc := 55) C dX4_sailDay_55 ?_
      first
        | (have e : sdG rg f kd nm sg pt = gtg f nm := if_pos (by omega)
           rw [e, sdF, if_neg c_29]
           exact ⟨rfl, rfl⟩)
        | (have e : sdG rg f kd nm sg pt = -9 := (if_pos (by omega)).trans c_29
           rw [e, sdF, if_pos rfl, mup_id h2]
           exact ⟨sv (by omega), rfl⟩)
        | (have e : sdG rg f kd nm sg pt = -9 := if_neg (by omega)
           rw [e, sdF, if_pos rfl, mup_id h2]
           exact ⟨rfl, rfl⟩)

/-- how many of t days from port p on are too rough; the port behind them -/
def rdN (rg : Int → Int) (np br p : Int) : Nat → Int
  | 0 => 0
  | t + 1 => (if br < rg p then 1 else 0) + rdN rg np br (nxp np p) t
theorem rdN_r (rg : Int → Int) (np br : Int) : ∀ (t : Nat) (p : Int), 0 ≤ rdN rg np br p t ∧ rdN rg np br p t ≤ (t : Int)
  | 0, p => by simp [rdN]
  | t + 1, p => by
    have := rdN_r rg np br t (nxp np p)
    simp only [rdN]
    split <;> (push_cast; omega)

set_option maxHeartbeats 4000000 in
set_option maxRecDepth 100000 in
theorem k_X4_roughDays {K : KX} {d : Nat} {μ : Int → ME} {br fr n : Int} {np ns day nr tr fl : Int} (h0 : μ 0 = oY np ns day nr tr fl) {rg : Int → Int} (hr : μ 1 = mA 6 rg) (hnp : np ≤ 6) (hn : 0 ≤ n ∧ n ≤ 1000) (hf : 0 ≤ fr ∧ fr < np) : Ct K (d + 1) yX4_roughDays cX4_roughDays 7 (some .int) [vR 0, vI br, vI fr, vI n] μ (pF (vI (rdN rg np br fr n.toNat)) μ) := by
  refine Ct.of (by decide) (Nat.le_of_ble_eq_true rfl) (fun X C => ?_)
  have L : ∀ (t : Nat) (i ct p : Int), 0 ≤ i → n - i = (t : Int) → 0 ≤ ct → ct ≤ i → 0 ≤ p → p < np → ct + rdN rg np br p t = rdN rg np br fr n.toNat → PW K X 7 (QM K X (pF (vI (rdN rg np br fr n.toNat)) μ)) 9 [(6, vI i), (5, vI ct), (4, vI p), (0, vR 0), (1, vI br), (2, vI fr), (3, vI n)] [] μ := by
    intro t
    induction t with
    | zero =>
      intro i ct p h1 h2 h3 h4 h5 h6 h7
      refine p_iload (pc := 9) C dX4_roughDays_9 rfl ?_
      refine p_iload_n (pc := 11) C dX4_roughDays_11 rfl ?_
      refine p_icmp_ge (pc := 12) (tgt := 43) C dX4_roughDays_12 (by decide) (fun c_12 => ?_) (fun h => by exfalso; omega)
      refine p_iload (pc := 43) C dX4_roughDays_43 rfl ?_
      refine p_iret (pc := 45) C dX4_roughDays_45 ?_
      exact ⟨sv (by simp only [rdN] at h7; omega), rfl⟩
    | succ t ih =>
      intro i ct p h1 h2 h3 h4 h5 h6 h7
      simp only [rdN] at h7
      have hq := nxp_r (np := np) h5 (by omega)
      refine p_iload (pc := 9) C dX4_roughDays_9 rfl ?_
      refine p_iload_n (pc := 11) C dX4_roughDays_11 rfl ?_
      refine p_icmp_ge (pc := 12) (tgt := 43) C dX4_roughDays_12 (by decide) (fun h => by exfalso; omega) (fun c_12 => ?_)
      refine p_aload_n (pc := 15) C dX4_roughDays_15 rfl ?_
      refine p_get (pc := 16) C fl_X4_11 dX4_roughDays_16 ⟨by omega, by omega⟩ (by (repeat refine mg_n (by omega) ?_); first | assumption | exact mup_s _ _ _) (by rfl) ?_
      refine p_iload (pc := 19) C dX4_roughDays_19 rfl ?_
      refine p_iald (pc := 21) C dX4_roughDays_21 ⟨by omega, by omega⟩ (by (repeat refine mg_n (by omega) ?_); first | assumption | exact mup_s _ _ _) (by omega) ?_
      refine p_iload_n (pc := 22) C dX4_roughDays_22 rfl ?_
      refine p_icmp_le (pc := 23) (tgt := 29) C dX4_roughDays_23 (by decide) (fun c_23 => ?_) (fun c_23 => ?_)
      · refine p_aload_n (pc := 29) C dX4_roughDays_29 rfl ?_
        refine p_iload (pc := 30) C dX4_roughDays_30 rfl ?_
        refine p_callVF (pc := 32) C ln_X4_155 dX4_roughDays_32 (k_X4_portBehind (by omega) h0) ⟨by omega, by omega⟩ (by (repeat refine mg_n (by omega) ?_); first | assumption | exact mup_s _ _ _) rfl rfl rfl rfl (Nat.le_of_ble_eq_true rfl) ?_
        refine p_istore (pc := 35) (ls' := [(4, _), (6, _), (5, _), (0, _), (1, _), (2, _), (3, _)]) C dX4_roughDays_35 (by decide) rfl ?_
        refine p_iinc (pc := 37) (ls' := [(6, _), (4, _), (5, _), (0, _), (1, _), (2, _), (3, _)]) C dX4_roughDays_37 (by decide) rfl ⟨by omega, by omega⟩ rfl ?_
        refine p_goto (pc := 40) (tgt := 9) C dX4_roughDays_40 (by decide) ?_
        refine p_pick [0, 2, 1, 3, 4, 5, 6] (ls' := [(6, _), (5, _), (4, _), (0, _), (1, _), (2, _), (3, _)]) rfl ?_
        first
          | (rw [if_neg (by omega)] at h7
             refine ih (i + 1) ct (nxp np p) (by omega) (by omega) (by omega) (by omega) hq.1 hq.2 (by omega))
          | (rw [if_pos (by omega)] at h7
             refine ih (i + 1) (ct + 1) (nxp np p) (by omega) (by omega) (by omega) (by omega) hq.1 hq.2 (by omega))
      · refine p_iinc (pc := 26) (ls' := [(5, _), (6, _), (4, _), (0, _), (1, _), (2, _), (3, _)]) C dX4_roughDays_26 (by decide) rfl ⟨by omega, by omega⟩ rfl ?_
        refine p_aload_n (pc := 29) C dX4_roughDays_29 rfl ?_
        refine p_iload (pc := 30) C dX4_roughDays_30 rfl ?_
        refine p_callVF (pc := 32) C ln_X4_155 dX4_roughDays_32 (k_X4_portBehind (by omega) h0) ⟨by omega, by omega⟩ (by (repeat refine mg_n (by omega) ?_); first | assumption | exact mup_s _ _ _) rfl rfl rfl rfl (Nat.le_of_ble_eq_true rfl) ?_
        refine p_istore (pc := 35) (ls' := [(4, _), (5, _), (6, _), (0, _), (1, _), (2, _), (3, _)]) C dX4_roughDays_35 (by decide) rfl ?_
        refine p_iinc (pc := 37) (ls' := [(6, _), (4, _), (5, _), (0, _), (1, _), (2, _), (3, _)]) C dX4_roughDays_37 (by decide) rfl ⟨by omega, by omega⟩ rfl ?_
        refine p_goto (pc := 40) (tgt := 9) C dX4_roughDays_40 (by decide) ?_
        refine p_pick [0, 2, 1, 3, 4, 5, 6] (ls' := [(6, _), (5, _), (4, _), (0, _), (1, _), (2, _), (3, _)]) rfl ?_
        first
          | (rw [if_neg (by omega)] at h7
             refine ih (i + 1) ct (nxp np p) (by omega) (by omega) (by omega) (by omega) hq.1 hq.2 (by omega))
          | (rw [if_pos (by omega)] at h7
             refine ih (i + 1) (ct + 1) (nxp np p) (by omega) (by omega) (by omega) (by omega) hq.1 hq.2 (by omega))
  refine p_iload_n (pc := 0) C dX4_roughDays_0 rfl ?_
  refine p_istore (pc := 1) (ls' := [(4, _), (0, _), (1, _), (2, _), (3, _)]) C dX4_roughDays_1 (by decide) rfl ?_
  refine p_iconst (pc := 3) C dX4_roughDays_3 (by decide) ?_
  refine p_istore (pc := 4) (ls' := [(5, _), (4, _), (0, _), (1, _), (2, _), (3, _)]) C dX4_roughDays_4 (by decide) rfl ?_
  refine p_iconst (pc := 6) C dX4_roughDays_6 (by decide) ?_
  refine p_istore (pc := 7) (ls' := [(6, _), (5, _), (4, _), (0, _), (1, _), (2, _), (3, _)]) C dX4_roughDays_7 (by decide) rfl ?_
  exact L n.toNat 0 0 fr (by omega) (by omega) (by omega) (by omega) hf.1 hf.2 (by omega)

set_option maxHeartbeats 4000000 in
set_option maxRecDepth 100000 in
theorem k_X4_roughPorts {K : KX} {d : Nat} {μ : Int → ME} {br : Int} {np ns day nr tr fl : Int} (h0 : μ 0 = oY np ns day nr tr fl) {rg : Int → Int} (hr : μ 1 = mA 6 rg) (hnp : np ≤ 6) (hn : 0 < np) : Ct K (d + 2) yX4_roughPorts cX4_roughPorts 2 (some .int) [vR 0, vI br] μ (pF (vI (rdN rg np br 0 np.toNat)) μ) := by
  refine Ct.of (by decide) (Nat.le_of_ble_eq_true rfl) (fun X C => ?_)
  refine p_aload_n (pc := 0) C dX4_roughPorts_0 rfl ?_
  refine p_iload_n (pc := 1) C dX4_roughPorts_1 rfl ?_
  refine p_iconst (pc := 2) C dX4_roughPorts_2 (by decide) ?_
  refine p_aload_n (pc := 3) C dX4_roughPorts_3 rfl ?_
  refine p_get (pc := 4) C fl_X4_162 dX4_roughPorts_4 ⟨by omega, by omega⟩ (by (repeat refine mg_n (by omega) ?_); first | assumption | exact mup_s _ _ _) (by rfl) ?_
  refine p_callVF (pc := 7) C ln_X4_165 dX4_roughPorts_7 (k_X4_roughDays h0 hr hnp (by omega) (by omega)) ⟨by omega, by omega⟩ (by (repeat refine mg_n (by omega) ?_); first | assumption | exact mup_s _ _ _) rfl rfl rfl rfl (Nat.le_of_ble_eq_true rfl) ?_
  refine p_iret (pc := 10) C dX4_roughPorts_10 ?_
  exact ⟨by first | rfl | (rw [if_pos (by omega)]) | (rw [if_neg (by omega)]) | (congr 2; omega), rfl⟩
