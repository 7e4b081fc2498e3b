/-- DAYS of all ships: ports, loads, pieces lost, worth lost, the first that lost its name -/
abbrev DS : Type := (Int → Int) × (Int → Int → Int) × Int × Int × Int
def cup (ca : Int → Int → Int) (k : Int) (f : Int → Int) : Int → Int → Int := fun j => if j = k then f else ca j
theorem cup_s (ca : Int → Int → Int) (k : Int) (f : Int → Int) : cup ca k f k = f := if_pos rfl
theorem cup_n (ca : Int → Int → Int) {k j : Int} (f : Int → Int) (h : j ≠ k) : cup ca k f j = ca j := if_neg h
def dsG (rg kd nm sg : Int → Int) (k : Int) (S : DS) : Int := sdG rg (S.2.1 k) (kd k) (nm k) (sg k) (S.1 k)
def stS (np : Int) (rg kd nm sg : Int → Int) (k : Int) (S : DS) : DS :=
  (fup S.1 k (nxp np (S.1 k)), cup S.2.1 k (sdF (S.2.1 k) (dsG rg kd nm sg k S)), S.2.2.1 + (if dsG rg kd nm sg k S = -9 then 0 else 1), S.2.2.2.1 + (if dsG rg kd nm sg k S = -9 then 0 else dsG rg kd nm sg k S + 1), if dsG rg kd nm sg k S ≠ -9 ∧ dsG rg kd nm sg k S = nm k ∧ S.2.2.2.2 = -9 then k else S.2.2.2.2)
def shN (np : Int) (rg kd nm sg : Int → Int) (k : Int) (S : DS) : Nat → DS
  | 0 => S
  | t + 1 => shN np rg kd nm sg (k + 1) (stS np rg kd nm sg k S) t
def dyN (np ns : Int) (rg kd nm sg : Int → Int) (S : DS) : Nat → DS
  | 0 => S
  | t + 1 => dyN np ns rg kd nm sg (shN np rg kd nm sg 0 S ns.toNat) t
/-- ships are as they must be -/
def WS (np ns : Int) (S : DS) : Prop := ∀ k, 0 ≤ k → k < ns → (0 ≤ S.1 k ∧ S.1 k < np) ∧ bd4 (S.2.1 k) 9
def WN (ns : Int) (kd nm sg : Int → Int) : Prop := ∀ k, 0 ≤ k → k < ns → (0 ≤ kd k ∧ kd k ≤ 2) ∧ (0 ≤ nm k ∧ nm k < 4) ∧ (0 ≤ sg k ∧ sg k ≤ 9)
theorem sdG_r {rg f : Int → Int} {kd nm sg pt m : Int} (hb : bd4 f m) (hn : 0 ≤ nm ∧ nm < 4) : sdG rg f kd nm sg pt = -9 ∨ ((0 ≤ sdG rg f kd nm sg pt ∧ sdG rg f kd nm sg pt < 4) ∧ 0 < f (sdG rg f kd nm sg pt)) := by
  unfold sdG
  split
  · rcases gtg_r hb hn with h | h
    · exact Or.inl h.1
    · exact Or.inr h
  · exact Or.inl rfl
theorem sdF_g {rg f : Int → Int} {kd nm sg pt m : Int} (hb : bd4 f m) (hn : 0 ≤ nm ∧ nm < 4) : bd4 (sdF f (sdG rg f kd nm sg pt)) m := by
  rcases sdG_r (rg := rg) (kd := kd) (sg := sg) (pt := pt) hb hn with h | ⟨h, h2⟩
  · rw [h]; unfold sdF; rw [if_pos rfl]; exact hb
  · unfold sdF; rw [if_neg (by omega)]
    have := hb.at h.1 h.2
    exact bd4_fup hb ⟨by omega, by omega⟩
theorem WS_st {np ns : Int} {rg kd nm sg : Int → Int} {k : Int} {S : DS} (h : WS np ns S) (hn : WN ns kd nm sg) (h0 : 0 ≤ k) (h1 : k < ns) : WS np ns (stS np rg kd nm sg k S) := by
  intro j j0 j1
  obtain ⟨a1, a2⟩ := h j j0 j1
  unfold stS
  dsimp only
  by_cases e : j = k
  · subst e
    rw [fup_s, cup_s]
    exact ⟨nxp_r a1.1 (by omega), sdF_g a2 (hn j j0 j1).2.1⟩
  · rw [fup_n _ _ _ e, cup_n _ _ e]
    exact ⟨a1, a2⟩
theorem ct_st {np : Int} {rg kd nm sg : Int → Int} {k m : Int} {S : DS} (hb : bd4 (S.2.1 k) m) (hn : 0 ≤ nm k ∧ nm k < 4) : (S.2.2.1 ≤ (stS np rg kd nm sg k S).2.2.1 ∧ (stS np rg kd nm sg k S).2.2.1 ≤ S.2.2.1 + 1) ∧ (S.2.2.2.1 ≤ (stS np rg kd nm sg k S).2.2.2.1 ∧ (stS np rg kd nm sg k S).2.2.2.1 ≤ S.2.2.2.1 + 4) := by
  have hg := sdG_r (rg := rg) (kd := kd k) (sg := sg k) (pt := S.1 k) hb hn
  unfold stS dsG
  dsimp only
  split <;> omega
theorem WS_sh {np ns : Int} {rg kd nm sg : Int → Int} (hn : WN ns kd nm sg) : ∀ (t : Nat) (k : Int) (S : DS), 0 ≤ k → k + (t : Int) ≤ ns → WS np ns S → WS np ns (shN np rg kd nm sg k S t) ∧ (S.2.2.1 ≤ (shN np rg kd nm sg k S t).2.2.1 ∧ (shN np rg kd nm sg k S t).2.2.1 ≤ S.2.2.1 + (t : Int)) ∧ (S.2.2.2.1 ≤ (shN np rg kd nm sg k S t).2.2.2.1 ∧ (shN np rg kd nm sg k S t).2.2.2.1 ≤ S.2.2.2.1 + 4 * (t : Int))
  | 0, k, S, _, _, h => by simp only [shN]; exact ⟨h, by omega, by omega⟩
  | t + 1, k, S, h0, h1, h => by
    simp only [shN]
    obtain ⟨a1, a2, a3⟩ := WS_sh hn t (k + 1) (stS np rg kd nm sg k S) (by omega) (by omega) (WS_st h hn h0 (by omega))
    have := ct_st (np := np) (rg := rg) (kd := kd) (sg := sg) (h k h0 (by omega)).2 (hn k h0 (by omega)).2.1
    exact ⟨a1, by push_cast; omega, by push_cast; omega⟩
theorem WS_dy {np ns : Int} {rg kd nm sg : Int → Int} (hn : WN ns kd nm sg) (hns : 0 ≤ ns ∧ ns ≤ 5) : ∀ (t : Nat) (S : DS), WS np ns S → WS np ns (dyN np ns rg kd nm sg S t) ∧ (S.2.2.1 ≤ (dyN np ns rg kd nm sg S t).2.2.1 ∧ (dyN np ns rg kd nm sg S t).2.2.1 ≤ S.2.2.1 + 5 * (t : Int)) ∧ (S.2.2.2.1 ≤ (dyN np ns rg kd nm sg S t).2.2.2.1 ∧ (dyN np ns rg kd nm sg S t).2.2.2.1 ≤ S.2.2.2.1 + 20 * (t : Int))
  | 0, S, h => by simp only [dyN]; exact ⟨h, by omega, by omega⟩
  | t + 1, S, h => by
    simp only [dyN]
    obtain ⟨b1, b2, b3⟩ := WS_sh (np := np) (rg := rg) hn ns.toNat 0 S (by omega) (by omega) h
    obtain ⟨a1, a2, a3⟩ := WS_dy hn hns t (shN np rg kd nm sg 0 S ns.toNat) b1
    exact ⟨a1, by push_cast; omega, by push_cast; omega⟩
/-- the ships' cells from b on; all else as it was, but e -/
def FI (b m e : Int) (kd nm sg : Int → Int) (S : DS) (μ ν : Int → ME) : Prop :=
  (∀ k, 0 ≤ k → k < m → ν (b + 4 * k) = oS (kd k) (nm k) (sg k) (S.1 k) (b + 1 + 4 * k) ∧ ν (b + 1 + 4 * k) = mA 4 (S.2.1 k)) ∧
  (∀ x, x ≠ e → (x < b ∨ b + 4 * m ≤ x ∨ ((x - b) % 4 ≠ 0 ∧ (x - b) % 4 ≠ 1)) → ν x = μ x)
theorem FI_st {b m e np : Int} {rg kd nm sg : Int → Int} {S : DS} {μ ν : Int → ME} {k : Int} (h : FI b m e kd nm sg S μ ν) (hb : b = 14 ∨ b = 16) (hm : m ≤ 5) (h0 : 0 ≤ k) (h1 : k < m) :
    FI b m e kd nm sg (stS np rg kd nm sg k S) μ (mup (mup ν (b + 1 + 4 * k) (mA 4 (sdF (S.2.1 k) (dsG rg kd nm sg k S)))) (b + 4 * k) (oS (kd k) (nm k) (sg k) (nxp np (S.1 k)) (b + 1 + 4 * k))) := by
  obtain ⟨a1, a2⟩ := h
  refine ⟨fun j j0 j1 => ?_, fun x x0 x1 => mg_n (by omega) (mg_n (by omega) (a2 x x0 x1))⟩
  unfold stS
  dsimp only
  by_cases q : j = k
  · subst q
    rw [fup_s, cup_s]
    exact ⟨mup_s _ _ _, mg_n (by omega) (mup_s _ _ _)⟩
  · rw [fup_n _ _ _ q, cup_n _ _ q]
    exact ⟨mg_n (by omega) (mg_n (by omega) (a1 j j0 j1).1), mg_n (by omega) (mg_n (by omega) (a1 j j0 j1).2)⟩

theorem FI_e {b m e : Int} {kd nm sg : Int → Int} {S : DS} {μ ν : Int → ME} (h : FI b m e kd nm sg S μ ν) (o : ME) (he : e < 14 := by omega) (hb : 14 ≤ b := by omega) : FI b m e kd nm sg S μ (mup ν e o) :=
  ⟨fun k k0 k1 => ⟨mg_n (by omega) (h.1 k k0 k1).1, mg_n (by omega) (h.1 k k0 k1).2⟩, fun x x0 x1 => mg_n x0 (h.2 x x0 x1)⟩
set_option maxHeartbeats 4000000 in
set_option maxRecDepth 100000 in
theorem k_X4_sailToldDays {K : KX} {d : Nat} {μ : Int → ME} {n : Int} {kd nm sg : Int → Int} {S : DS} {np ns day nr tr fl : Int} (h0 : μ 0 = oY np ns day nr tr fl) {rg : Int → Int} (hr : μ 1 = mA 6 rg) (hnp : np ≤ 6) (hns : 0 ≤ ns ∧ ns ≤ 5) (hT : μ 3 = mR 0 5 (fun k => some (16 + 4 * k))) (hS : FI 16 ns 4 kd nm sg S μ μ) (h4 : μ 4 = oT S.2.2.1 S.2.2.2.1 S.2.2.2.2) (hW : WS np ns S) (hN : WN ns kd nm sg) (hn : 0 ≤ n ∧ n ≤ 9) (hlp : 0 ≤ S.2.2.1 ∧ S.2.2.1 ≤ 10000) (hlw : 0 ≤ S.2.2.2.1 ∧ S.2.2.2.1 ≤ 40000) : Ct K (d + 3) yX4_sailToldDays cX4_sailToldDays 5 none [vR 0, vI n] μ (pV (fun μ' => FI 16 ns 4 kd nm sg (dyN np ns rg kd nm sg S n.toNat) μ μ' ∧ μ' 4 = oT (dyN np ns rg kd nm sg S n.toNat).2.2.1 (dyN np ns rg kd nm sg S n.toNat).2.2.2.1 (dyN np ns rg kd nm sg S n.toNat).2.2.2.2)) := by
  refine Ct.of (by decide) (Nat.le_of_ble_eq_true rfl) (fun X C => ?_)
  have LK0 : ∀ (i : Int) (SE : DS), 0 ≤ i → i ≤ 100 → (∀ ν : Int → ME, FI 16 ns 4 kd nm sg SE μ ν → ν 4 = oT SE.2.2.1 SE.2.2.2.1 SE.2.2.2.2 → PW K X 5 (QM K X (pV (fun μ' => FI 16 ns 4 kd nm sg (dyN np ns rg kd nm sg S n.toNat) μ μ' ∧ μ' 4 = oT (dyN np ns rg kd nm sg S n.toNat).2.2.1 (dyN np ns rg kd nm sg S n.toNat).2.2.2.1 (dyN np ns rg kd nm sg S n.toNat).2.2.2.2))) 2 [(2, vI (i + 1)), (0, vR 0), (1, vI n)] [] ν) → ∀ (S1 : DS) (ν : Int → ME), FI 16 ns 4 kd nm sg S1 μ ν → ν 4 = oT S1.2.2.1 S1.2.2.2.1 S1.2.2.2.2 → WS np ns S1 → (0 ≤ S1.2.2.1 ∧ S1.2.2.1 ≤ 90000) → (0 ≤ S1.2.2.2.1 ∧ S1.2.2.2.1 ≤ 390000) → shN np rg kd nm sg 0 S1 ns.toNat = SE → PW K X 5 (QM K X (pV (fun μ' => FI 16 ns 4 kd nm sg (dyN np ns rg kd nm sg S n.toNat) μ μ' ∧ μ' 4 = oT (dyN np ns rg kd nm sg S n.toNat).2.2.1 (dyN np ns rg kd nm sg S n.toNat).2.2.2.1 (dyN np ns rg kd nm sg S n.toNat).2.2.2.2))) 9 [(3, vI 0), (2, vI i), (0, vR 0), (1, vI n)] [] ν := by
    intro i SE hi0 hi1 kk
    have LK : ∀ (t : Nat) (k : Int) (S1 : DS) (ν : Int → ME), 0 ≤ k → ns - k = (t : Int) → FI 16 ns 4 kd nm sg S1 μ ν → ν 4 = oT S1.2.2.1 S1.2.2.2.1 S1.2.2.2.2 → WS np ns S1 → (0 ≤ S1.2.2.1 ∧ S1.2.2.1 ≤ 100000 - (t : Int)) → (0 ≤ S1.2.2.2.1 ∧ S1.2.2.2.1 ≤ 400000 - 4 * (t : Int)) → shN np rg kd nm sg k S1 t = SE → PW K X 5 (QM K X (pV (fun μ' => FI 16 ns 4 kd nm sg (dyN np ns rg kd nm sg S n.toNat) μ μ' ∧ μ' 4 = oT (dyN np ns rg kd nm sg S n.toNat).2.2.1 (dyN np ns rg kd nm sg S n.toNat).2.2.2.1 (dyN np ns rg kd nm sg S n.toNat).2.2.2.2))) 9 [(3, vI k), (2, vI i), (0, vR 0), (1, vI n)] [] ν := by
      intro t
      induction t with
      | zero =>
        intro k S1 ν h1 h2 h4 h5 h6 h7 h9 h8
        obtain ⟨a1, a2⟩ := id h4
        have u0 : ν 0 = oY np ns day nr tr fl := (a2 0 (by omega) (by omega)).trans h0
        have u1 : ν 1 = mA 6 rg := (a2 1 (by omega) (by omega)).trans hr
        have u3 : ν 3 = mR 0 5 (fun k => some (16 + 4 * k)) := (a2 3 (by omega) (by omega)).trans hT
        refine p_iload_n (pc := 9) C dX4_sailToldDays_9 rfl ?_
        refine p_aload_n (pc := 10) C dX4_sailToldDays_10 rfl ?_
        refine p_get (pc := 11) C fl_X4_86 dX4_sailToldDays_11 ⟨by omega, by omega⟩ (by (repeat refine mg_n (by omega) ?_); first | assumption | exact mup_s _ _ _) (by rfl) ?_
        refine p_icmp_ge (pc := 14) (tgt := 71) C dX4_sailToldDays_14 (by decide) (fun c_14 => ?_) (fun h => by exfalso; omega)
        refine p_iinc (pc := 71) (ls' := [(2, _), (3, _), (0, _), (1, _)]) C dX4_sailToldDays_71 (by decide) rfl ⟨by omega, by omega⟩ rfl ?_
        refine p_goto (pc := 74) (tgt := 2) C dX4_sailToldDays_74 (by decide) ?_
        refine p_pick [0, 2, 3] (ls' := [(2, _), (0, _), (1, _)]) rfl ?_
        exact kk ν (by rw [← h8]; exact h4) (by rw [← h8]; exact h5)
      | succ t ih =>
        intro k S1 ν h1 h2 h4 h5 h6 h7 h9 h8
        obtain ⟨a1, a2⟩ := id h4
        have u0 : ν 0 = oY np ns day nr tr fl := (a2 0 (by omega) (by omega)).trans h0
        have u1 : ν 1 = mA 6 rg := (a2 1 (by omega) (by omega)).trans hr
        have u3 : ν 3 = mR 0 5 (fun k => some (16 + 4 * k)) := (a2 3 (by omega) (by omega)).trans hT
        obtain ⟨s1, s2⟩ := a1 k h1 (by omega)
        obtain ⟨w1, w2⟩ := h6 k h1 (by omega)
        obtain ⟨w3, w4, w5⟩ := hN k h1 (by omega)
        have hg : dsG rg kd nm sg k S1 = -9 ∨ _ := sdG_r (rg := rg) (kd := kd k) (sg := sg k) (pt := S1.1 k) w2 w4
        have hct := ct_st (np := np) (rg := rg) (kd := kd) (sg := sg) w2 w4
        have hst := FI_st (np := np) (rg := rg) h4 (Or.inr rfl) hns.2 h1 (show k < ns by omega)
        generalize hge : dsG rg kd nm sg k S1 = g at hg hst
        have hge2 : sdG rg (S1.2.1 k) (kd k) (nm k) (sg k) (S1.1 k) = g := hge
        rw [shN] at h8
        refine p_iload_n (pc := 9) C dX4_sailToldDays_9 rfl ?_
        refine p_aload_n (pc := 10) C dX4_sailToldDays_10 rfl ?_
        refine p_get (pc := 11) C fl_X4_86 dX4_sailToldDays_11 ⟨by omega, by omega⟩ (by (repeat refine mg_n (by omega) ?_); first | assumption | exact mup_s _ _ _) (by rfl) ?_
        refine p_icmp_ge (pc := 14) (tgt := 71) C dX4_sailToldDays_14 (by decide) (fun h => by exfalso; omega) (fun c_14 => ?_)
        refine p_aload_n (pc := 17) C dX4_sailToldDays_17 rfl ?_
        refine p_aload_n (pc := 18) C dX4_sailToldDays_18 rfl ?_
        refine p_get (pc := 19) C fl_X4_21 dX4_sailToldDays_19 ⟨by omega, by omega⟩ (by (repeat refine mg_n (by omega) ?_); first | assumption | exact mup_s _ _ _) (by rfl) ?_
        refine p_iload_n (pc := 22) C dX4_sailToldDays_22 rfl ?_
        refine p_aald (pc := 23) C dX4_sailToldDays_23 ⟨by omega, by omega⟩ (by (repeat refine mg_n (by omega) ?_); first | assumption | exact mup_s _ _ _) (by decide) (by omega) (by rfl) ?_
        refine p_callVF (pc := 24) C ln_X4_133 dX4_sailToldDays_24 (k_X4_sailDay ⟨by omega, by omega⟩ s1 ⟨by omega, by omega⟩ s2 u0 u1 hnp (by omega) (by omega) (by omega) w1 w5 w4 w2) ⟨by omega, by omega⟩ (by (repeat refine mg_n (by omega) ?_); first | assumption | exact mup_s _ _ _) rfl rfl rfl rfl (Nat.le_of_ble_eq_true rfl) ?_
        refine p_top hge2 ?_
        refine p_istore (pc := 27) (ls' := [(4, _), (3, _), (2, _), (0, _), (1, _)]) C dX4_sailToldDays_27 (by decide) rfl ?_
        refine p_iload (pc := 29) C dX4_sailToldDays_29 rfl ?_
        refine p_bipush (pc := 31) C dX4_sailToldDays_31 (by decide) ?_
        refine p_icmp_eq (pc := 33) (tgt := 65) C dX4_sailToldDays_33 (by decide) (fun c_33 => ?_) (fun c_33 => ?_)
        · refine p_iinc (pc := 65) (ls' := [(3, _), (4, _), (2, _), (0, _), (1, _)]) C dX4_sailToldDays_65 (by decide) rfl ⟨by omega, by omega⟩ rfl ?_
          refine p_goto (pc := 68) (tgt := 9) C dX4_sailToldDays_68 (by decide) ?_
          refine p_pick [0, 2, 3, 4] (ls' := [(3, _), (2, _), (0, _), (1, _)]) rfl ?_
          first
            | (refine ih (k + 1) (stS np rg kd nm sg k S1) _ (by omega) (by omega) (hge2 ▸ hst) (by refine mg_n (by omega) (mg_n (by omega) ?_); rw [h5]; unfold stS; dsimp only; rw [hge, if_pos (by omega), if_pos (by omega), if_neg (by omega)]; simp only [Int.add_zero]) (WS_st h6 hN h1 (by omega)) ⟨by omega, by omega⟩ ⟨by omega, by omega⟩ h8)
            | (refine ih (k + 1) (stS np rg kd nm sg k S1) _ (by omega) (by omega) (FI_e (hge2 ▸ hst) _) ?_ (WS_st h6 hN h1 (by omega)) ⟨by omega, by omega⟩ ⟨by omega, by omega⟩ h8
               refine (mup_s _ _ _).trans ?_
               unfold stS
               dsimp only
               rw [hge, if_neg (show ¬ g = -9 by omega), if_neg (show ¬ g = -9 by omega)]
               exact congrArg (oT _ _) (by split <;> split <;> first | rfl | omega))
        · refine p_aload_n (pc := 36) C dX4_sailToldDays_36 rfl ?_
          refine p_get (pc := 37) C fl_X4_27 dX4_sailToldDays_37 ⟨by omega, by omega⟩ (by (repeat refine mg_n (by omega) ?_); first | assumption | exact mup_s _ _ _) (by rfl) ?_
          refine p_iload_n (pc := 40) C dX4_sailToldDays_40 rfl ?_
          refine p_iload (pc := 41) C dX4_sailToldDays_41 rfl ?_
          refine p_iload (pc := 43) C dX4_sailToldDays_43 rfl ?_
          refine p_aload_n (pc := 45) C dX4_sailToldDays_45 rfl ?_
          refine p_get (pc := 46) C fl_X4_21 dX4_sailToldDays_46 ⟨by omega, by omega⟩ (by (repeat refine mg_n (by omega) ?_); first | assumption | exact mup_s _ _ _) (by rfl) ?_
          refine p_iload_n (pc := 49) C dX4_sailToldDays_49 rfl ?_
          refine p_aald (pc := 50) C dX4_sailToldDays_50 ⟨by omega, by omega⟩ (by (repeat refine mg_n (by omega) ?_); first | assumption | exact mup_s _ _ _) (by decide) (by omega) (by rfl) ?_
          refine p_get (pc := 51) C fl_X4_95 dX4_sailToldDays_51 ⟨by omega, by omega⟩ (by (repeat refine mg_n (by omega) ?_); first | assumption | exact mup_s _ _ _) (by rfl) ?_
          refine p_icmp_ne (pc := 54) (tgt := 61) C dX4_sailToldDays_54 (by decide) (fun c_54 => ?_) (fun c_54 => ?_)
          · refine p_iconst (pc := 61) C dX4_sailToldDays_61 (by decide) ?_
            refine p_callVU (pc := 62) C ln_X4_316 dX4_sailToldDays_62 (k_X3_count ⟨by omega, by omega⟩ (by (repeat refine mg_n (by omega) ?_); first | assumption | exact mup_s _ _ _) (by omega) (by omega) (by omega)) ⟨by omega, by omega⟩ (by (repeat refine mg_n (by omega) ?_); first | assumption | exact mup_s _ _ _) rfl rfl rfl rfl (Nat.le_of_ble_eq_true rfl) ?_
            refine p_iinc (pc := 65) (ls' := [(3, _), (4, _), (2, _), (0, _), (1, _)]) C dX4_sailToldDays_65 (by decide) rfl ⟨by omega, by omega⟩ rfl ?_
            refine p_goto (pc := 68) (tgt := 9) C dX4_sailToldDays_68 (by decide) ?_
            refine p_pick [0, 2, 3, 4] (ls' := [(3, _), (2, _), (0, _), (1, _)]) rfl ?_
            first
              | (refine ih (k + 1) (stS np rg kd nm sg k S1) _ (by omega) (by omega) (hge2 ▸ hst) (by refine mg_n (by omega) (mg_n (by omega) ?_); rw [h5]; unfold stS; dsimp only; rw [hge, if_pos (by omega), if_pos (by omega), if_neg (by omega)]; simp only [Int.add_zero]) (WS_st h6 hN h1 (by omega)) ⟨by omega, by omega⟩ ⟨by omega, by omega⟩ h8)
              | (refine ih (k + 1) (stS np rg kd nm sg k S1) _ (by omega) (by omega) (FI_e (hge2 ▸ hst) _) ?_ (WS_st h6 hN h1 (by omega)) ⟨by omega, by omega⟩ ⟨by omega, by omega⟩ h8
                 refine (mup_s _ _ _).trans ?_
                 unfold stS
                 dsimp only
                 rw [hge, if_neg (show ¬ g = -9 by omega), if_neg (show ¬ g = -9 by omega)]
                 exact congrArg (oT _ _) (by split <;> split <;> first | rfl | omega))
          · refine p_iconst (pc := 57) C dX4_sailToldDays_57 (by decide) ?_
            refine p_goto (pc := 58) (tgt := 62) C dX4_sailToldDays_58 (by decide) ?_
            refine p_callVU (pc := 62) C ln_X4_316 dX4_sailToldDays_62 (k_X3_count ⟨by omega, by omega⟩ (by (repeat refine mg_n (by omega) ?_); first | assumption | exact mup_s _ _ _) (by omega) (by omega) (by omega)) ⟨by omega, by omega⟩ (by (repeat refine mg_n (by omega) ?_); first | assumption | exact mup_s _ _ _) rfl rfl rfl rfl (Nat.le_of_ble_eq_true rfl) ?_
            refine p_iinc (pc := 65) (ls' := [(3, _), (4, _), (2, _), (0, _), (1, _)]) C dX4_sailToldDays_65 (by decide) rfl ⟨by omega, by omega⟩ rfl ?_
            refine p_goto (pc := 68) (tgt := 9) C dX4_sailToldDays_68 (by decide) ?_
            refine p_pick [0, 2, 3, 4] (ls' := [(3, _), (2, _), (0, _), (1, _)]) rfl ?_
            first
              | (refine ih (k + 1) (stS np rg kd nm sg k S1) _ (by omega) (by omega) (hge2 ▸ hst) (by refine mg_n (by omega) (mg_n (by omega) ?_); rw [h5]; unfold stS; dsimp only; rw [hge, if_pos (by omega), if_pos (by omega), if_neg (by omega)]; simp only [Int.add_zero]) (WS_st h6 hN h1 (by omega)) ⟨by omega, by omega⟩ ⟨by omega, by omega⟩ h8)
              | (refine ih (k + 1) (stS np rg kd nm sg k S1) _ (by omega) (by omega) (FI_e (hge2 ▸ hst) _) ?_ (WS_st h6 hN h1 (by omega)) ⟨by omega, by omega⟩ ⟨by omega, by omega⟩ h8
                 refine (mup_s _ _ _).trans ?_
                 unfold stS
                 dsimp only
                 rw [hge, if_neg (show ¬ g = -9 by omega), if_neg (show ¬ g = -9 by omega)]
                 exact congrArg (oT _ _) (by split <;> split <;> first | rfl | omega))
    intro S1 ν h4 h5 h6 h7 h9 h8
    exact LK ns.toNat 0 S1 ν (by omega) (by omega) h4 h5 h6 (by omega) (by omega) h8
  have L : ∀ (t : Nat) (i : Int) (S1 : DS) (ν : Int → ME), 0 ≤ i → n - i = (t : Int) → FI 16 ns 4 kd nm sg S1 μ ν → ν 4 = oT S1.2.2.1 S1.2.2.2.1 S1.2.2.2.2 → WS np ns S1 → (0 ≤ S1.2.2.1 ∧ S1.2.2.1 ≤ 80000 - 5 * (t : Int)) → (0 ≤ S1.2.2.2.1 ∧ S1.2.2.2.1 ≤ 380000 - 20 * (t : Int)) → dyN np ns rg kd nm sg S1 t = dyN np ns rg kd nm sg S n.toNat → PW K X 5 (QM K X (pV (fun μ' => FI 16 ns 4 kd nm sg (dyN np ns rg kd nm sg S n.toNat) μ μ' ∧ μ' 4 = oT (dyN np ns rg kd nm sg S n.toNat).2.2.1 (dyN np ns rg kd nm sg S n.toNat).2.2.2.1 (dyN np ns rg kd nm sg S n.toNat).2.2.2.2))) 2 [(2, vI i), (0, vR 0), (1, vI n)] [] ν := by
    intro t
    induction t with
    | zero =>
      intro i S1 ν h1 h2 h4 h5 h6 h7 h9 h8
      refine p_iload_n (pc := 2) C dX4_sailToldDays_2 rfl ?_
      refine p_iload_n (pc := 3) C dX4_sailToldDays_3 rfl ?_
      refine p_icmp_ge (pc := 4) (tgt := 77) C dX4_sailToldDays_4 (by decide) (fun c_4 => ?_) (fun h => by exfalso; omega)
      refine p_vret (pc := 77) C dX4_sailToldDays_77 ?_
      exact ⟨rfl, by rw [← h8]; exact h4, by rw [← h8]; exact h5⟩
    | succ t ih =>
      intro i S1 ν h1 h2 h4 h5 h6 h7 h9 h8
      rw [dyN] at h8
      obtain ⟨b1, b2, b3⟩ := WS_sh (np := np) (rg := rg) hN ns.toNat 0 S1 (by omega) (by omega) h6
      refine p_iload_n (pc := 2) C dX4_sailToldDays_2 rfl ?_
      refine p_iload_n (pc := 3) C dX4_sailToldDays_3 rfl ?_
      refine p_icmp_ge (pc := 4) (tgt := 77) C dX4_sailToldDays_4 (by decide) (fun h => by exfalso; omega) (fun c_4 => ?_)
      refine p_iconst (pc := 7) C dX4_sailToldDays_7 (by decide) ?_
      refine p_istore_n (pc := 8) (ls' := [(3, _), (2, _), (0, _), (1, _)]) C dX4_sailToldDays_8 (by decide) rfl ?_
      exact LK0 i _ h1 (by omega) (fun ν2 g4 g5 => ih (i + 1) _ ν2 (by omega) (by omega) g4 g5 b1 (by omega) (by omega) h8) S1 ν h4 h5 h6 (by omega) (by omega) rfl
  refine p_iconst (pc := 0) C dX4_sailToldDays_0 (by decide) ?_
  refine p_istore_n (pc := 1) (ls' := [(2, _), (0, _), (1, _)]) C dX4_sailToldDays_1 (by decide) rfl ?_
  exact L n.toNat 0 S μ (by omega) (by omega) hS h4 hW (by omega) (by omega) rfl
