/-- the reference in a voyage -/
def MI (fl tr np ns day at_ rP rS sL sF nr : Int) (S : DS) (μ ν : Int → ME) : Prop := ν 42 = oM fl tr np ns day at_ rP rS S.2.2.1 S.2.2.2.1 S.2.2.2.2 sL sF nr ∧ (∃ pf cf : Int → Int, ν 50 = mA 5 pf ∧ ν 51 = mA 20 cf ∧ MR ns S pf cf) ∧ (∀ x, x ≠ 42 → x ≠ 50 → x ≠ 51 → ν x = μ x)
theorem MB_o {rg kd nm sg : Int → Int} {np ns : Int} {μ ν : Int → ME} (h : MB rg kd nm sg np ns μ) (ho : ∀ x, x ≠ 42 → x ≠ 50 → x ≠ 51 → ν x = μ x) : MB rg kd nm sg np ns ν := by
  unfold MB
  rw [ho 46 (by omega) (by omega) (by omega), ho 47 (by omega) (by omega) (by omega), ho 48 (by omega) (by omega) (by omega), ho 49 (by omega) (by omega) (by omega)]
  exact h
def doS (np ns : Int) (rg kd nm sg : Int → Int) (S : DS) (a act : Int) : DS := if act = 8 then dyN np ns rg kd nm sg S a.toNat else if 0 ≤ actV (S.2.1 a) act ∧ actV (S.2.1 a) act ≤ 9 then (S.1, cup S.2.1 a (fup (S.2.1 a) (actG act) (actV (S.2.1 a) act)), S.2.2) else S
theorem MR_act {ns : Int} {S : DS} {pf cf : Int → Int} {a g v : Int} (h : MR ns S pf cf) (hg : 0 ≤ g ∧ g < 4) : MR ns (S.1, cup S.2.1 a (fup (S.2.1 a) g v), S.2.2) pf (fup cf (4 * a + g) v) := by
  intro j j0 j1
  obtain ⟨a1, a2⟩ := h j j0 j1
  refine ⟨a1, fun x x0 x1 => ?_⟩
  dsimp only
  by_cases e : j = a
  · subst e
    rw [cup_s]
    by_cases ex : x = g
    · subst ex; rw [fup_s, fup_s]
    · rw [fup_n _ _ _ (by omega), fup_n _ _ _ ex]; exact a2 x x0 x1
  · rw [cup_n _ _ e, fup_n _ _ _ (by omega)]; exact a2 x x0 x1

set_option maxHeartbeats 4000000 in
set_option maxRecDepth 100000 in
theorem k_X5_does {K : KX} {d : Nat} {μ : Int → ME} {a act : Int} {S : DS} {μ0 : Int → ME} {fl tr np ns day at_ rP rS sL sF nr : Int} {rg kd nm sg : Int → Int} (hI : MI fl tr np ns day at_ rP rS sL sF nr S μ0 μ) (hnp : np ≤ 6) (hns : 0 ≤ ns ∧ ns ≤ 5) (hB : MB rg kd nm sg np ns μ0) (hW : WS np ns S) (hN : WN ns kd nm sg) (h1 : 0 ≤ act ∧ act ≤ 8) (h2 : act = 8 → 0 ≤ a ∧ a ≤ 9) (h3 : act ≠ 8 → 0 ≤ a ∧ a < ns) (hlp : 0 ≤ S.2.2.1 ∧ S.2.2.1 ≤ 10000) (hlw : 0 ≤ S.2.2.2.1 ∧ S.2.2.2.1 ≤ 40000) : Ct K (d + 3) yX5_does cX5_does 5 (some .boolean) [vR 42, vI a, vI act] μ (pE (vI (if act = 8 ∨ (0 ≤ actV (S.2.1 a) act ∧ actV (S.2.1 a) act ≤ 9) then 1 else 0)) (fun μ' => MI fl tr np ns day at_ rP rS sL sF nr (doS np ns rg kd nm sg S a act) μ0 μ')) := by
  refine Ct.of (by decide) (Nat.le_of_ble_eq_true rfl) (fun X C => ?_)
  by_cases e8 : act = 8
  · subst e8
    have hds : doS np ns rg kd nm sg S a 8 = dyN np ns rg kd nm sg S a.toNat := if_pos rfl
    rw [hds]
    have LK0 : ∀ (i : Int) (SE : DS), 0 ≤ i → i ≤ 100 → (∀ ν : Int → ME, MI fl tr np ns day at_ rP rS sL sF nr SE μ0 ν → PW K X 5 (QM K X (pE (vI (if (8 : Int) = 8 ∨ (0 ≤ actV (S.2.1 a) 8 ∧ actV (S.2.1 a) 8 ≤ 9) then 1 else 0)) (fun μ' => MI fl tr np ns day at_ rP rS sL sF nr (dyN np ns rg kd nm sg S a.toNat) μ0 μ'))) 8 [(3, vI (i + 1)), (0, vR 42), (1, vI a), (2, vI 8)] [] ν) → ∀ (S1 : DS) (ν : Int → ME), MI fl tr np ns day at_ rP rS sL sF nr S1 μ0 ν → WS np ns S1 → (0 ≤ S1.2.2.1 ∧ S1.2.2.1 ≤ 90000) → (0 ≤ S1.2.2.2.1 ∧ S1.2.2.2.1 ≤ 390000) → shN np rg kd nm sg 0 S1 ns.toNat = SE → PW K X 5 (QM K X (pE (vI (if (8 : Int) = 8 ∨ (0 ≤ actV (S.2.1 a) 8 ∧ actV (S.2.1 a) 8 ≤ 9) then 1 else 0)) (fun μ' => MI fl tr np ns day at_ rP rS sL sF nr (dyN np ns rg kd nm sg S a.toNat) μ0 μ'))) 16 [(4, vI 0), (3, vI i), (0, vR 42), (1, vI a), (2, vI 8)] [] ν := by
      intro i SE hi0 hi1 kk
      have LK : ∀ (t : Nat) (k : Int) (S1 : DS) (ν : Int → ME), 0 ≤ k → ns - k = (t : Int) → MI fl tr np ns day at_ rP rS sL sF nr S1 μ0 ν → WS np ns S1 → (0 ≤ S1.2.2.1 ∧ S1.2.2.1 ≤ 100000 - (t : Int)) → (0 ≤ S1.2.2.2.1 ∧ S1.2.2.2.1 ≤ 400000 - 4 * (t : Int)) → shN np rg kd nm sg k S1 t = SE → PW K X 5 (QM K X (pE (vI (if (8 : Int) = 8 ∨ (0 ≤ actV (S.2.1 a) 8 ∧ actV (S.2.1 a) 8 ≤ 9) then 1 else 0)) (fun μ' => MI fl tr np ns day at_ rP rS sL sF nr (dyN np ns rg kd nm sg S a.toNat) μ0 μ'))) 16 [(4, vI k), (3, vI i), (0, vR 42), (1, vI a), (2, vI 8)] [] ν := by
        intro t
        induction t with
        | zero =>
          intro k S1 ν g1 g2 g4 g5 g6 g7 g8
          obtain ⟨u0, ⟨pf, cf, uP, uC, uR⟩, uo⟩ := id g4
          have uB := MB_o hB uo
          obtain ⟨⟨rgf, B1, C1⟩, ⟨kf, B2, C2⟩, ⟨nf, B3, C3⟩, ⟨sf, B4, C4⟩⟩ := id uB
          refine p_iload (pc := 16) C dX5_does_16 rfl ?_
          refine p_aload_n (pc := 18) C dX5_does_18 rfl ?_
          refine p_get (pc := 19) C fl_X5_71 dX5_does_19 ⟨by omega, by omega⟩ (by (repeat refine mg_n (by omega) ?_); first | assumption | exact mup_s _ _ _) (by rfl) ?_
          refine p_icmp_ge (pc := 22) (tgt := 43) C dX5_does_22 (by decide) (fun c_22 => ?_) (fun h => by exfalso; omega)
          refine p_iinc (pc := 43) (ls' := [(3, _), (4, _), (0, _), (1, _), (2, _)]) C dX5_does_43 (by decide) rfl ⟨by omega, by omega⟩ rfl ?_
          refine p_goto (pc := 46) (tgt := 8) C dX5_does_46 (by decide) ?_
          refine p_pick [0, 2, 3, 4] (ls' := [(3, _), (0, _), (1, _), (2, _)]) rfl ?_
          exact kk ν (by rw [← g8]; exact g4)
        | succ t ih =>
          intro k S1 ν g1 g2 g4 g5 g6 g7 g8
          obtain ⟨u0, ⟨pf, cf, uP, uC, uR⟩, uo⟩ := id g4
          have uB := MB_o hB uo
          obtain ⟨⟨rgf, B1, C1⟩, ⟨kf, B2, C2⟩, ⟨nf, B3, C3⟩, ⟨sf, B4, C4⟩⟩ := id uB
          rw [shN] at g8
          have hgr : dsG rg kd nm sg k S1 = -9 ∨ (0 ≤ dsG rg kd nm sg k S1 ∧ dsG rg kd nm sg k S1 < 4) := (sdG_r (rg := rg) (kd := kd k) (sg := sg k) (pt := S1.1 k) (g5 k (by omega) (by omega)).2 (hN k (by omega) (by omega)).2.1).elim Or.inl (fun h => Or.inr h.1)
          have hct := ct_st (np := np) (rg := rg) (kd := kd) (sg := sg) (g5 k (by omega) (by omega)).2 (hN k (by omega) (by omega)).2.1
          refine p_iload (pc := 16) C dX5_does_16 rfl ?_
          refine p_aload_n (pc := 18) C dX5_does_18 rfl ?_
          refine p_get (pc := 19) C fl_X5_71 dX5_does_19 ⟨by omega, by omega⟩ (by (repeat refine mg_n (by omega) ?_); first | assumption | exact mup_s _ _ _) (by rfl) ?_
          refine p_icmp_ge (pc := 22) (tgt := 43) C dX5_does_22 (by decide) (fun h => by exfalso; omega) (fun c_22 => ?_)
          refine p_aload_n (pc := 25) C dX5_does_25 rfl ?_
          refine p_iload (pc := 26) C dX5_does_26 rfl ?_
          refine p_aload_n (pc := 28) C dX5_does_28 rfl ?_
          refine p_iload (pc := 29) C dX5_does_29 rfl ?_
          refine p_callVI (pc := 31) C ln_X5_154 dX5_does_31 (k_X5_goesOn (S := S1) u0 hnp hns uB (by omega) uC uP uR g5 hN) ⟨by omega, by omega⟩ (by (repeat refine mg_n (by omega) ?_); first | assumption | exact mup_s _ _ _) rfl rfl rfl rfl (Nat.le_of_ble_eq_true rfl) (fun z μ' hpost => ?_)
          obtain ⟨hz, pf', cf', rfl, hmr⟩ := hpost
          subst hz
          refine p_callVU (pc := 34) C ln_X5_166 dX5_does_34 (k_X5_noteLoss (nk := nm k) (by (repeat refine mg_n (by omega) ?_); first | assumption | exact mup_s _ _ _) (by (repeat refine mg_n (by omega) ?_); first | assumption | exact mup_s _ _ _) (C3 k (by omega) (by omega)) (by omega) hgr (by omega) (by omega)) ⟨by omega, by omega⟩ (by (repeat refine mg_n (by omega) ?_); first | assumption | exact mup_s _ _ _) rfl rfl rfl rfl (Nat.le_of_ble_eq_true rfl) ?_
          refine p_iinc (pc := 37) (ls' := [(4, _), (3, _), (0, _), (1, _), (2, _)]) C dX5_does_37 (by decide) rfl ⟨by omega, by omega⟩ rfl ?_
          refine p_goto (pc := 40) (tgt := 16) C dX5_does_40 (by decide) ?_
          exact ih (k + 1) (stS np rg kd nm sg k S1) _ (by omega) (by omega) ⟨mup_s _ _ _, ⟨pf', cf', mg_n (by omega) (mup_s _ _ _), mg_n (by omega) (mg_n (by omega) (mup_s _ _ _)), hmr⟩, fun x x0 x1 x2 => mg_n x0 (mg_n x1 (mg_n x2 (uo x x0 x1 x2)))⟩ (WS_st g5 hN (by omega) (by omega)) (by omega) (by omega) g8
      intro S1 ν g4 g5 g6 g7 g8
      exact LK ns.toNat 0 S1 ν (by omega) (by omega) g4 g5 (by omega) (by omega) g8
    have L : ∀ (t : Nat) (i : Int) (S1 : DS) (ν : Int → ME), 0 ≤ i → a - i = (t : Int) → MI fl tr np ns day at_ rP rS sL sF nr S1 μ0 ν → WS np ns S1 → (0 ≤ S1.2.2.1 ∧ S1.2.2.1 ≤ 80000 - 5 * (t : Int)) → (0 ≤ S1.2.2.2.1 ∧ S1.2.2.2.1 ≤ 380000 - 20 * (t : Int)) → dyN np ns rg kd nm sg S1 t = dyN np ns rg kd nm sg S a.toNat → PW K X 5 (QM K X (pE (vI (if (8 : Int) = 8 ∨ (0 ≤ actV (S.2.1 a) 8 ∧ actV (S.2.1 a) 8 ≤ 9) then 1 else 0)) (fun μ' => MI fl tr np ns day at_ rP rS sL sF nr (dyN np ns rg kd nm sg S a.toNat) μ0 μ'))) 8 [(3, vI i), (0, vR 42), (1, vI a), (2, vI 8)] [] ν := by
      intro t
      induction t with
      | zero =>
        intro i S1 ν g1 g2 g4 g5 g6 g7 g8
        refine p_iload_n (pc := 8) C dX5_does_8 rfl ?_
        refine p_iload_n (pc := 9) C dX5_does_9 rfl ?_
        refine p_icmp_ge (pc := 10) (tgt := 49) C dX5_does_10 (by decide) (fun c_10 => ?_) (fun h => by exfalso; omega)
        refine p_iconst (pc := 49) C dX5_does_49 (by decide) ?_
        refine p_zret (pc := 50) C dX5_does_50 (by first | exact Or.inl rfl | exact Or.inr rfl | (split <;> simp)) ?_
        exact ⟨by rw [if_pos (Or.inl rfl)], by rw [← g8]; exact g4⟩
      | succ t ih =>
        intro i S1 ν g1 g2 g4 g5 g6 g7 g8
        rw [dyN] at g8
        obtain ⟨b1, b2, b3⟩ := WS_sh (np := np) (rg := rg) hN ns.toNat 0 S1 (by omega) (by omega) g5
        refine p_iload_n (pc := 8) C dX5_does_8 rfl ?_
        refine p_iload_n (pc := 9) C dX5_does_9 rfl ?_
        refine p_icmp_ge (pc := 10) (tgt := 49) C dX5_does_10 (by decide) (fun h => by exfalso; omega) (fun c_10 => ?_)
        refine p_iconst (pc := 13) C dX5_does_13 (by decide) ?_
        refine p_istore (pc := 14) (ls' := [(4, _), (3, _), (0, _), (1, _), (2, _)]) C dX5_does_14 (by decide) rfl ?_
        exact LK0 i _ g1 (by omega) (fun ν2 h4 => ih (i + 1) _ ν2 (by omega) (by omega) h4 b1 (by omega) (by omega) g8) S1 ν g4 g5 (by omega) (by omega) rfl
    refine p_iload_n (pc := 0) C dX5_does_0 rfl ?_
    refine p_bipush (pc := 1) C dX5_does_1 (by decide) ?_
    refine p_icmp_ne (pc := 3) (tgt := 51) C dX5_does_3 (by decide) (fun h => by exfalso; omega) (fun c_3 => ?_)
    refine p_iconst (pc := 6) C dX5_does_6 (by decide) ?_
    refine p_istore_n (pc := 7) (ls' := [(3, _), (0, _), (1, _), (2, _)]) C dX5_does_7 (by decide) rfl ?_
    exact L a.toNat 0 S μ (by omega) (by omega) hI hW (by omega) (by omega) rfl
  · obtain ⟨u0, ⟨pf, cf, uP, uC, uR⟩, uo⟩ := id hI
    have hra := uR a (by omega) (by omega)
    have hwa := (hW a (by omega) (by omega)).2
    by_cases e : act < 4
    · have eG : actG act = act := by unfold actG; rw [if_pos e]
      have q := hra.2 act (by omega) (by omega)
      have bb := hwa.at (g := act) (by omega) (by omega)
      have eV : actV (S.2.1 a) act = cf (4 * a + act) + 1 := by unfold actV; rw [eG, if_pos e, q]
      refine p_iload_n (pc := 0) C dX5_does_0 rfl ?_
      refine p_bipush (pc := 1) C dX5_does_1 (by decide) ?_
      refine p_icmp_ne (pc := 3) (tgt := 51) C dX5_does_3 (by decide) (fun c_3 => ?_) (fun h => by exfalso; omega)
      refine p_iload_n (pc := 51) C dX5_does_51 rfl ?_
      refine p_iconst (pc := 52) C dX5_does_52 (by decide) ?_
      refine p_icmp_ge (pc := 53) (tgt := 60) C dX5_does_53 (by decide) (fun h => by exfalso; omega) (fun c_53 => ?_)
      refine p_iconst (pc := 56) C dX5_does_56 (by decide) ?_
      refine p_goto (pc := 57) (tgt := 61) C dX5_does_57 (by decide) ?_
      refine p_istore_n (pc := 61) (ls' := [(3, _), (0, _), (1, _), (2, _)]) C dX5_does_61 (by decide) rfl ?_
      refine p_iconst (pc := 62) C dX5_does_62 (by decide) ?_
      refine p_iload_n (pc := 63) C dX5_does_63 rfl ?_
      refine p_imul (pc := 64) C dX5_does_64 ⟨by omega, by omega⟩ ?_
      refine p_iload_n (pc := 65) C dX5_does_65 rfl ?_
      refine p_if_eq (pc := 66) (tgt := 73) C dX5_does_66 (by decide) (fun h => absurd h (by decide)) (fun c_66 => ?_)
      refine p_iload_n (pc := 69) C dX5_does_69 rfl ?_
      refine p_goto (pc := 70) (tgt := 76) C dX5_does_70 (by decide) ?_
      refine p_iadd (pc := 76) C dX5_does_76 ⟨by omega, by omega⟩ ?_
      refine p_istore (pc := 77) (ls' := [(4, _), (3, _), (0, _), (1, _), (2, _)]) C dX5_does_77 (by decide) rfl ?_
      refine p_iload_n (pc := 79) C dX5_does_79 rfl ?_
      refine p_if_eq (pc := 80) (tgt := 95) C dX5_does_80 (by decide) (fun h => absurd h (by decide)) (fun c_80 => ?_)
      refine p_aload_n (pc := 83) C dX5_does_83 rfl ?_
      refine p_get (pc := 84) C fl_X5_34 dX5_does_84 ⟨by omega, by omega⟩ (by (repeat refine mg_n (by omega) ?_); first | assumption | exact mup_s _ _ _) (by rfl) ?_
      refine p_iload (pc := 87) C dX5_does_87 rfl ?_
      refine p_iald (pc := 89) C dX5_does_89 ⟨by omega, by omega⟩ (by (repeat refine mg_n (by omega) ?_); first | assumption | exact mup_s _ _ _) (by omega) ?_
      refine p_bipush (pc := 90) C dX5_does_90 (by decide) ?_
      refine p_icmp_eq (pc := 92) (tgt := 109) C dX5_does_92 (by decide) (fun c_92 => ?_) (fun c_92 => ?_)
      · refine p_iconst (pc := 109) C dX5_does_109 (by decide) ?_
        refine p_zret (pc := 110) C dX5_does_110 (by first | exact Or.inl rfl | exact Or.inr rfl | (split <;> simp)) ?_
        first
          | (exfalso; omega)
          | (refine ⟨by rw [if_pos (by omega)], ?_⟩; rw [show doS np ns rg kd nm sg S a act = _ from (if_neg e8).trans (if_pos (by omega)), eG, eV]; exact ⟨mg_n (by omega) u0, ⟨pf, _, mg_n (by omega) uP, mup_s _ _ _, MR_act uR (by omega)⟩, fun x x0 x1 x2 => mg_n x2 (uo x x0 x1 x2)⟩)
          | (refine ⟨by rw [if_neg (by omega)], ?_⟩; rw [show doS np ns rg kd nm sg S a act = _ from (if_neg e8).trans (if_neg (by omega))]; exact hI)
      · refine p_iload_n (pc := 95) C dX5_does_95 rfl ?_
        refine p_if_ne (pc := 96) (tgt := 111) C dX5_does_96 (by decide) (fun c_96 => ?_) (fun h => absurd h (by decide))
        refine p_aload_n (pc := 111) C dX5_does_111 rfl ?_
        refine p_get (pc := 112) C fl_X5_34 dX5_does_112 ⟨by omega, by omega⟩ (by (repeat refine mg_n (by omega) ?_); first | assumption | exact mup_s _ _ _) (by rfl) ?_
        refine p_iload (pc := 115) C dX5_does_115 rfl ?_
        refine p_dup2 (pc := 117) C dX5_does_117 rfl rfl ?_
        refine p_iald (pc := 118) C dX5_does_118 ⟨by omega, by omega⟩ (by (repeat refine mg_n (by omega) ?_); first | assumption | exact mup_s _ _ _) (by omega) ?_
        refine p_iload_n (pc := 119) C dX5_does_119 rfl ?_
        refine p_if_eq (pc := 120) (tgt := 127) C dX5_does_120 (by decide) (fun h => absurd h (by decide)) (fun c_120 => ?_)
        refine p_iconst (pc := 123) C dX5_does_123 (by decide) ?_
        refine p_goto (pc := 124) (tgt := 128) C dX5_does_124 (by decide) ?_
        refine p_iadd (pc := 128) C dX5_does_128 ⟨by omega, by omega⟩ ?_
        refine p_iast (pc := 129) C dX5_does_129 ⟨by omega, by omega⟩ (by (repeat refine mg_n (by omega) ?_); first | assumption | exact mup_s _ _ _) (by omega) ?_
        try refine p_mem (mup_mup _ _ _ _) ?_
        refine p_iconst (pc := 130) C dX5_does_130 (by decide) ?_
        refine p_zret (pc := 131) C dX5_does_131 (by first | exact Or.inl rfl | exact Or.inr rfl | (split <;> simp)) ?_
        first
          | (exfalso; omega)
          | (refine ⟨by rw [if_pos (by omega)], ?_⟩; rw [show doS np ns rg kd nm sg S a act = _ from (if_neg e8).trans (if_pos (by omega)), eG, eV]; exact ⟨mg_n (by omega) u0, ⟨pf, _, mg_n (by omega) uP, mup_s _ _ _, MR_act uR (by omega)⟩, fun x x0 x1 x2 => mg_n x2 (uo x x0 x1 x2)⟩)
          | (refine ⟨by rw [if_neg (by omega)], ?_⟩; rw [show doS np ns rg kd nm sg S a act = _ from (if_neg e8).trans (if_neg (by omega))]; exact hI)
    · have eG : actG act = act - 4 := by unfold actG; rw [if_neg e]
      have q := hra.2 (act - 4) (by omega) (by omega)
      have bb := hwa.at (g := act - 4) (by omega) (by omega)
      have eV : actV (S.2.1 a) act = cf (4 * a + (act - 4)) + -1 := by unfold actV; rw [eG, if_neg e, q]
      refine p_iload_n (pc := 0) C dX5_does_0 rfl ?_
      refine p_bipush (pc := 1) C dX5_does_1 (by decide) ?_
      refine p_icmp_ne (pc := 3) (tgt := 51) C dX5_does_3 (by decide) (fun c_3 => ?_) (fun h => by exfalso; omega)
      refine p_iload_n (pc := 51) C dX5_does_51 rfl ?_
      refine p_iconst (pc := 52) C dX5_does_52 (by decide) ?_
      refine p_icmp_ge (pc := 53) (tgt := 60) C dX5_does_53 (by decide) (fun c_53 => ?_) (fun h => by exfalso; omega)
      refine p_iconst (pc := 60) C dX5_does_60 (by decide) ?_
      refine p_istore_n (pc := 61) (ls' := [(3, _), (0, _), (1, _), (2, _)]) C dX5_does_61 (by decide) rfl ?_
      refine p_iconst (pc := 62) C dX5_does_62 (by decide) ?_
      refine p_iload_n (pc := 63) C dX5_does_63 rfl ?_
      refine p_imul (pc := 64) C dX5_does_64 ⟨by omega, by omega⟩ ?_
      refine p_iload_n (pc := 65) C dX5_does_65 rfl ?_
      refine p_if_eq (pc := 66) (tgt := 73) C dX5_does_66 (by decide) (fun c_66 => ?_) (fun h => absurd h (by decide))
      refine p_iload_n (pc := 73) C dX5_does_73 rfl ?_
      refine p_iconst (pc := 74) C dX5_does_74 (by decide) ?_
      refine p_isub (pc := 75) C dX5_does_75 ⟨by omega, by omega⟩ ?_
      refine p_iadd (pc := 76) C dX5_does_76 ⟨by omega, by omega⟩ ?_
      refine p_istore (pc := 77) (ls' := [(4, _), (3, _), (0, _), (1, _), (2, _)]) C dX5_does_77 (by decide) rfl ?_
      refine p_iload_n (pc := 79) C dX5_does_79 rfl ?_
      refine p_if_eq (pc := 80) (tgt := 95) C dX5_does_80 (by decide) (fun c_80 => ?_) (fun h => absurd h (by decide))
      refine p_iload_n (pc := 95) C dX5_does_95 rfl ?_
      refine p_if_ne (pc := 96) (tgt := 111) C dX5_does_96 (by decide) (fun h => absurd h (by decide)) (fun c_96 => ?_)
      refine p_aload_n (pc := 99) C dX5_does_99 rfl ?_
      refine p_get (pc := 100) C fl_X5_34 dX5_does_100 ⟨by omega, by omega⟩ (by (repeat refine mg_n (by omega) ?_); first | assumption | exact mup_s _ _ _) (by rfl) ?_
      refine p_iload (pc := 103) C dX5_does_103 rfl ?_
      refine p_iald (pc := 105) C dX5_does_105 ⟨by omega, by omega⟩ (by (repeat refine mg_n (by omega) ?_); first | assumption | exact mup_s _ _ _) (by omega) ?_
      refine p_if_ne (pc := 106) (tgt := 111) C dX5_does_106 (by decide) (fun c_106 => ?_) (fun c_106 => ?_)
      · refine p_aload_n (pc := 111) C dX5_does_111 rfl ?_
        refine p_get (pc := 112) C fl_X5_34 dX5_does_112 ⟨by omega, by omega⟩ (by (repeat refine mg_n (by omega) ?_); first | assumption | exact mup_s _ _ _) (by rfl) ?_
        refine p_iload (pc := 115) C dX5_does_115 rfl ?_
        refine p_dup2 (pc := 117) C dX5_does_117 rfl rfl ?_
        refine p_iald (pc := 118) C dX5_does_118 ⟨by omega, by omega⟩ (by (repeat refine mg_n (by omega) ?_); first | assumption | exact mup_s _ _ _) (by omega) ?_
        refine p_iload_n (pc := 119) C dX5_does_119 rfl ?_
        refine p_if_eq (pc := 120) (tgt := 127) C dX5_does_120 (by decide) (fun c_120 => ?_) (fun h => absurd h (by decide))
        refine p_iconst (pc := 127) C dX5_does_127 (by decide) ?_
        refine p_iadd (pc := 128) C dX5_does_128 ⟨by omega, by omega⟩ ?_
        refine p_iast (pc := 129) C dX5_does_129 ⟨by omega, by omega⟩ (by (repeat refine mg_n (by omega) ?_); first | assumption | exact mup_s _ _ _) (by omega) ?_
        try refine p_mem (mup_mup _ _ _ _) ?_
        refine p_iconst (pc := 130) C dX5_does_130 (by decide) ?_
        refine p_zret (pc := 131) C dX5_does_131 (by first | exact Or.inl rfl | exact Or.inr rfl | (split <;> simp)) ?_
        first
          | (exfalso; omega)
          | (refine ⟨by rw [if_pos (by omega)], ?_⟩; rw [show doS np ns rg kd nm sg S a act = _ from (if_neg e8).trans (if_pos (by omega)), eG, eV]; exact ⟨mg_n (by omega) u0, ⟨pf, _, mg_n (by omega) uP, mup_s _ _ _, MR_act uR (by omega)⟩, fun x x0 x1 x2 => mg_n x2 (uo x x0 x1 x2)⟩)
          | (refine ⟨by rw [if_neg (by omega)], ?_⟩; rw [show doS np ns rg kd nm sg S a act = _ from (if_neg e8).trans (if_neg (by omega))]; exact hI)
      · refine p_iconst (pc := 109) C dX5_does_109 (by decide) ?_
        refine p_zret (pc := 110) C dX5_does_110 (by first | exact Or.inl rfl | exact Or.inr rfl | (split <;> simp)) ?_
        first
          | (exfalso; omega)
          | (refine ⟨by rw [if_pos (by omega)], ?_⟩; rw [show doS np ns rg kd nm sg S a act = _ from (if_neg e8).trans (if_pos (by omega)), eG, eV]; exact ⟨mg_n (by omega) u0, ⟨pf, _, mg_n (by omega) uP, mup_s _ _ _, MR_act uR (by omega)⟩, fun x x0 x1 x2 => mg_n x2 (uo x x0 x1 x2)⟩)
          | (refine ⟨by rw [if_neg (by omega)], ?_⟩; rw [show doS np ns rg kd nm sg S a act = _ from (if_neg e8).trans (if_neg (by omega))]; exact hI)

theorem vyN_s {F : Int → Int} {fr np ns : Int} {rg kd nm sg : Int → Int} {i : Int} {S : DS} {t : Nat} : vyN F fr np ns rg kd nm sg i S (t + 1) = if F (fr + 2 * i + 1) = 8 ∨ (0 ≤ actV (S.2.1 (F (fr + 2 * i))) (F (fr + 2 * i + 1)) ∧ actV (S.2.1 (F (fr + 2 * i))) (F (fr + 2 * i + 1)) ≤ 9) then vyN F fr np ns rg kd nm sg (i + 1) (doS np ns rg kd nm sg S (F (fr + 2 * i)) (F (fr + 2 * i + 1))) t else (i, S) := by
  rw [vyN]
  unfold doS
  by_cases h : F (fr + 2 * i + 1) = 8
  · rw [if_pos h, if_pos (Or.inl h), if_pos h]
  · rw [if_neg h]
    by_cases h2 : 0 ≤ actV (S.2.1 (F (fr + 2 * i))) (F (fr + 2 * i + 1)) ∧ actV (S.2.1 (F (fr + 2 * i))) (F (fr + 2 * i + 1)) ≤ 9
    · rw [if_pos h2, if_pos (Or.inr h2), if_neg h, if_pos h2]
    · rw [if_neg h2, if_neg (fun z => z.elim h h2)]
theorem WS_do {np ns : Int} {rg kd nm sg : Int → Int} {S : DS} {a act : Int} (hN : WN ns kd nm sg) (hns : 0 ≤ ns ∧ ns ≤ 5) (hW : WS np ns S) (ha : act = 8 → 0 ≤ a ∧ a ≤ 9) : WS np ns (doS np ns rg kd nm sg S a act) ∧ (S.2.2.1 ≤ (doS np ns rg kd nm sg S a act).2.2.1 ∧ (doS np ns rg kd nm sg S a act).2.2.1 ≤ S.2.2.1 + 45) ∧ (S.2.2.2.1 ≤ (doS np ns rg kd nm sg S a act).2.2.2.1 ∧ (doS np ns rg kd nm sg S a act).2.2.2.1 ≤ S.2.2.2.1 + 180) := by
  unfold doS
  split
  · rename_i h
    obtain ⟨a1, a2, a3⟩ := WS_dy (np := np) (rg := rg) hN hns a.toNat S hW
    have := ha h
    exact ⟨a1, by omega, by omega⟩
  · split
    · rename_i hv
      exact ⟨WS_act hW hv, ⟨by show S.2.2.1 ≤ S.2.2.1; omega, by show S.2.2.1 ≤ S.2.2.1 + 45; omega⟩, by show S.2.2.2.1 ≤ S.2.2.2.1; omega, by show S.2.2.2.1 ≤ S.2.2.2.1 + 180; omega⟩
    · exact ⟨hW, by omega, by omega⟩

set_option maxHeartbeats 4000000 in
set_option maxRecDepth 100000 in
theorem k_X5_goVoyage {K : KX} {d : Nat} {μ : Int → ME} {fr n : Int} {pt : Int → Int} {ca : Int → Int → Int} {lp lw lf : Int} {fl tr np ns day at_ rP rS sL sF nr : Int} (h0 : μ 42 = oM fl tr np ns day at_ rP rS lp lw lf sL sF nr) (hnp : np ≤ 6) (hns : 0 ≤ ns ∧ ns ≤ 5) {rg kd nm sg : Int → Int} (hB : MB rg kd nm sg np ns μ) {F pf cf : Int → Int} (h45 : μ 45 = mA 240 F) (hP : μ 50 = mA 5 pf) (hC : μ 51 = mA 20 cf) (hR : MR ns (pt, ca, 0, 0, -9) pf cf) (hW : WS np ns (pt, ca, 0, 0, -9)) (hN : WN ns kd nm sg) (hf : 0 ≤ fr ∧ fr + 2 * n ≤ 240) (hn : 0 ≤ n ∧ n ≤ 20) (hok : ∀ i, 0 ≤ i → i < n → okP F fr ns i) : Ct K (d + 4) yX5_goVoyage cX5_goVoyage 4 (some .int) [vR 42, vI fr, vI n] μ (pI (fun z μ' => z = (vyN F fr np ns rg kd nm sg 0 (pt, ca, 0, 0, -9) n.toNat).1 ∧ MI fl tr np ns day at_ rP rS sL sF nr (vyN F fr np ns rg kd nm sg 0 (pt, ca, 0, 0, -9) n.toNat).2 μ μ')) := by
  refine Ct.of (by decide) (Nat.le_of_ble_eq_true rfl) (fun X C => ?_)
  have L : ∀ (t : Nat) (i : Int) (S1 : DS) (ν : Int → ME), 0 ≤ i → n - i = (t : Int) → MI fl tr np ns day at_ rP rS sL sF nr S1 μ ν → WS np ns S1 → (0 ≤ S1.2.2.1 ∧ S1.2.2.1 ≤ 10000 - 45 * (t : Int)) → (0 ≤ S1.2.2.2.1 ∧ S1.2.2.2.1 ≤ 40000 - 180 * (t : Int)) → vyN F fr np ns rg kd nm sg i S1 t = (vyN F fr np ns rg kd nm sg 0 (pt, ca, 0, 0, -9) n.toNat) → PW K X 4 (QM K X (pI (fun z μ' => z = (vyN F fr np ns rg kd nm sg 0 (pt, ca, 0, 0, -9) n.toNat).1 ∧ MI fl tr np ns day at_ rP rS sL sF nr (vyN F fr np ns rg kd nm sg 0 (pt, ca, 0, 0, -9) n.toNat).2 μ μ'))) 18 [(3, vI i), (0, vR 42), (1, vI fr), (2, vI n)] [] ν := by
    intro t
    induction t with
    | zero =>
      intro i S1 ν g1 g2 g4 g5 g6 g7 g8
      obtain ⟨u0, ⟨pf2, cf2, uP, uC, uR⟩, uo⟩ := id g4
      have u5 : ν 45 = mA 240 F := (uo 45 (by omega) (by omega) (by omega)).trans h45
      refine p_iload_n (pc := 18) C dX5_goVoyage_18 rfl ?_
      refine p_iload_n (pc := 19) C dX5_goVoyage_19 rfl ?_
      refine p_icmp_ge (pc := 20) (tgt := 60) C dX5_goVoyage_20 (by decide) (fun c_20 => ?_) (fun h => by exfalso; omega)
      refine p_bipush (pc := 60) C dX5_goVoyage_60 (by decide) ?_
      refine p_iret (pc := 62) C dX5_goVoyage_62 ?_
      rw [vyN] at g8
      exact ⟨_, rfl, by rw [← g8], by rw [← g8]; exact g4⟩
    | succ t ih =>
      intro i S1 ν g1 g2 g4 g5 g6 g7 g8
      obtain ⟨u0, ⟨pf2, cf2, uP, uC, uR⟩, uo⟩ := id g4
      have u5 : ν 45 = mA 240 F := (uo 45 (by omega) (by omega) (by omega)).trans h45
      rw [vyN_s] at g8
      obtain ⟨p1, p2, p3⟩ := hok i g1 (by omega)
      have hwd := WS_do (np := np) (rg := rg) (S := S1) (a := F (fr + 2 * i)) (act := F (fr + 2 * i + 1)) hN hns g5 p2
      refine p_iload_n (pc := 18) C dX5_goVoyage_18 rfl ?_
      refine p_iload_n (pc := 19) C dX5_goVoyage_19 rfl ?_
      refine p_icmp_ge (pc := 20) (tgt := 60) C dX5_goVoyage_20 (by decide) (fun h => by exfalso; omega) (fun c_20 => ?_)
      refine p_aload_n (pc := 23) C dX5_goVoyage_23 rfl ?_
      refine p_aload_n (pc := 24) C dX5_goVoyage_24 rfl ?_
      refine p_get (pc := 25) C fl_X5_16 dX5_goVoyage_25 ⟨by omega, by omega⟩ (by (repeat refine mg_n (by omega) ?_); first | assumption | exact mup_s _ _ _) (by rfl) ?_
      refine p_iload_n (pc := 28) C dX5_goVoyage_28 rfl ?_
      refine p_iconst (pc := 29) C dX5_goVoyage_29 (by decide) ?_
      refine p_iload_n (pc := 30) C dX5_goVoyage_30 rfl ?_
      refine p_imul (pc := 31) C dX5_goVoyage_31 ⟨by omega, by omega⟩ ?_
      refine p_iadd (pc := 32) C dX5_goVoyage_32 ⟨by omega, by omega⟩ ?_
      refine p_iald (pc := 33) C dX5_goVoyage_33 ⟨by omega, by omega⟩ (by (repeat refine mg_n (by omega) ?_); first | assumption | exact mup_s _ _ _) (by omega) ?_
      refine p_aload_n (pc := 34) C dX5_goVoyage_34 rfl ?_
      refine p_get (pc := 35) C fl_X5_16 dX5_goVoyage_35 ⟨by omega, by omega⟩ (by (repeat refine mg_n (by omega) ?_); first | assumption | exact mup_s _ _ _) (by rfl) ?_
      refine p_iload_n (pc := 38) C dX5_goVoyage_38 rfl ?_
      refine p_iconst (pc := 39) C dX5_goVoyage_39 (by decide) ?_
      refine p_iload_n (pc := 40) C dX5_goVoyage_40 rfl ?_
      refine p_imul (pc := 41) C dX5_goVoyage_41 ⟨by omega, by omega⟩ ?_
      refine p_iadd (pc := 42) C dX5_goVoyage_42 ⟨by omega, by omega⟩ ?_
      refine p_iconst (pc := 43) C dX5_goVoyage_43 (by decide) ?_
      refine p_iadd (pc := 44) C dX5_goVoyage_44 ⟨by omega, by omega⟩ ?_
      refine p_iald (pc := 45) C dX5_goVoyage_45 ⟨by omega, by omega⟩ (by (repeat refine mg_n (by omega) ?_); first | assumption | exact mup_s _ _ _) (by omega) ?_
      refine p_callVE (pc := 46) C ln_X5_170 dX5_goVoyage_46 (k_X5_does (S := S1) (μ0 := μ) g4 hnp hns hB g5 hN p1 p2 p3 (by omega) (by omega)) ⟨by omega, by omega⟩ (by (repeat refine mg_n (by omega) ?_); first | assumption | exact mup_s _ _ _) rfl rfl rfl rfl (Nat.le_of_ble_eq_true rfl) (fun μ' hpost => ?_)
      refine p_ifne_b (pc := 49) (tgt := 54) C dX5_goVoyage_49 (by decide) (fun c_49 => ?_) (fun c_49 => ?_)
      · refine p_iinc (pc := 54) (ls' := [(3, _), (0, _), (1, _), (2, _)]) C dX5_goVoyage_54 (by decide) rfl ⟨by omega, by omega⟩ rfl ?_
        refine p_goto (pc := 57) (tgt := 18) C dX5_goVoyage_57 (by decide) ?_
        rw [if_pos c_49] at g8
        exact ih (i + 1) _ _ (by omega) (by omega) hpost hwd.1 (by omega) (by omega) g8
      · refine p_iload_n (pc := 52) C dX5_goVoyage_52 rfl ?_
        refine p_iret (pc := 53) C dX5_goVoyage_53 ?_
        rw [if_neg c_49] at g8
        rw [show doS np ns rg kd nm sg S1 (F (fr + 2 * i)) (F (fr + 2 * i + 1)) = S1 from (if_neg (fun z => c_49 (Or.inl z))).trans (if_neg (fun z => c_49 (Or.inr z)))] at hpost
        exact ⟨_, rfl, by rw [← g8], by rw [← g8]; exact hpost⟩
  refine p_aload_n (pc := 0) C dX5_goVoyage_0 rfl ?_
  refine p_iconst (pc := 1) C dX5_goVoyage_1 (by decide) ?_
  refine p_putL (pc := 2) (fs' := [_, _, _, _, _, _, _, _, _, _, _, _, _, _, _, _, _, _, _, _, _, _, _, _, _, _, _, _, _, _, _]) C fp_X5_157 dX5_goVoyage_2 ⟨by omega, by omega⟩ (by (repeat refine mg_n (by omega) ?_); first | assumption | exact mup_s _ _ _) (by exact Nat.le_of_ble_eq_true rfl) (by rfl) ?_
  try refine p_mem (mup_mup _ _ _ _) ?_
  refine p_aload_n (pc := 5) C dX5_goVoyage_5 rfl ?_
  refine p_iconst (pc := 6) C dX5_goVoyage_6 (by decide) ?_
  refine p_putL (pc := 7) (fs' := [_, _, _, _, _, _, _, _, _, _, _, _, _, _, _, _, _, _, _, _, _, _, _, _, _, _, _, _, _, _, _]) C fp_X5_160 dX5_goVoyage_7 ⟨by omega, by omega⟩ (by (repeat refine mg_n (by omega) ?_); first | assumption | exact mup_s _ _ _) (by exact Nat.le_of_ble_eq_true rfl) (by rfl) ?_
  try refine p_mem (mup_mup _ _ _ _) ?_
  refine p_aload_n (pc := 10) C dX5_goVoyage_10 rfl ?_
  refine p_bipush (pc := 11) C dX5_goVoyage_11 (by decide) ?_
  refine p_putL (pc := 13) (fs' := [_, _, _, _, _, _, _, _, _, _, _, _, _, _, _, _, _, _, _, _, _, _, _, _, _, _, _, _, _, _, _]) C fp_X5_163 dX5_goVoyage_13 ⟨by omega, by omega⟩ (by (repeat refine mg_n (by omega) ?_); first | assumption | exact mup_s _ _ _) (by exact Nat.le_of_ble_eq_true rfl) (by rfl) ?_
  try refine p_mem (mup_mup _ _ _ _) ?_
  refine p_iconst (pc := 16) C dX5_goVoyage_16 (by decide) ?_
  refine p_istore_n (pc := 17) (ls' := [(3, _), (0, _), (1, _), (2, _)]) C dX5_goVoyage_17 (by decide) rfl ?_
  exact L n.toNat 0 (pt, ca, 0, 0, -9) _ (by omega) (by omega) ⟨mup_s _ _ _, ⟨pf, cf, mg_n (by omega) hP, mg_n (by omega) hC, hR⟩, fun x x0 x1 x2 => mg_n x0 rfl⟩ hW (by show (0 : Int) ≤ 0 ∧ (0 : Int) ≤ _; omega) (by show (0 : Int) ≤ 0 ∧ (0 : Int) ≤ _; omega) rfl
