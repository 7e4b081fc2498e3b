theorem MV_pc {np ns day nr tr fl : Int} {rg kd nm sg pt : Int → Int} {ca : Int → Int → Int} {rs rp rl th la ln : Int → Int} {ce : Int → Int → Int} {μ : Int → ME} {S : DS} {p1 c1 : Int → Int} (h : MV np ns day nr tr fl rg kd nm sg pt ca rs rp rl th la ln ce μ) (hR : MR ns S p1 c1) : MV np ns day nr tr fl rg kd nm sg (S.1) (S.2.1) rs rp rl th la ln ce (mup (mup μ 51 (mA 20 c1)) 50 (mA 5 p1)) := by
  obtain ⟨m42, m43, m44, m45, ⟨m46, m47, m48, m49⟩, mD, ⟨m52, m53, m54, m55, m56⟩, m57, m58, m59⟩ := h
  refine ⟨?_, ?_, ?_, ?_, ⟨?_, ?_, ?_, ?_⟩, ⟨p1, c1, mup_s _ _ _, mg_n (by omega) (mup_s _ _ _), MR_x hR rfl rfl⟩, ⟨?_, ?_, ?_, ?_, ?_⟩, ?_, ?_, ?_⟩
  · exact m42.imp fun _ h => h.imp fun _ h => h.imp fun _ h => h.imp fun _ h => h.imp fun _ h => h.imp fun _ h => h.imp fun _ h => h.imp fun _ h => mg_n (by omega) (mg_n (by omega) h)
  · exact m43.imp fun _ h => ⟨mg_n (by omega) (mg_n (by omega) h.1), h.2⟩
  · exact m44.imp fun _ h => ⟨mg_n (by omega) (mg_n (by omega) h.1), h.2⟩
  · exact m45.imp fun _ h => ⟨mg_n (by omega) (mg_n (by omega) h.1), h.2⟩
  · exact m46.imp fun _ h => ⟨mg_n (by omega) (mg_n (by omega) h.1), h.2⟩
  · exact m47.imp fun _ h => ⟨mg_n (by omega) (mg_n (by omega) h.1), h.2⟩
  · exact m48.imp fun _ h => ⟨mg_n (by omega) (mg_n (by omega) h.1), h.2⟩
  · exact m49.imp fun _ h => ⟨mg_n (by omega) (mg_n (by omega) h.1), h.2⟩
  · exact m52.imp fun _ h => mg_n (by omega) (mg_n (by omega) h)
  · exact m53.imp fun _ h => mg_n (by omega) (mg_n (by omega) h)
  · exact m54.imp fun _ h => mg_n (by omega) (mg_n (by omega) h)
  · exact m55.imp fun _ h => mg_n (by omega) (mg_n (by omega) h)
  · exact m56.imp fun _ h => mg_n (by omega) (mg_n (by omega) h)
  · exact m57.imp fun _ h => ⟨mg_n (by omega) (mg_n (by omega) h.1), h.2⟩
  · exact m58.imp fun _ h => ⟨mg_n (by omega) (mg_n (by omega) h.1), h.2⟩
  · exact m59.imp fun _ h => ⟨mg_n (by omega) (mg_n (by omega) h.1), h.2⟩

set_option maxHeartbeats 4000000 in
set_option maxRecDepth 100000 in
theorem q_X5_days {K : KX} {d : Nat} {μ : Int → ME} {n : Int} {np ns day nr tr fl : Int} {rg kd nm sg pt : Int → Int} {ca : Int → Int → Int} {rs rp rl th la ln : Int → Int} {ce : Int → Int → Int} (hV : MV np ns day nr tr fl rg kd nm sg pt ca rs rp rl th la ln ce μ) (hW : WF np ns day nr tr fl rg kd nm sg pt ca rs rp rl th la ln ce) : Ct K (d + 3) yX5_days cX5_days 5 (some .int) [vR 42, vI n] μ (fun r μ' => (∀ a, a < 42 → μ' a = μ a) ∧ (if ¬ (1 ≤ n ∧ n ≤ 30) then r = some (vI (-2)) ∧ MV np ns day nr tr fl rg kd nm sg pt ca rs rp rl th la ln ce μ' else if ¬ 0 < ns then r = some (vI (-3)) ∧ MV np ns day nr tr fl rg kd nm sg pt ca rs rp rl th la ln ce μ' else r = some (vI ((dyN np ns rg kd nm sg (pt, ca, 0, 0, -9) n.toNat).2.2.1)) ∧ MV np ns (iwr (day + n)) nr tr fl rg kd nm sg ((dyN np ns rg kd nm sg (pt, ca, 0, 0, -9) n.toNat).1) ((dyN np ns rg kd nm sg (pt, ca, 0, 0, -9) n.toNat).2.1) rs rp rl th la ln ce μ')) := by
  refine Ct.of (by decide) (Nat.le_of_ble_eq_true rfl) (fun X C => ?_)
  obtain ⟨m42, m43, m44, m45, mB, mD, ⟨m52, m53, m54, m55, m56⟩, m57, m58, m59⟩ := id hV
  obtain ⟨m46, m47, m48, m49⟩ := id mB
  obtain ⟨at_, rP, rS, lp, lw, lf, sL, sF, h0⟩ := id m42
  obtain ⟨f43, h43, e43⟩ := id m43
  obtain ⟨f44, h44, e44⟩ := id m44
  obtain ⟨f45, h45, e45⟩ := id m45
  obtain ⟨f46, h46, e46⟩ := id m46
  obtain ⟨f47, h47, e47⟩ := id m47
  obtain ⟨f48, h48, e48⟩ := id m48
  obtain ⟨f49, h49, e49⟩ := id m49
  obtain ⟨pf, cf, h50, h51, hMR⟩ := id mD
  obtain ⟨f57, h57, e57⟩ := id m57
  obtain ⟨f58, h58, e58⟩ := id m58
  obtain ⟨f59, h59, e59⟩ := id m59
  obtain ⟨w0, w1, w2, w3, w4, w5, w6⟩ := id hW
  have LK0 : ∀ (i : Int) (SE : DS), 0 ≤ i → i ≤ 100 → (∀ p1 c1 : Int → Int, MR ns SE p1 c1 → PW K X 5 (QM K X (fun r μ' => (∀ a, a < 42 → μ' a = μ a) ∧ (if ¬ (1 ≤ n ∧ n ≤ 30) then r = some (vI (-2)) ∧ MV np ns day nr tr fl rg kd nm sg pt ca rs rp rl th la ln ce μ' else if ¬ 0 < ns then r = some (vI (-3)) ∧ MV np ns day nr tr fl rg kd nm sg pt ca rs rp rl th la ln ce μ' else r = some (vI ((dyN np ns rg kd nm sg (pt, ca, 0, 0, -9) n.toNat).2.2.1)) ∧ MV np ns (iwr (day + n)) nr tr fl rg kd nm sg ((dyN np ns rg kd nm sg (pt, ca, 0, 0, -9) n.toNat).1) ((dyN np ns rg kd nm sg (pt, ca, 0, 0, -9) n.toNat).2.1) rs rp rl th la ln ce μ'))) 27 [(3, vI (i + 1)), (2, vI SE.2.2.1), (0, vR 42), (1, vI n)] [] (mup (mup μ 51 (mA 20 c1)) 50 (mA 5 p1))) → ∀ (S1 : DS) (p1 c1 : Int → Int), MR ns S1 p1 c1 → WS np ns S1 → (0 ≤ S1.2.2.1 ∧ S1.2.2.1 ≤ 90000) → 0 ≤ ns → shN np rg kd nm sg 0 S1 ns.toNat = SE → PW K X 5 (QM K X (fun r μ' => (∀ a, a < 42 → μ' a = μ a) ∧ (if ¬ (1 ≤ n ∧ n ≤ 30) then r = some (vI (-2)) ∧ MV np ns day nr tr fl rg kd nm sg pt ca rs rp rl th la ln ce μ' else if ¬ 0 < ns then r = some (vI (-3)) ∧ MV np ns day nr tr fl rg kd nm sg pt ca rs rp rl th la ln ce μ' else r = some (vI ((dyN np ns rg kd nm sg (pt, ca, 0, 0, -9) n.toNat).2.2.1)) ∧ MV np ns (iwr (day + n)) nr tr fl rg kd nm sg ((dyN np ns rg kd nm sg (pt, ca, 0, 0, -9) n.toNat).1) ((dyN np ns rg kd nm sg (pt, ca, 0, 0, -9) n.toNat).2.1) rs rp rl th la ln ce μ'))) 35 [(4, vI 0), (3, vI i), (2, vI S1.2.2.1), (0, vR 42), (1, vI n)] [] (mup (mup μ 51 (mA 20 c1)) 50 (mA 5 p1)) := by
    intro i SE hi0 hi1 kk
    have LK : ∀ (t : Nat) (k : Int) (S1 : DS) (p1 c1 : Int → Int), 0 ≤ k → ns - k = (t : Int) → MR ns S1 p1 c1 → WS np ns S1 → (0 ≤ S1.2.2.1 ∧ S1.2.2.1 ≤ 100000 - (t : Int)) → shN np rg kd nm sg k S1 t = SE → PW K X 5 (QM K X (fun r μ' => (∀ a, a < 42 → μ' a = μ a) ∧ (if ¬ (1 ≤ n ∧ n ≤ 30) then r = some (vI (-2)) ∧ MV np ns day nr tr fl rg kd nm sg pt ca rs rp rl th la ln ce μ' else if ¬ 0 < ns then r = some (vI (-3)) ∧ MV np ns day nr tr fl rg kd nm sg pt ca rs rp rl th la ln ce μ' else r = some (vI ((dyN np ns rg kd nm sg (pt, ca, 0, 0, -9) n.toNat).2.2.1)) ∧ MV np ns (iwr (day + n)) nr tr fl rg kd nm sg ((dyN np ns rg kd nm sg (pt, ca, 0, 0, -9) n.toNat).1) ((dyN np ns rg kd nm sg (pt, ca, 0, 0, -9) n.toNat).2.1) rs rp rl th la ln ce μ'))) 35 [(4, vI k), (3, vI i), (2, vI S1.2.2.1), (0, vR 42), (1, vI n)] [] (mup (mup μ 51 (mA 20 c1)) 50 (mA 5 p1)) := by
      intro t
      induction t with
      | zero =>
        intro k S1 p1 c1 g1 g2 g4 g5 g7 g8
        refine p_iload (pc := 35) C dX5_days_35 rfl ?_
        refine p_aload_n (pc := 37) C dX5_days_37 rfl ?_
        refine p_get (pc := 38) C fl_X5_71 dX5_days_38 ⟨by omega, by omega⟩ (by (repeat refine mg_n (by omega) ?_); first | assumption | exact mup_s _ _ _) (by rfl) ?_
        refine p_icmp_ge (pc := 41) (tgt := 69) C dX5_days_41 (by decide) (fun c_41 => ?_) (fun h => by exfalso; omega)
        refine p_iinc (pc := 69) (ls' := [(3, _), (4, _), (2, _), (0, _), (1, _)]) C dX5_days_69 (by decide) rfl ⟨by omega, by omega⟩ rfl ?_
        refine p_goto (pc := 72) (tgt := 27) C dX5_days_72 (by decide) ?_
        refine p_pick [0, 2, 3, 4] (ls' := [(3, _), (2, _), (0, _), (1, _)]) rfl ?_
        exact p_ls (by rw [← g8]; rfl) (kk p1 c1 (by rw [← g8]; exact g4))
      | succ t ih =>
        intro k S1 p1 c1 g1 g2 g4 g5 g7 g8
        rw [shN] at g8
        have hct := ct_st (np := np) (rg := rg) (kd := kd) (sg := sg) (g5 k (by omega) (by omega)).2 (w3 k (by omega) (by omega)).2.1
        have hlp : (stS np rg kd nm sg k S1).2.2.1 = S1.2.2.1 + (if dsG rg kd nm sg k S1 = -9 then 0 else 1) := rfl
        refine p_iload (pc := 35) C dX5_days_35 rfl ?_
        refine p_aload_n (pc := 37) C dX5_days_37 rfl ?_
        refine p_get (pc := 38) C fl_X5_71 dX5_days_38 ⟨by omega, by omega⟩ (by (repeat refine mg_n (by omega) ?_); first | assumption | exact mup_s _ _ _) (by rfl) ?_
        refine p_icmp_ge (pc := 41) (tgt := 69) C dX5_days_41 (by decide) (fun h => by exfalso; omega) (fun c_41 => ?_)
        refine p_iload_n (pc := 44) C dX5_days_44 rfl ?_
        refine p_aload_n (pc := 45) C dX5_days_45 rfl ?_
        refine p_iload (pc := 46) C dX5_days_46 rfl ?_
        refine p_callVI (pc := 48) C ln_X5_154 dX5_days_48 (k_X5_goesOn (S := S1) (mg_n (by omega) (mg_n (by omega) h0)) (by omega) (by omega) (MB_2 mB _ _) (by omega) (mg_n (by omega) (mup_s _ _ _)) (mup_s _ _ _) g4 g5 w3) ⟨by omega, by omega⟩ (by (repeat refine mg_n (by omega) ?_); first | assumption | exact mup_s _ _ _) rfl rfl rfl rfl (Nat.le_of_ble_eq_true rfl) (fun z μ' hpost => ?_)
        obtain ⟨hz, p2, c2, rfl, hmr⟩ := hpost
        subst hz
        refine p_mem (mup_55 _ _ _ _ _) ?_
        refine p_bipush (pc := 51) C dX5_days_51 (by decide) ?_
        refine p_icmp_ne (pc := 53) (tgt := 60) C dX5_days_53 (by decide) (fun c_53 => ?_) (fun c_53 => ?_)
        · refine p_iconst (pc := 60) C dX5_days_60 (by decide) ?_
          refine p_iadd (pc := 61) C dX5_days_61 ⟨by omega, by omega⟩ ?_
          refine p_istore_n (pc := 62) (ls' := [(2, _), (4, _), (3, _), (0, _), (1, _)]) C dX5_days_62 (by decide) rfl ?_
          refine p_iinc (pc := 63) (ls' := [(4, _), (2, _), (3, _), (0, _), (1, _)]) C dX5_days_63 (by decide) rfl ⟨by omega, by omega⟩ rfl ?_
          refine p_goto (pc := 66) (tgt := 35) C dX5_days_66 (by decide) ?_
          refine p_pick [0, 2, 1, 3, 4] (ls' := [(4, _), (3, _), (2, _), (0, _), (1, _)]) rfl ?_
          first
            | (rw [if_pos (by omega)] at hlp
               exact p_ls (by rw [show S1.2.2.1 + 0 = (stS np rg kd nm sg k S1).2.2.1 by omega]) (ih (k + 1) (stS np rg kd nm sg k S1) _ _ (by omega) (by omega) hmr (WS_st g5 w3 g1 (by omega)) (by omega) g8))
            | (rw [if_neg (by omega)] at hlp
               exact p_ls (by rw [show S1.2.2.1 + 1 = (stS np rg kd nm sg k S1).2.2.1 by omega]) (ih (k + 1) (stS np rg kd nm sg k S1) _ _ (by omega) (by omega) hmr (WS_st g5 w3 g1 (by omega)) (by omega) g8))
        · refine p_iconst (pc := 56) C dX5_days_56 (by decide) ?_
          refine p_goto (pc := 57) (tgt := 61) C dX5_days_57 (by decide) ?_
          refine p_iadd (pc := 61) C dX5_days_61 ⟨by omega, by omega⟩ ?_
          refine p_istore_n (pc := 62) (ls' := [(2, _), (4, _), (3, _), (0, _), (1, _)]) C dX5_days_62 (by decide) rfl ?_
          refine p_iinc (pc := 63) (ls' := [(4, _), (2, _), (3, _), (0, _), (1, _)]) C dX5_days_63 (by decide) rfl ⟨by omega, by omega⟩ rfl ?_
          refine p_goto (pc := 66) (tgt := 35) C dX5_days_66 (by decide) ?_
          refine p_pick [0, 2, 1, 3, 4] (ls' := [(4, _), (3, _), (2, _), (0, _), (1, _)]) rfl ?_
          first
            | (rw [if_pos (by omega)] at hlp
               exact p_ls (by rw [show S1.2.2.1 + 0 = (stS np rg kd nm sg k S1).2.2.1 by omega]) (ih (k + 1) (stS np rg kd nm sg k S1) _ _ (by omega) (by omega) hmr (WS_st g5 w3 g1 (by omega)) (by omega) g8))
            | (rw [if_neg (by omega)] at hlp
               exact p_ls (by rw [show S1.2.2.1 + 1 = (stS np rg kd nm sg k S1).2.2.1 by omega]) (ih (k + 1) (stS np rg kd nm sg k S1) _ _ (by omega) (by omega) hmr (WS_st g5 w3 g1 (by omega)) (by omega) g8))
    intro S1 p1 c1 g4 g5 g7 hns g8
    exact LK ns.toNat 0 S1 p1 c1 (by omega) (by omega) g4 g5 (by omega) g8
  have L : ∀ (t : Nat) (i : Int) (S1 : DS) (p1 c1 : Int → Int), 0 ≤ i → n - i = (t : Int) → (0 < ns ∧ 1 ≤ n ∧ n ≤ 30) → MR ns S1 p1 c1 → WS np ns S1 → (0 ≤ S1.2.2.1 ∧ S1.2.2.1 ≤ 80000 - 5 * (t : Int)) → dyN np ns rg kd nm sg S1 t = dyN np ns rg kd nm sg (pt, ca, 0, 0, -9) n.toNat → PW K X 5 (QM K X (fun r μ' => (∀ a, a < 42 → μ' a = μ a) ∧ (if ¬ (1 ≤ n ∧ n ≤ 30) then r = some (vI (-2)) ∧ MV np ns day nr tr fl rg kd nm sg pt ca rs rp rl th la ln ce μ' else if ¬ 0 < ns then r = some (vI (-3)) ∧ MV np ns day nr tr fl rg kd nm sg pt ca rs rp rl th la ln ce μ' else r = some (vI ((dyN np ns rg kd nm sg (pt, ca, 0, 0, -9) n.toNat).2.2.1)) ∧ MV np ns (iwr (day + n)) nr tr fl rg kd nm sg ((dyN np ns rg kd nm sg (pt, ca, 0, 0, -9) n.toNat).1) ((dyN np ns rg kd nm sg (pt, ca, 0, 0, -9) n.toNat).2.1) rs rp rl th la ln ce μ'))) 27 [(3, vI i), (2, vI S1.2.2.1), (0, vR 42), (1, vI n)] [] (mup (mup μ 51 (mA 20 c1)) 50 (mA 5 p1)) := by
    intro t
    induction t with
    | zero =>
      intro i S1 p1 c1 g1 g2 g3 g4 g5 g7 g8
      refine p_iload_n (pc := 27) C dX5_days_27 rfl ?_
      refine p_iload_n (pc := 28) C dX5_days_28 rfl ?_
      refine p_icmp_ge (pc := 29) (tgt := 75) C dX5_days_29 (by decide) (fun c_29 => ?_) (fun h => by exfalso; omega)
      refine p_aload_n (pc := 75) C dX5_days_75 rfl ?_
      refine p_dup (pc := 76) C dX5_days_76 rfl ?_
      refine p_get (pc := 77) C fl_X5_107 dX5_days_77 ⟨by omega, by omega⟩ (by (repeat refine mg_n (by omega) ?_); first | assumption | exact mup_s _ _ _) (by rfl) ?_
      refine p_iload_n (pc := 80) C dX5_days_80 rfl ?_
      refine p_iaddw (pc := 81) C dX5_days_81 ?_
      refine p_putL (pc := 82) (fs' := [_, _, _, _, _, _, _, _, _, _, _, _, _, _, _, _, _, _, _, _, _, _, _, _, _, _, _, _, _, _, _]) C fp_X5_107 dX5_days_82 ⟨by omega, by omega⟩ (by (repeat refine mg_n (by omega) ?_); first | assumption | exact mup_s _ _ _) (by exact Nat.le_of_ble_eq_true rfl) (by rfl) ?_
      try refine p_mem (mup_mup _ _ _ _) ?_
      refine p_iload_n (pc := 85) C dX5_days_85 rfl ?_
      refine p_iret (pc := 86) C dX5_days_86 ?_
      refine ⟨fun q hq => by (repeat (refine mg_n (by omega) ?_)); rfl, ?_⟩
      rw [if_neg (by omega), if_neg (by omega)]
      exact ⟨by rw [← g8]; rfl, MV_42 (MV_pc hV (by rw [← g8]; exact g4)) (by omega)⟩
    | succ t ih =>
      intro i S1 p1 c1 g1 g2 g3 g4 g5 g7 g8
      rw [dyN] at g8
      obtain ⟨q1, q2, q3⟩ := WS_sh (np := np) (rg := rg) w3 ns.toNat 0 S1 (by omega) (by omega) g5
      refine p_iload_n (pc := 27) C dX5_days_27 rfl ?_
      refine p_iload_n (pc := 28) C dX5_days_28 rfl ?_
      refine p_icmp_ge (pc := 29) (tgt := 75) C dX5_days_29 (by decide) (fun h => by exfalso; omega) (fun c_29 => ?_)
      refine p_iconst (pc := 32) C dX5_days_32 (by decide) ?_
      refine p_istore (pc := 33) (ls' := [(4, _), (3, _), (2, _), (0, _), (1, _)]) C dX5_days_33 (by decide) rfl ?_
      exact LK0 i _ g1 (by omega) (fun p2 c2 h4 => ih (i + 1) _ p2 c2 (by omega) (by omega) g3 h4 q1 (by omega) g8) S1 p1 c1 g4 g5 (by omega) (by omega) rfl
  refine p_iload_n (pc := 0) C dX5_days_0 rfl ?_
  refine p_iconst (pc := 1) C dX5_days_1 (by decide) ?_
  refine p_bipush (pc := 2) C dX5_days_2 (by decide) ?_
  refine p_callSF (pc := 4) C ln_X5_67 dX5_days_4 (k_X5_within) rfl rfl (Nat.le_of_ble_eq_true rfl) ?_
  refine p_ifne_b (pc := 7) (tgt := 13) C dX5_days_7 (by decide) (fun c_7 => ?_) (fun c_7 => ?_)
  · refine p_aload_n (pc := 13) C dX5_days_13 rfl ?_
    refine p_get (pc := 14) C fl_X5_71 dX5_days_14 ⟨by omega, by omega⟩ (by (repeat refine mg_n (by omega) ?_); first | assumption | exact mup_s _ _ _) (by rfl) ?_
    refine p_if_ne (pc := 17) (tgt := 23) C dX5_days_17 (by decide) (fun c_17 => ?_) (fun c_17 => ?_)
    · refine p_iconst (pc := 23) C dX5_days_23 (by decide) ?_
      refine p_istore_n (pc := 24) (ls' := [(2, _), (0, _), (1, _)]) C dX5_days_24 (by decide) rfl ?_
      refine p_iconst (pc := 25) C dX5_days_25 (by decide) ?_
      refine p_istore_n (pc := 26) (ls' := [(3, _), (2, _), (0, _), (1, _)]) C dX5_days_26 (by decide) rfl ?_
      refine p_mem (by rw [mup_id h51, mup_id h50]) (L n.toNat 0 (pt, ca, 0, 0, -9) pf cf (by omega) (by omega) (by omega) hMR w4 (by show (0 : Int) ≤ 0 ∧ (0 : Int) ≤ _; omega) rfl)
    · refine p_bipush (pc := 20) C dX5_days_20 (by decide) ?_
      refine p_iret (pc := 22) C dX5_days_22 ?_
      first
        | (exfalso; omega)
        | (refine ⟨fun q hq => by (repeat (refine mg_n (by omega) ?_)); rfl, ?_⟩; rw [if_pos (by omega)]; exact ⟨rfl, hV⟩)
        | (refine ⟨fun q hq => by (repeat (refine mg_n (by omega) ?_)); rfl, ?_⟩; rw [if_neg (by omega), if_pos (by omega)]; exact ⟨rfl, hV⟩)
  · refine p_bipush (pc := 10) C dX5_days_10 (by decide) ?_
    refine p_iret (pc := 12) C dX5_days_12 ?_
    first
      | (exfalso; omega)
      | (refine ⟨fun q hq => by (repeat (refine mg_n (by omega) ?_)); rfl, ?_⟩; rw [if_pos (by omega)]; exact ⟨rfl, hV⟩)
      | (refine ⟨fun q hq => by (repeat (refine mg_n (by omega) ?_)); rfl, ?_⟩; rw [if_neg (by omega), if_pos (by omega)]; exact ⟨rfl, hV⟩)

theorem soN_c {br br' rg rg' rp rp' rl rl' : Int → Int} : ∀ (t : Nat) (i : Int), (∀ j, i ≤ j → j < i + (t : Int) → br j = br' j ∧ rg (rp j) = rg' (rp' j) ∧ rl j = rl' j) → soN br rg rp rl i t = soN br' rg' rp' rl' i t
  | 0, i, _ => rfl
  | t + 1, i, h => by
    obtain ⟨h1, h2, h3⟩ := h i (by omega) (by push_cast; omega)
    rw [soN, soN, h1, h2, h3, soN_c t (i + 1) (fun j j0 j1 => h j (by omega) (by push_cast; omega))]

set_option maxHeartbeats 4000000 in
set_option maxRecDepth 100000 in
theorem k_X5_areSo {K : KX} {d : Nat} {μ : Int → ME} {fl tr np ns day at_ rP rS lp lw lf sL sF nr : Int} (h0 : μ 42 = oM fl tr np ns day at_ rP rS lp lw lf sL sF nr) (hnp : np ≤ 6) (hns : 0 ≤ ns ∧ ns ≤ 5) {rg kd nm sg : Int → Int} (hB : MB rg kd nm sg np ns μ) {rs rp rl br f57 f58 f59 : Int → Int} (h57 : μ 57 = mA 8 f57) (h58 : μ 58 = mA 8 f58) (h59 : μ 59 = mA 8 f59) (e57 : ∀ i, 0 ≤ i → i < nr → f57 i = rs i) (e58 : ∀ i, 0 ≤ i → i < nr → f58 i = rp i) (e59 : ∀ i, 0 ≤ i → i < nr → f59 i = rl i) (hN : WN ns kd nm sg) (hnr : 0 ≤ nr ∧ nr ≤ 8) (hR : ∀ i, 0 ≤ i → i < nr → (0 ≤ rs i ∧ rs i < ns) ∧ (0 ≤ rp i ∧ rp i < np)) (hbr : ∀ i, 0 ≤ i → i < nr → brg (kd (rs i)) (sg (rs i)) = br i) : Ct K (d + 1) yX5_areSo cX5_areSo 3 (some .boolean) [vR 42] μ (pF (vI (if soN br rg rp rl 0 nr.toNat = 1 then 1 else 0)) μ) := by
  refine Ct.of (by decide) (Nat.le_of_ble_eq_true rfl) (fun X C => ?_)
  have L : ∀ (t : Nat) (i : Int), 0 ≤ i → nr - i = (t : Int) → soN br rg rp rl i t = soN br rg rp rl 0 nr.toNat → PW K X 3 (QM K X (pF (vI (if soN br rg rp rl 0 nr.toNat = 1 then 1 else 0)) μ)) 2 [(1, vI i), (0, vR 42)] [] μ := by
    intro t
    induction t with
    | zero =>
      intro i g1 g2 g3
      refine p_iload_n (pc := 2) C dX5_areSo_2 rfl ?_
      refine p_aload_n (pc := 3) C dX5_areSo_3 rfl ?_
      refine p_get (pc := 4) C fl_X5_110 dX5_areSo_4 ⟨by omega, by omega⟩ (by (repeat refine mg_n (by omega) ?_); first | assumption | exact mup_s _ _ _) (by rfl) ?_
      refine p_icmp_ge (pc := 7) (tgt := 58) C dX5_areSo_7 (by decide) (fun c_7 => ?_) (fun h => by exfalso; omega)
      refine p_iconst (pc := 58) C dX5_areSo_58 (by decide) ?_
      refine p_zret (pc := 59) C dX5_areSo_59 (by first | exact Or.inl rfl | exact Or.inr rfl | (split <;> simp)) ?_
      exact ⟨by rw [if_pos (by rw [← g3]; rfl)], rfl⟩
    | succ t ih =>
      intro i g1 g2 g3
      obtain ⟨⟨rgf, B1, C1⟩, -, -, -⟩ := id hB
      obtain ⟨⟨r1, r2⟩, r3, r4⟩ := hR i g1 (by omega)
      have q1 := e57 i g1 (by omega)
      have q2 := e58 i g1 (by omega)
      have q3 := e59 i g1 (by omega)
      have q4 : rgf (f58 i) = rg (rp i) := by rw [q2]; exact C1 _ r3 r4
      have q5 : brg (kd (f57 i)) (sg (f57 i)) = br i := by rw [q1]; exact hbr i g1 (by omega)
      rw [soN] at g3
      refine p_iload_n (pc := 2) C dX5_areSo_2 rfl ?_
      refine p_aload_n (pc := 3) C dX5_areSo_3 rfl ?_
      refine p_get (pc := 4) C fl_X5_110 dX5_areSo_4 ⟨by omega, by omega⟩ (by (repeat refine mg_n (by omega) ?_); first | assumption | exact mup_s _ _ _) (by rfl) ?_
      refine p_icmp_ge (pc := 7) (tgt := 58) C dX5_areSo_7 (by decide) (fun h => by exfalso; omega) (fun c_7 => ?_)
      refine p_aload_n (pc := 10) C dX5_areSo_10 rfl ?_
      refine p_get (pc := 11) C fl_X5_19 dX5_areSo_11 ⟨by omega, by omega⟩ (by (repeat refine mg_n (by omega) ?_); first | assumption | exact mup_s _ _ _) (by rfl) ?_
      refine p_aload_n (pc := 14) C dX5_areSo_14 rfl ?_
      refine p_get (pc := 15) C fl_X5_55 dX5_areSo_15 ⟨by omega, by omega⟩ (by (repeat refine mg_n (by omega) ?_); first | assumption | exact mup_s _ _ _) (by rfl) ?_
      refine p_iload_n (pc := 18) C dX5_areSo_18 rfl ?_
      refine p_iald (pc := 19) C dX5_areSo_19 ⟨by omega, by omega⟩ (by (repeat refine mg_n (by omega) ?_); first | assumption | exact mup_s _ _ _) (by omega) ?_
      refine p_iald (pc := 20) C dX5_areSo_20 ⟨by omega, by omega⟩ (by (repeat refine mg_n (by omega) ?_); first | assumption | exact mup_s _ _ _) (by omega) ?_
      refine p_aload_n (pc := 21) C dX5_areSo_21 rfl ?_
      refine p_aload_n (pc := 22) C dX5_areSo_22 rfl ?_
      refine p_get (pc := 23) C fl_X5_52 dX5_areSo_23 ⟨by omega, by omega⟩ (by (repeat refine mg_n (by omega) ?_); first | assumption | exact mup_s _ _ _) (by rfl) ?_
      refine p_iload_n (pc := 26) C dX5_areSo_26 rfl ?_
      refine p_iald (pc := 27) C dX5_areSo_27 ⟨by omega, by omega⟩ (by (repeat refine mg_n (by omega) ?_); first | assumption | exact mup_s _ _ _) (by omega) ?_
      refine p_callVF (pc := 28) C ln_X5_130 dX5_areSo_28 (k_X5_bearsOf h0 hnp hns hB (by omega) hN) ⟨by omega, by omega⟩ (by (repeat refine mg_n (by omega) ?_); first | assumption | exact mup_s _ _ _) rfl rfl rfl rfl (Nat.le_of_ble_eq_true rfl) ?_
      refine p_icmp_le (pc := 31) (tgt := 38) C dX5_areSo_31 (by decide) (fun c_31 => ?_) (fun c_31 => ?_)
      · refine p_iconst (pc := 38) C dX5_areSo_38 (by decide) ?_
        refine p_istore_n (pc := 39) (ls' := [(2, _), (1, _), (0, _)]) C dX5_areSo_39 (by decide) rfl ?_
        refine p_iload_n (pc := 40) C dX5_areSo_40 rfl ?_
        refine p_aload_n (pc := 41) C dX5_areSo_41 rfl ?_
        refine p_get (pc := 42) C fl_X5_58 dX5_areSo_42 ⟨by omega, by omega⟩ (by (repeat refine mg_n (by omega) ?_); first | assumption | exact mup_s _ _ _) (by rfl) ?_
        refine p_iload_n (pc := 45) C dX5_areSo_45 rfl ?_
        refine p_iald (pc := 46) C dX5_areSo_46 ⟨by omega, by omega⟩ (by (repeat refine mg_n (by omega) ?_); first | assumption | exact mup_s _ _ _) (by omega) ?_
        refine p_icmp_eq (pc := 47) (tgt := 52) C dX5_areSo_47 (by decide) (fun c_47 => ?_) (fun c_47 => ?_)
        · refine p_iinc (pc := 52) (ls' := [(1, _), (2, _), (0, _)]) C dX5_areSo_52 (by decide) rfl ⟨by omega, by omega⟩ rfl ?_
          refine p_goto (pc := 55) (tgt := 2) C dX5_areSo_55 (by decide) ?_
          refine p_pick [0, 2] (ls' := [(1, _), (0, _)]) rfl ?_
          exact ih (i + 1) (by omega) (by omega) (by
            first
              | (rw [if_pos (by omega)] at g3; exact g3)
              | (rw [if_pos (by rw [if_pos (by omega)]; omega)] at g3; exact g3)
              | (rw [if_pos (by rw [if_neg (by omega)]; omega)] at g3; exact g3))
        · refine p_iconst (pc := 50) C dX5_areSo_50 (by decide) ?_
          refine p_zret (pc := 51) C dX5_areSo_51 (by first | exact Or.inl rfl | exact Or.inr rfl | (split <;> simp)) ?_
          exact ⟨by rw [if_neg (by rw [← g3, if_neg (by first | omega | (rw [if_pos (by omega)]; omega) | (rw [if_neg (by omega)]; omega))]; decide)], rfl⟩
      · refine p_iconst (pc := 34) C dX5_areSo_34 (by decide) ?_
        refine p_goto (pc := 35) (tgt := 39) C dX5_areSo_35 (by decide) ?_
        refine p_istore_n (pc := 39) (ls' := [(2, _), (1, _), (0, _)]) C dX5_areSo_39 (by decide) rfl ?_
        refine p_iload_n (pc := 40) C dX5_areSo_40 rfl ?_
        refine p_aload_n (pc := 41) C dX5_areSo_41 rfl ?_
        refine p_get (pc := 42) C fl_X5_58 dX5_areSo_42 ⟨by omega, by omega⟩ (by (repeat refine mg_n (by omega) ?_); first | assumption | exact mup_s _ _ _) (by rfl) ?_
        refine p_iload_n (pc := 45) C dX5_areSo_45 rfl ?_
        refine p_iald (pc := 46) C dX5_areSo_46 ⟨by omega, by omega⟩ (by (repeat refine mg_n (by omega) ?_); first | assumption | exact mup_s _ _ _) (by omega) ?_
        refine p_icmp_eq (pc := 47) (tgt := 52) C dX5_areSo_47 (by decide) (fun c_47 => ?_) (fun c_47 => ?_)
        · refine p_iinc (pc := 52) (ls' := [(1, _), (2, _), (0, _)]) C dX5_areSo_52 (by decide) rfl ⟨by omega, by omega⟩ rfl ?_
          refine p_goto (pc := 55) (tgt := 2) C dX5_areSo_55 (by decide) ?_
          refine p_pick [0, 2] (ls' := [(1, _), (0, _)]) rfl ?_
          exact ih (i + 1) (by omega) (by omega) (by
            first
              | (rw [if_pos (by omega)] at g3; exact g3)
              | (rw [if_pos (by rw [if_pos (by omega)]; omega)] at g3; exact g3)
              | (rw [if_pos (by rw [if_neg (by omega)]; omega)] at g3; exact g3))
        · refine p_iconst (pc := 50) C dX5_areSo_50 (by decide) ?_
          refine p_zret (pc := 51) C dX5_areSo_51 (by first | exact Or.inl rfl | exact Or.inr rfl | (split <;> simp)) ?_
          exact ⟨by rw [if_neg (by rw [← g3, if_neg (by first | omega | (rw [if_pos (by omega)]; omega) | (rw [if_neg (by omega)]; omega))]; decide)], rfl⟩
  refine p_iconst (pc := 0) C dX5_areSo_0 (by decide) ?_
  refine p_istore_n (pc := 1) (ls' := [(1, _), (0, _)]) C dX5_areSo_1 (by decide) rfl ?_
  exact L nr.toNat 0 (by omega) (by omega) rfl

theorem orN_r (P : Int → Prop) : ∀ (t : Nat) (v w : Int), rng w → rng (orN P v w t)
  | 0, v, w, h => h
  | t + 1, v, w, h => by
    by_cases p : P v
    · rw [or_t p]; exact orN_r P t _ _ (iOr_r _ _)
    · rw [or_f p]; exact orN_r P t _ _ h

set_option maxHeartbeats 4000000 in
set_option maxRecDepth 100000 in
theorem q_X5_strengths {K : KX} {d : Nat} {μ : Int → ME} {k : Int} {np ns day nr tr fl : Int} {rg kd nm sg pt : Int → Int} {ca : Int → Int → Int} {rs rp rl th la ln : Int → Int} {ce : Int → Int → Int} (hV : MV np ns day nr tr fl rg kd nm sg pt ca rs rp rl th la ln ce μ) (hW : WF np ns day nr tr fl rg kd nm sg pt ca rs rp rl th la ln ce) : Ct K (d + 3) yX5_strengths cX5_strengths 5 (some .int) [vR 42, vI k] μ (fun r μ' => (∀ a, a < 42 → μ' a = μ a) ∧ (if ¬ (0 ≤ k ∧ k < ns) then r = some (vI (-1)) ∧ MV np ns day nr tr fl rg kd nm sg pt ca rs rp rl th la ln ce μ' else r = some (vI (orN (fun v => soN (brK k (brg (kd k) v) rs kd sg) rg rp rl 0 nr.toNat = 1) 0 0 10)) ∧ MV np ns day nr tr fl rg kd nm sg pt ca rs rp rl th la ln ce μ')) := by
  refine Ct.of (by decide) (Nat.le_of_ble_eq_true rfl) (fun X C => ?_)
  obtain ⟨m42, m43, m44, m45, mB, mD, ⟨m52, m53, m54, m55, m56⟩, m57, m58, m59⟩ := id hV
  obtain ⟨m46, m47, m48, m49⟩ := id mB
  obtain ⟨at_, rP, rS, lp, lw, lf, sL, sF, h0⟩ := id m42
  obtain ⟨f43, h43, e43⟩ := id m43
  obtain ⟨f44, h44, e44⟩ := id m44
  obtain ⟨f45, h45, e45⟩ := id m45
  obtain ⟨f46, h46, e46⟩ := id m46
  obtain ⟨f47, h47, e47⟩ := id m47
  obtain ⟨f48, h48, e48⟩ := id m48
  obtain ⟨f49, h49, e49⟩ := id m49
  obtain ⟨pf, cf, h50, h51, hMR⟩ := id mD
  obtain ⟨f57, h57, e57⟩ := id m57
  obtain ⟨f58, h58, e58⟩ := id m58
  obtain ⟨f59, h59, e59⟩ := id m59
  obtain ⟨w0, w1, w2, w3, w4, w5, w6⟩ := id hW
  have L : ∀ (t : Nat) (v w : Int) (g : Int → Int), 0 ≤ v → 10 - v = (t : Int) → (0 ≤ k ∧ k < ns) → (∀ p, 0 ≤ p → p < ns → p ≠ k → g p = sg p) → rng w → orN (fun v => soN (brK k (brg (kd k) v) rs kd sg) rg rp rl 0 nr.toNat = 1) v w t = orN (fun v => soN (brK k (brg (kd k) v) rs kd sg) rg rp rl 0 nr.toNat = 1) 0 0 10 → PW K X 5 (QM K X (fun r μ' => (∀ a, a < 42 → μ' a = μ a) ∧ (if ¬ (0 ≤ k ∧ k < ns) then r = some (vI (-1)) ∧ MV np ns day nr tr fl rg kd nm sg pt ca rs rp rl th la ln ce μ' else r = some (vI (orN (fun v => soN (brK k (brg (kd k) v) rs kd sg) rg rp rl 0 nr.toNat = 1) 0 0 10)) ∧ MV np ns day nr tr fl rg kd nm sg pt ca rs rp rl th la ln ce μ'))) 22 [(4, vI v), (3, vI w), (2, vI (f49 k)), (0, vR 42), (1, vI k)] [] (mup μ 49 (mA 5 g)) := by
    intro t
    induction t with
    | zero =>
      intro v w g g1 g2 g3 g5 g7 g6
      rw [orN] at g6
      refine p_iload (pc := 22) C dX5_strengths_22 rfl ?_
      refine p_bipush (pc := 24) C dX5_strengths_24 (by decide) ?_
      refine p_icmp_gt (pc := 26) (tgt := 61) C dX5_strengths_26 (by decide) (fun c_26 => ?_) (fun h => by exfalso; omega)
      refine p_aload_n (pc := 61) C dX5_strengths_61 rfl ?_
      refine p_get (pc := 62) C fl_X5_28 dX5_strengths_62 ⟨by omega, by omega⟩ (by (repeat refine mg_n (by omega) ?_); first | assumption | exact mup_s _ _ _) (by rfl) ?_
      refine p_iload_n (pc := 65) C dX5_strengths_65 rfl ?_
      refine p_iload_n (pc := 66) C dX5_strengths_66 rfl ?_
      refine p_iast (pc := 67) C dX5_strengths_67 ⟨by omega, by omega⟩ (by (repeat refine mg_n (by omega) ?_); first | assumption | exact mup_s _ _ _) (by omega) ?_
      try refine p_mem (mup_mup _ _ _ _) ?_
      refine p_iload_n (pc := 68) C dX5_strengths_68 rfl ?_
      refine p_iret (pc := 69) C dX5_strengths_69 ?_
      refine ⟨fun q hq => by (repeat (refine mg_n (by omega) ?_)); rfl, ?_⟩
      rw [if_neg (by omega)]
      exact ⟨sv g6, MV_49 hV (fun p p0 p1 => by
        by_cases e : p = k
        · subst e; rw [fup_s]; exact e49 p p0 p1
        · rw [fup_n _ _ _ e]; exact g5 p p0 p1 e)⟩
    | succ t ih =>
      intro v w g g1 g2 g3 g5 g7 g6
      have hgk : ∀ p, 0 ≤ p → p < ns → fup g k v p = fup sg k v p := fun p p0 p1 => by
        by_cases e : p = k
        · subst e; rw [fup_s, fup_s]
        · rw [fup_n _ _ _ e, fup_n _ _ _ e]; exact g5 p p0 p1 e
      have uB : MB rg kd nm (fup sg k v) np ns (mup μ 49 (mA 5 (fup g k v))) := by
        obtain ⟨⟨a1, a2, a3⟩, ⟨b1, b2, b3⟩, ⟨c1, c2, c3⟩, ⟨d1, d2, d3⟩⟩ := id mB
        exact ⟨⟨a1, mg_n (by omega) a2, a3⟩, ⟨b1, mg_n (by omega) b2, b3⟩, ⟨c1, mg_n (by omega) c2, c3⟩, ⟨_, mup_s _ _ _, hgk⟩⟩
      have uN : WN ns kd nm (fup sg k v) := fun j j0 j1 => by
        obtain ⟨a1, a2, a3⟩ := w3 j j0 j1
        by_cases e : j = k
        · subst e; rw [fup_s]; exact ⟨a1, a2, by omega⟩
        · rw [fup_n _ _ _ e]; exact ⟨a1, a2, a3⟩
      have hbr : ∀ i, 0 ≤ i → i < nr → brg (kd (rs i)) (fup sg k v (rs i)) = brK k (brg (kd k) v) rs kd sg i := fun i i0 i1 => by
        unfold brK
        by_cases e : rs i = k
        · rw [if_pos e, e, fup_s]
        · rw [if_neg e, fup_n _ _ _ e]
      refine p_iload (pc := 22) C dX5_strengths_22 rfl ?_
      refine p_bipush (pc := 24) C dX5_strengths_24 (by decide) ?_
      refine p_icmp_gt (pc := 26) (tgt := 61) C dX5_strengths_26 (by decide) (fun h => by exfalso; omega) (fun c_26 => ?_)
      refine p_aload_n (pc := 29) C dX5_strengths_29 rfl ?_
      refine p_get (pc := 30) C fl_X5_28 dX5_strengths_30 ⟨by omega, by omega⟩ (by (repeat refine mg_n (by omega) ?_); first | assumption | exact mup_s _ _ _) (by rfl) ?_
      refine p_iload_n (pc := 33) C dX5_strengths_33 rfl ?_
      refine p_iload (pc := 34) C dX5_strengths_34 rfl ?_
      refine p_iast (pc := 36) C dX5_strengths_36 ⟨by omega, by omega⟩ (by (repeat refine mg_n (by omega) ?_); first | assumption | exact mup_s _ _ _) (by omega) ?_
      try refine p_mem (mup_mup _ _ _ _) ?_
      refine p_iload_n (pc := 37) C dX5_strengths_37 rfl ?_
      refine p_aload_n (pc := 38) C dX5_strengths_38 rfl ?_
      refine p_callVF (pc := 39) C ln_X5_215 dX5_strengths_39 (k_X5_areSo (rs := rs) (rp := rp) (rl := rl) (br := brK k (brg (kd k) v) rs kd sg) (mg_n (by omega) h0) (by omega) (by omega) uB (mg_n (by omega) h57) (mg_n (by omega) h58) (mg_n (by omega) h59) e57 e58 e59 uN w1 (fun i i0 i1 => ⟨(w5 i i0 i1).1, (w5 i i0 i1).2.1⟩) hbr) ⟨by omega, by omega⟩ (by (repeat refine mg_n (by omega) ?_); first | assumption | exact mup_s _ _ _) rfl rfl rfl rfl (Nat.le_of_ble_eq_true rfl) ?_
      refine p_ifeq_b (pc := 42) (tgt := 52) C dX5_strengths_42 (by decide) (fun c_42 => ?_) (fun c_42 => ?_)
      · refine p_iconst (pc := 52) C dX5_strengths_52 (by decide) ?_
        refine p_ior (pc := 53) C dX5_strengths_53 ?_
        refine p_istore_n (pc := 54) (ls' := [(3, _), (4, _), (2, _), (0, _), (1, _)]) C dX5_strengths_54 (by decide) rfl ?_
        refine p_iinc (pc := 55) (ls' := [(4, _), (3, _), (2, _), (0, _), (1, _)]) C dX5_strengths_55 (by decide) rfl ⟨by omega, by omega⟩ rfl ?_
        refine p_goto (pc := 58) (tgt := 22) C dX5_strengths_58 (by decide) ?_
        first
          | (rw [or_t (P := (fun v => soN (brK k (brg (kd k) v) rs kd sg) rg rp rl 0 nr.toNat = 1)) (v := v) c_42] at g6; exact ih (v + 1) _ _ (by omega) (by omega) g3 (fun p p0 p1 pk => by rw [fup_n _ _ _ pk]; exact g5 p p0 p1 pk) (iOr_r _ _) g6)
          | (rw [or_f (P := (fun v => soN (brK k (brg (kd k) v) rs kd sg) rg rp rl 0 nr.toNat = 1)) (v := v) c_42] at g6; refine p_ls (by rw [iOr_0 g7]) ?_; exact ih (v + 1) _ _ (by omega) (by omega) g3 (fun p p0 p1 pk => by rw [fup_n _ _ _ pk]; exact g5 p p0 p1 pk) g7 g6)
      · refine p_iconst (pc := 45) C dX5_strengths_45 (by decide) ?_
        refine p_iload (pc := 46) C dX5_strengths_46 rfl ?_
        refine p_ishl (pc := 48) C dX5_strengths_48 ?_
        refine p_goto (pc := 49) (tgt := 53) C dX5_strengths_49 (by decide) ?_
        refine p_ior (pc := 53) C dX5_strengths_53 ?_
        refine p_istore_n (pc := 54) (ls' := [(3, _), (4, _), (2, _), (0, _), (1, _)]) C dX5_strengths_54 (by decide) rfl ?_
        refine p_iinc (pc := 55) (ls' := [(4, _), (3, _), (2, _), (0, _), (1, _)]) C dX5_strengths_55 (by decide) rfl ⟨by omega, by omega⟩ rfl ?_
        refine p_goto (pc := 58) (tgt := 22) C dX5_strengths_58 (by decide) ?_
        first
          | (rw [or_t (P := (fun v => soN (brK k (brg (kd k) v) rs kd sg) rg rp rl 0 nr.toNat = 1)) (v := v) c_42] at g6; exact ih (v + 1) _ _ (by omega) (by omega) g3 (fun p p0 p1 pk => by rw [fup_n _ _ _ pk]; exact g5 p p0 p1 pk) (iOr_r _ _) g6)
          | (rw [or_f (P := (fun v => soN (brK k (brg (kd k) v) rs kd sg) rg rp rl 0 nr.toNat = 1)) (v := v) c_42] at g6; refine p_ls (by rw [iOr_0 g7]) ?_; exact ih (v + 1) _ _ (by omega) (by omega) g3 (fun p p0 p1 pk => by rw [fup_n _ _ _ pk]; exact g5 p p0 p1 pk) g7 g6)
  refine p_aload_n (pc := 0) C dX5_strengths_0 rfl ?_
  refine p_iload_n (pc := 1) C dX5_strengths_1 rfl ?_
  refine p_callVF (pc := 2) C ln_X5_127 dX5_strengths_2 (k_X5_isShip (by (repeat refine mg_n (by omega) ?_); first | assumption | exact mup_s _ _ _)) ⟨by omega, by omega⟩ (by (repeat refine mg_n (by omega) ?_); first | assumption | exact mup_s _ _ _) rfl rfl rfl rfl (Nat.le_of_ble_eq_true rfl) ?_
  refine p_ifne_b (pc := 5) (tgt := 10) C dX5_strengths_5 (by decide) (fun c_5 => ?_) (fun c_5 => ?_)
  · refine p_aload_n (pc := 10) C dX5_strengths_10 rfl ?_
    refine p_get (pc := 11) C fl_X5_28 dX5_strengths_11 ⟨by omega, by omega⟩ (by (repeat refine mg_n (by omega) ?_); first | assumption | exact mup_s _ _ _) (by rfl) ?_
    refine p_iload_n (pc := 14) C dX5_strengths_14 rfl ?_
    refine p_iald (pc := 15) C dX5_strengths_15 ⟨by omega, by omega⟩ (by (repeat refine mg_n (by omega) ?_); first | assumption | exact mup_s _ _ _) (by omega) ?_
    refine p_istore_n (pc := 16) (ls' := [(2, _), (0, _), (1, _)]) C dX5_strengths_16 (by decide) rfl ?_
    refine p_iconst (pc := 17) C dX5_strengths_17 (by decide) ?_
    refine p_istore_n (pc := 18) (ls' := [(3, _), (2, _), (0, _), (1, _)]) C dX5_strengths_18 (by decide) rfl ?_
    refine p_iconst (pc := 19) C dX5_strengths_19 (by decide) ?_
    refine p_istore (pc := 20) (ls' := [(4, _), (3, _), (2, _), (0, _), (1, _)]) C dX5_strengths_20 (by decide) rfl ?_
    refine p_mem (mup_id h49).symm (L 10 0 0 f49 (by omega) (by omega) (by omega) (fun p p0 p1 _ => e49 p p0 p1) (by decide) rfl)
  · refine p_iconst (pc := 8) C dX5_strengths_8 (by decide) ?_
    refine p_iret (pc := 9) C dX5_strengths_9 ?_
    first
      | (exfalso; omega)
      | (refine ⟨fun q hq => by (repeat (refine mg_n (by omega) ?_)); rfl, ?_⟩; rw [if_pos (by omega)]; exact ⟨rfl, hV⟩)

set_option maxHeartbeats 4000000 in
set_option maxRecDepth 100000 in
theorem q_X5_kinds {K : KX} {d : Nat} {μ : Int → ME} {k : Int} {np ns day nr tr fl : Int} {rg kd nm sg pt : Int → Int} {ca : Int → Int → Int} {rs rp rl th la ln : Int → Int} {ce : Int → Int → Int} (hV : MV np ns day nr tr fl rg kd nm sg pt ca rs rp rl th la ln ce μ) (hW : WF np ns day nr tr fl rg kd nm sg pt ca rs rp rl th la ln ce) : Ct K (d + 3) yX5_kinds cX5_kinds 5 (some .int) [vR 42, vI k] μ (fun r μ' => (∀ a, a < 42 → μ' a = μ a) ∧ (if ¬ (0 ≤ k ∧ k < ns) then r = some (vI (-1)) ∧ MV np ns day nr tr fl rg kd nm sg pt ca rs rp rl th la ln ce μ' else r = some (vI (orN (fun v => soN (brK k (brg v (sg k)) rs kd sg) rg rp rl 0 nr.toNat = 1) 0 0 3)) ∧ MV np ns day nr tr fl rg kd nm sg pt ca rs rp rl th la ln ce μ')) := by
  refine Ct.of (by decide) (Nat.le_of_ble_eq_true rfl) (fun X C => ?_)
  obtain ⟨m42, m43, m44, m45, mB, mD, ⟨m52, m53, m54, m55, m56⟩, m57, m58, m59⟩ := id hV
  obtain ⟨m46, m47, m48, m49⟩ := id mB
  obtain ⟨at_, rP, rS, lp, lw, lf, sL, sF, h0⟩ := id m42
  obtain ⟨f43, h43, e43⟩ := id m43
  obtain ⟨f44, h44, e44⟩ := id m44
  obtain ⟨f45, h45, e45⟩ := id m45
  obtain ⟨f46, h46, e46⟩ := id m46
  obtain ⟨f47, h47, e47⟩ := id m47
  obtain ⟨f48, h48, e48⟩ := id m48
  obtain ⟨f49, h49, e49⟩ := id m49
  obtain ⟨pf, cf, h50, h51, hMR⟩ := id mD
  obtain ⟨f57, h57, e57⟩ := id m57
  obtain ⟨f58, h58, e58⟩ := id m58
  obtain ⟨f59, h59, e59⟩ := id m59
  obtain ⟨w0, w1, w2, w3, w4, w5, w6⟩ := id hW
  have L : ∀ (t : Nat) (v w : Int) (g : Int → Int), 0 ≤ v → 3 - v = (t : Int) → (0 ≤ k ∧ k < ns) → (∀ p, 0 ≤ p → p < ns → p ≠ k → g p = kd p) → rng w → orN (fun v => soN (brK k (brg v (sg k)) rs kd sg) rg rp rl 0 nr.toNat = 1) v w t = orN (fun v => soN (brK k (brg v (sg k)) rs kd sg) rg rp rl 0 nr.toNat = 1) 0 0 3 → PW K X 5 (QM K X (fun r μ' => (∀ a, a < 42 → μ' a = μ a) ∧ (if ¬ (0 ≤ k ∧ k < ns) then r = some (vI (-1)) ∧ MV np ns day nr tr fl rg kd nm sg pt ca rs rp rl th la ln ce μ' else r = some (vI (orN (fun v => soN (brK k (brg v (sg k)) rs kd sg) rg rp rl 0 nr.toNat = 1) 0 0 3)) ∧ MV np ns day nr tr fl rg kd nm sg pt ca rs rp rl th la ln ce μ'))) 22 [(4, vI v), (3, vI w), (2, vI (f47 k)), (0, vR 42), (1, vI k)] [] (mup μ 47 (mA 5 g)) := by
    intro t
    induction t with
    | zero =>
      intro v w g g1 g2 g3 g5 g7 g6
      rw [orN] at g6
      refine p_iload (pc := 22) C dX5_kinds_22 rfl ?_
      refine p_iconst (pc := 24) C dX5_kinds_24 (by decide) ?_
      refine p_icmp_ge (pc := 25) (tgt := 60) C dX5_kinds_25 (by decide) (fun c_25 => ?_) (fun h => by exfalso; omega)
      refine p_aload_n (pc := 60) C dX5_kinds_60 rfl ?_
      refine p_get (pc := 61) C fl_X5_22 dX5_kinds_61 ⟨by omega, by omega⟩ (by (repeat refine mg_n (by omega) ?_); first | assumption | exact mup_s _ _ _) (by rfl) ?_
      refine p_iload_n (pc := 64) C dX5_kinds_64 rfl ?_
      refine p_iload_n (pc := 65) C dX5_kinds_65 rfl ?_
      refine p_iast (pc := 66) C dX5_kinds_66 ⟨by omega, by omega⟩ (by (repeat refine mg_n (by omega) ?_); first | assumption | exact mup_s _ _ _) (by omega) ?_
      try refine p_mem (mup_mup _ _ _ _) ?_
      refine p_iload_n (pc := 67) C dX5_kinds_67 rfl ?_
      refine p_iret (pc := 68) C dX5_kinds_68 ?_
      refine ⟨fun q hq => by (repeat (refine mg_n (by omega) ?_)); rfl, ?_⟩
      rw [if_neg (by omega)]
      exact ⟨sv g6, MV_47 hV (fun p p0 p1 => by
        by_cases e : p = k
        · subst e; rw [fup_s]; exact e47 p p0 p1
        · rw [fup_n _ _ _ e]; exact g5 p p0 p1 e)⟩
    | succ t ih =>
      intro v w g g1 g2 g3 g5 g7 g6
      have hgk : ∀ p, 0 ≤ p → p < ns → fup g k v p = fup kd k v p := fun p p0 p1 => by
        by_cases e : p = k
        · subst e; rw [fup_s, fup_s]
        · rw [fup_n _ _ _ e, fup_n _ _ _ e]; exact g5 p p0 p1 e
      have uB : MB rg (fup kd k v) nm sg np ns (mup μ 47 (mA 5 (fup g k v))) := by
        obtain ⟨⟨a1, a2, a3⟩, ⟨b1, b2, b3⟩, ⟨c1, c2, c3⟩, ⟨d1, d2, d3⟩⟩ := id mB
        exact ⟨⟨a1, mg_n (by omega) a2, a3⟩, ⟨_, mup_s _ _ _, hgk⟩, ⟨c1, mg_n (by omega) c2, c3⟩, ⟨d1, mg_n (by omega) d2, d3⟩⟩
      have uN : WN ns (fup kd k v) nm sg := fun j j0 j1 => by
        obtain ⟨a1, a2, a3⟩ := w3 j j0 j1
        by_cases e : j = k
        · subst e; rw [fup_s]; exact ⟨by omega, a2, a3⟩
        · rw [fup_n _ _ _ e]; exact ⟨a1, a2, a3⟩
      have hbr : ∀ i, 0 ≤ i → i < nr → brg (fup kd k v (rs i)) (sg (rs i)) = brK k (brg v (sg k)) rs kd sg i := fun i i0 i1 => by
        unfold brK
        by_cases e : rs i = k
        · rw [if_pos e, e, fup_s]
        · rw [if_neg e, fup_n _ _ _ e]
      refine p_iload (pc := 22) C dX5_kinds_22 rfl ?_
      refine p_iconst (pc := 24) C dX5_kinds_24 (by decide) ?_
      refine p_icmp_ge (pc := 25) (tgt := 60) C dX5_kinds_25 (by decide) (fun h => by exfalso; omega) (fun c_25 => ?_)
      refine p_aload_n (pc := 28) C dX5_kinds_28 rfl ?_
      refine p_get (pc := 29) C fl_X5_22 dX5_kinds_29 ⟨by omega, by omega⟩ (by (repeat refine mg_n (by omega) ?_); first | assumption | exact mup_s _ _ _) (by rfl) ?_
      refine p_iload_n (pc := 32) C dX5_kinds_32 rfl ?_
      refine p_iload (pc := 33) C dX5_kinds_33 rfl ?_
      refine p_iast (pc := 35) C dX5_kinds_35 ⟨by omega, by omega⟩ (by (repeat refine mg_n (by omega) ?_); first | assumption | exact mup_s _ _ _) (by omega) ?_
      try refine p_mem (mup_mup _ _ _ _) ?_
      refine p_iload_n (pc := 36) C dX5_kinds_36 rfl ?_
      refine p_aload_n (pc := 37) C dX5_kinds_37 rfl ?_
      refine p_callVF (pc := 38) C ln_X5_215 dX5_kinds_38 (k_X5_areSo (rs := rs) (rp := rp) (rl := rl) (br := brK k (brg v (sg k)) rs kd sg) (mg_n (by omega) h0) (by omega) (by omega) uB (mg_n (by omega) h57) (mg_n (by omega) h58) (mg_n (by omega) h59) e57 e58 e59 uN w1 (fun i i0 i1 => ⟨(w5 i i0 i1).1, (w5 i i0 i1).2.1⟩) hbr) ⟨by omega, by omega⟩ (by (repeat refine mg_n (by omega) ?_); first | assumption | exact mup_s _ _ _) rfl rfl rfl rfl (Nat.le_of_ble_eq_true rfl) ?_
      refine p_ifeq_b (pc := 41) (tgt := 51) C dX5_kinds_41 (by decide) (fun c_41 => ?_) (fun c_41 => ?_)
      · refine p_iconst (pc := 51) C dX5_kinds_51 (by decide) ?_
        refine p_ior (pc := 52) C dX5_kinds_52 ?_
        refine p_istore_n (pc := 53) (ls' := [(3, _), (4, _), (2, _), (0, _), (1, _)]) C dX5_kinds_53 (by decide) rfl ?_
        refine p_iinc (pc := 54) (ls' := [(4, _), (3, _), (2, _), (0, _), (1, _)]) C dX5_kinds_54 (by decide) rfl ⟨by omega, by omega⟩ rfl ?_
        refine p_goto (pc := 57) (tgt := 22) C dX5_kinds_57 (by decide) ?_
        first
          | (rw [or_t (P := (fun v => soN (brK k (brg v (sg k)) rs kd sg) rg rp rl 0 nr.toNat = 1)) (v := v) c_41] at g6; exact ih (v + 1) _ _ (by omega) (by omega) g3 (fun p p0 p1 pk => by rw [fup_n _ _ _ pk]; exact g5 p p0 p1 pk) (iOr_r _ _) g6)
          | (rw [or_f (P := (fun v => soN (brK k (brg v (sg k)) rs kd sg) rg rp rl 0 nr.toNat = 1)) (v := v) c_41] at g6; refine p_ls (by rw [iOr_0 g7]) ?_; exact ih (v + 1) _ _ (by omega) (by omega) g3 (fun p p0 p1 pk => by rw [fup_n _ _ _ pk]; exact g5 p p0 p1 pk) g7 g6)
      · refine p_iconst (pc := 44) C dX5_kinds_44 (by decide) ?_
        refine p_iload (pc := 45) C dX5_kinds_45 rfl ?_
        refine p_ishl (pc := 47) C dX5_kinds_47 ?_
        refine p_goto (pc := 48) (tgt := 52) C dX5_kinds_48 (by decide) ?_
        refine p_ior (pc := 52) C dX5_kinds_52 ?_
        refine p_istore_n (pc := 53) (ls' := [(3, _), (4, _), (2, _), (0, _), (1, _)]) C dX5_kinds_53 (by decide) rfl ?_
        refine p_iinc (pc := 54) (ls' := [(4, _), (3, _), (2, _), (0, _), (1, _)]) C dX5_kinds_54 (by decide) rfl ⟨by omega, by omega⟩ rfl ?_
        refine p_goto (pc := 57) (tgt := 22) C dX5_kinds_57 (by decide) ?_
        first
          | (rw [or_t (P := (fun v => soN (brK k (brg v (sg k)) rs kd sg) rg rp rl 0 nr.toNat = 1)) (v := v) c_41] at g6; exact ih (v + 1) _ _ (by omega) (by omega) g3 (fun p p0 p1 pk => by rw [fup_n _ _ _ pk]; exact g5 p p0 p1 pk) (iOr_r _ _) g6)
          | (rw [or_f (P := (fun v => soN (brK k (brg v (sg k)) rs kd sg) rg rp rl 0 nr.toNat = 1)) (v := v) c_41] at g6; refine p_ls (by rw [iOr_0 g7]) ?_; exact ih (v + 1) _ _ (by omega) (by omega) g3 (fun p p0 p1 pk => by rw [fup_n _ _ _ pk]; exact g5 p p0 p1 pk) g7 g6)
  refine p_aload_n (pc := 0) C dX5_kinds_0 rfl ?_
  refine p_iload_n (pc := 1) C dX5_kinds_1 rfl ?_
  refine p_callVF (pc := 2) C ln_X5_127 dX5_kinds_2 (k_X5_isShip (by (repeat refine mg_n (by omega) ?_); first | assumption | exact mup_s _ _ _)) ⟨by omega, by omega⟩ (by (repeat refine mg_n (by omega) ?_); first | assumption | exact mup_s _ _ _) rfl rfl rfl rfl (Nat.le_of_ble_eq_true rfl) ?_
  refine p_ifne_b (pc := 5) (tgt := 10) C dX5_kinds_5 (by decide) (fun c_5 => ?_) (fun c_5 => ?_)
  · refine p_aload_n (pc := 10) C dX5_kinds_10 rfl ?_
    refine p_get (pc := 11) C fl_X5_22 dX5_kinds_11 ⟨by omega, by omega⟩ (by (repeat refine mg_n (by omega) ?_); first | assumption | exact mup_s _ _ _) (by rfl) ?_
    refine p_iload_n (pc := 14) C dX5_kinds_14 rfl ?_
    refine p_iald (pc := 15) C dX5_kinds_15 ⟨by omega, by omega⟩ (by (repeat refine mg_n (by omega) ?_); first | assumption | exact mup_s _ _ _) (by omega) ?_
    refine p_istore_n (pc := 16) (ls' := [(2, _), (0, _), (1, _)]) C dX5_kinds_16 (by decide) rfl ?_
    refine p_iconst (pc := 17) C dX5_kinds_17 (by decide) ?_
    refine p_istore_n (pc := 18) (ls' := [(3, _), (2, _), (0, _), (1, _)]) C dX5_kinds_18 (by decide) rfl ?_
    refine p_iconst (pc := 19) C dX5_kinds_19 (by decide) ?_
    refine p_istore (pc := 20) (ls' := [(4, _), (3, _), (2, _), (0, _), (1, _)]) C dX5_kinds_20 (by decide) rfl ?_
    refine p_mem (mup_id h47).symm (L 3 0 0 f47 (by omega) (by omega) (by omega) (fun p p0 p1 _ => e47 p p0 p1) (by decide) rfl)
  · refine p_iconst (pc := 8) C dX5_kinds_8 (by decide) ?_
    refine p_iret (pc := 9) C dX5_kinds_9 ?_
    first
      | (exfalso; omega)
      | (refine ⟨fun q hq => by (repeat (refine mg_n (by omega) ?_)); rfl, ?_⟩; rw [if_pos (by omega)]; exact ⟨rfl, hV⟩)
