/-- the reference between keep and putBack: kept are the ports and loads S0 -/
def KP (ns : Int) (S0 : DS) (μ ν : Int → ME) : Prop := (∃ p c : Int → Int, ν 54 = mA 5 p ∧ ν 55 = mA 20 c ∧ MR ns S0 p c) ∧ (∀ x, x ≠ 50 → x ≠ 51 → x ≠ 54 → x ≠ 55 → ν x = μ x)
theorem MR_kp {ns : Int} {S : DS} {p c x y : Int → Int} (h : MR ns S p c) (hx : ∀ k, 0 ≤ k → k < ns → x k = p k) (hy : ∀ q, 0 ≤ q → q < 4 * ns → y q = c q) : MR ns S x y := fun k k0 k1 => by
  obtain ⟨a1, a2⟩ := h k k0 k1
  refine ⟨by rw [hx k k0 k1]; exact a1, fun g g0 g1 => ?_⟩
  rw [hy (4 * k + g) (by omega) (by omega)]; exact a2 g g0 g1
theorem MV_back {np ns day nr tr fl : Int} {rg kd nm sg pt : Int → Int} {ca : Int → Int → Int} {rs rp rl th la ln : Int → Int} {ce : Int → Int → Int} {μ ν : Int → ME} {x y : Int → Int} (h : MV np ns day nr tr fl rg kd nm sg pt ca rs rp rl th la ln ce μ) (hK : KP ns (pt, ca, 0, 0, -9) μ ν) (hR : MR ns (pt, ca, 0, 0, -9) x y) : MV np ns day nr tr fl rg kd nm sg pt ca rs rp rl th la ln ce (mup (mup ν 50 (mA 5 x)) 51 (mA 20 y)) := by
  obtain ⟨m42, m43, m44, m45, ⟨m46, m47, m48, m49⟩, mD, ⟨m52, m53, m54, m55, m56⟩, m57, m58, m59⟩ := h
  obtain ⟨⟨p, c, h54, h55, -⟩, ho⟩ := hK
  have e : ∀ z, z ≠ 50 → z ≠ 51 → z ≠ 54 → z ≠ 55 → mup (mup ν 50 (mA 5 x)) 51 (mA 20 y) z = μ z := fun z z0 z1 z2 z3 => mg_n z1 (mg_n z0 (ho z z0 z1 z2 z3))
  refine ⟨?_, ?_, ?_, ?_, ⟨?_, ?_, ?_, ?_⟩, ⟨x, y, mg_n (by omega) (mup_s _ _ _), mup_s _ _ _, hR⟩, ⟨?_, ?_, ⟨p, mg_n (by omega) (mg_n (by omega) h54)⟩, ⟨c, mg_n (by omega) (mg_n (by omega) h55)⟩, ?_⟩, ?_, ?_, ?_⟩
  · rw [e 42 (by omega) (by omega) (by omega) (by omega)]; exact m42
  · rw [e 43 (by omega) (by omega) (by omega) (by omega)]; exact m43
  · rw [e 44 (by omega) (by omega) (by omega) (by omega)]; exact m44
  · rw [e 45 (by omega) (by omega) (by omega) (by omega)]; exact m45
  · rw [e 46 (by omega) (by omega) (by omega) (by omega)]; exact m46
  · rw [e 47 (by omega) (by omega) (by omega) (by omega)]; exact m47
  · rw [e 48 (by omega) (by omega) (by omega) (by omega)]; exact m48
  · rw [e 49 (by omega) (by omega) (by omega) (by omega)]; exact m49
  · rw [e 52 (by omega) (by omega) (by omega) (by omega)]; exact m52
  · rw [e 53 (by omega) (by omega) (by omega) (by omega)]; exact m53
  · rw [e 56 (by omega) (by omega) (by omega) (by omega)]; exact m56
  · rw [e 57 (by omega) (by omega) (by omega) (by omega)]; exact m57
  · rw [e 58 (by omega) (by omega) (by omega) (by omega)]; exact m58
  · rw [e 59 (by omega) (by omega) (by omega) (by omega)]; exact m59
theorem MB_k {rg kd nm sg : Int → Int} {np ns : Int} {μ ν : Int → ME} (h : MB rg kd nm sg np ns μ) (ho : ∀ x, x ≠ 50 → x ≠ 51 → x ≠ 54 → x ≠ 55 → ν x = μ x) : MB rg kd nm sg np ns ν := by
  unfold MB
  rw [ho 46 (by omega) (by omega) (by omega) (by omega), ho 47 (by omega) (by omega) (by omega) (by omega), ho 48 (by omega) (by omega) (by omega) (by omega), ho 49 (by omega) (by omega) (by omega) (by omega)]
  exact h

theorem keep_s {np : Int} {rg kd nm sg : Int → Int} {k : Int} {S : DS} (hne : S.2.1 k (nm k) ≠ 0) (hn : 0 ≤ nm k := by omega) : (stS np rg kd nm sg k S).2.1 k (nm k) = (if brg (kd k) (sg k) < rg (S.1 k) then S.2.1 k (nm k) - 1 else S.2.1 k (nm k)) := by
  have e : (stS np rg kd nm sg k S).2.1 k = sdF (S.2.1 k) (dsG rg kd nm sg k S) := cup_s _ _ _
  rw [e]
  have hg : gtg (S.2.1 k) (nm k) = nm k := if_pos hne
  by_cases h : brg (kd k) (sg k) < rg (S.1 k)
  · have hd : dsG rg kd nm sg k S = nm k := (if_pos h).trans hg
    rw [if_pos h, hd]; unfold sdF; rw [if_neg (by omega), fup_s]
  · have hd : dsG rg kd nm sg k S = -9 := if_neg h
    rw [if_neg h, hd]; unfold sdF; rw [if_pos rfl]

set_option maxHeartbeats 4000000 in
set_option maxRecDepth 100000 in
theorem q_X5_keeps {K : KX} {d : Nat} {μ : Int → ME} {k : Int} {np ns day nr tr fl : Int} {rg kd nm sg pt : Int → Int} {ca : Int → Int → Int} {rs rp rl th la ln : Int → Int} {ce : Int → Int → Int} (hV : MV np ns day nr tr fl rg kd nm sg pt ca rs rp rl th la ln ce μ) (hW : WF np ns day nr tr fl rg kd nm sg pt ca rs rp rl th la ln ce) : Ct K (d + 3) yX5_keeps cX5_keeps 3 (some .int) [vR 42, vI k] μ (fun r μ' => (∀ a, a < 42 → μ' a = μ a) ∧ (if ¬ (0 ≤ k ∧ k < ns) then r = some (vI (-1)) ∧ MV np ns day nr tr fl rg kd nm sg pt ca rs rp rl th la ln ce μ' else r = some (vI (kpT np rg (brg (kd k) (sg k)) (pt k) (ca k (nm k)))) ∧ MV np ns day nr tr fl rg kd nm sg pt ca rs rp rl th la ln ce μ')) := by
  refine Ct.of (by decide) (Nat.le_of_ble_eq_true rfl) (fun X C => ?_)
  obtain ⟨m42, m43, m44, m45, mB, mD, ⟨m52, m53, m54, m55, m56⟩, m57, m58, m59⟩ := id hV
  obtain ⟨m46, m47, m48, m49⟩ := id mB
  obtain ⟨at_, rP, rS, lp, lw, lf, sL, sF, h0⟩ := id m42
  obtain ⟨f43, h43, e43⟩ := id m43
  obtain ⟨f44, h44, e44⟩ := id m44
  obtain ⟨f45, h45, e45⟩ := id m45
  obtain ⟨f46, h46, e46⟩ := id m46
  obtain ⟨f47, h47, e47⟩ := id m47
  obtain ⟨f48, h48, e48⟩ := id m48
  obtain ⟨f49, h49, e49⟩ := id m49
  obtain ⟨pf, cf, h50, h51, hMR⟩ := id mD
  obtain ⟨f57, h57, e57⟩ := id m57
  obtain ⟨f58, h58, e58⟩ := id m58
  obtain ⟨f59, h59, e59⟩ := id m59
  obtain ⟨w0, w1, w2, w3, w4, w5, w6⟩ := id hW
  obtain ⟨f54, h54⟩ := id m54
  obtain ⟨f55, h55⟩ := id m55
  have L31 : ∀ (S1 : DS) (ν : Int → ME), (0 ≤ k ∧ k < ns) → KP ns (pt, ca, 0, 0, -9) μ ν → (∃ p c : Int → Int, ν 50 = mA 5 p ∧ ν 51 = mA 20 c ∧ MR ns S1 p c) → WS np ns S1 → kpT np rg (brg (kd k) (sg k)) (pt k) (ca k (nm k)) = -9 → PW K X 3 (QM K X (fun r μ' => (∀ a, a < 42 → μ' a = μ a) ∧ (if ¬ (0 ≤ k ∧ k < ns) then r = some (vI (-1)) ∧ MV np ns day nr tr fl rg kd nm sg pt ca rs rp rl th la ln ce μ' else r = some (vI (kpT np rg (brg (kd k) (sg k)) (pt k) (ca k (nm k)))) ∧ MV np ns day nr tr fl rg kd nm sg pt ca rs rp rl th la ln ce μ'))) 16 [(2, vI 31), (0, vR 42), (1, vI k)] [] ν := by
    intro S1 ν g3 g4 g5 g7 g8
    obtain ⟨p1, c1, u50, u51, uR⟩ := id g5
    obtain ⟨⟨p4, c4, u54, u55, uK⟩, uo⟩ := id g4
    have u0 : ν 42 = oM fl tr np ns day at_ rP rS lp lw lf sL sF nr := (uo 42 (by omega) (by omega) (by omega) (by omega)).trans h0
    have uB := MB_k mB uo
    have us := (uR k (by omega) (by omega)).2 (nm k) (w3 k (by omega) (by omega)).2.1.1 (w3 k (by omega) (by omega)).2.1.2
    refine p_iload_n (pc := 16) C dX5_keeps_16 rfl ?_
    refine p_bipush (pc := 17) C dX5_keeps_17 (by decide) ?_
    refine p_icmp_gt (pc := 19) (tgt := 42) C dX5_keeps_19 (by decide) (fun c_19 => ?_) (fun h => absurd h (by decide))
    refine p_aload_n (pc := 42) C dX5_keeps_42 rfl ?_
    refine p_callVV (pc := 43) C ln_X5_186 dX5_keeps_43 (k_X5_putBack u0 (by omega) u54 u55 u50 u51) ⟨by omega, by omega⟩ (by (repeat refine mg_n (by omega) ?_); first | assumption | exact mup_s _ _ _) rfl rfl rfl rfl (Nat.le_of_ble_eq_true rfl) (fun μ' hpost => ?_)
    obtain ⟨x, y, rfl, hx, hy⟩ := hpost
    refine p_iload_n (pc := 46) C dX5_keeps_46 rfl ?_
    refine p_bipush (pc := 47) C dX5_keeps_47 (by decide) ?_
    refine p_icmp_gt (pc := 49) (tgt := 56) C dX5_keeps_49 (by decide) (fun c_49 => ?_) (fun h => absurd h (by decide))
    refine p_bipush (pc := 56) C dX5_keeps_56 (by decide) ?_
    refine p_iret (pc := 58) C dX5_keeps_58 ?_
    refine ⟨fun q hq => (mg_n (by omega) (mg_n (by omega) (uo q (by omega) (by omega) (by omega) (by omega)))), ?_⟩
    rw [if_neg (by omega)]
    exact ⟨sv (by rw [g8]), MV_back hV g4 (MR_kp uK hx hy)⟩
  have L : ∀ (t : Nat) (e : Int) (S1 : DS) (ν : Int → ME), 0 ≤ e → 30 - e = (t : Int) → (0 ≤ k ∧ k < ns) → KP ns (pt, ca, 0, 0, -9) μ ν → (∃ p c : Int → Int, ν 50 = mA 5 p ∧ ν 51 = mA 20 c ∧ MR ns S1 p c) → WS np ns S1 → kpN np rg (brg (kd k) (sg k)) (S1.1 k) (S1.2.1 k (nm k)) e t = kpT np rg (brg (kd k) (sg k)) (pt k) (ca k (nm k)) → PW K X 3 (QM K X (fun r μ' => (∀ a, a < 42 → μ' a = μ a) ∧ (if ¬ (0 ≤ k ∧ k < ns) then r = some (vI (-1)) ∧ MV np ns day nr tr fl rg kd nm sg pt ca rs rp rl th la ln ce μ' else r = some (vI (kpT np rg (brg (kd k) (sg k)) (pt k) (ca k (nm k)))) ∧ MV np ns day nr tr fl rg kd nm sg pt ca rs rp rl th la ln ce μ'))) 16 [(2, vI e), (0, vR 42), (1, vI k)] [] ν := by
    intro t
    induction t with
    | zero =>
      intro e S1 ν g1 g2 g3 g4 g5 g7 g8
      obtain ⟨p1, c1, u50, u51, uR⟩ := id g5
      obtain ⟨⟨p4, c4, u54, u55, uK⟩, uo⟩ := id g4
      have u0 : ν 42 = oM fl tr np ns day at_ rP rS lp lw lf sL sF nr := (uo 42 (by omega) (by omega) (by omega) (by omega)).trans h0
      have uB := MB_k mB uo
      have us := (uR k (by omega) (by omega)).2 (nm k) (w3 k (by omega) (by omega)).2.1.1 (w3 k (by omega) (by omega)).2.1.2
      rw [kpN] at g8
      have n2 := (w3 k (by omega) (by omega)).2.1
      refine p_iload_n (pc := 16) C dX5_keeps_16 rfl ?_
      refine p_bipush (pc := 17) C dX5_keeps_17 (by decide) ?_
      refine p_icmp_gt (pc := 19) (tgt := 42) C dX5_keeps_19 (by decide) (fun h => by exfalso; omega) (fun c_19 => ?_)
      refine p_aload_n (pc := 22) C dX5_keeps_22 rfl ?_
      refine p_iload_n (pc := 23) C dX5_keeps_23 rfl ?_
      refine p_callVF (pc := 24) C ln_X5_133 dX5_keeps_24 (k_X5_isMet u0 (by omega) (by omega) uB (by omega) u51 w3) ⟨by omega, by omega⟩ (by (repeat refine mg_n (by omega) ?_); first | assumption | exact mup_s _ _ _) rfl rfl rfl rfl (Nat.le_of_ble_eq_true rfl) ?_
      refine p_ifne_b (pc := 27) (tgt := 42) C dX5_keeps_27 (by decide) (fun c_27 => ?_) (fun c_27 => ?_)
      · refine p_aload_n (pc := 42) C dX5_keeps_42 rfl ?_
        refine p_callVV (pc := 43) C ln_X5_186 dX5_keeps_43 (k_X5_putBack u0 (by omega) u54 u55 u50 u51) ⟨by omega, by omega⟩ (by (repeat refine mg_n (by omega) ?_); first | assumption | exact mup_s _ _ _) rfl rfl rfl rfl (Nat.le_of_ble_eq_true rfl) (fun μ' hpost => ?_)
        obtain ⟨x, y, rfl, hx, hy⟩ := hpost
        refine p_iload_n (pc := 46) C dX5_keeps_46 rfl ?_
        refine p_bipush (pc := 47) C dX5_keeps_47 (by decide) ?_
        refine p_icmp_gt (pc := 49) (tgt := 56) C dX5_keeps_49 (by decide) (fun c_49 => ?_) (fun c_49 => ?_)
        · refine p_bipush (pc := 56) C dX5_keeps_56 (by decide) ?_
          refine p_iret (pc := 58) C dX5_keeps_58 ?_
          first
            | (exfalso; omega)
            | (refine ⟨fun q hq => (mg_n (by omega) (mg_n (by omega) (uo q (by omega) (by omega) (by omega) (by omega)))), ?_⟩; rw [if_neg (by omega)]; exact ⟨sv (by rw [← g8, if_pos (by omega)]), MV_back hV g4 (MR_kp uK hx hy)⟩)
        · refine p_iload_n (pc := 52) C dX5_keeps_52 rfl ?_
          refine p_goto (pc := 53) (tgt := 58) C dX5_keeps_53 (by decide) ?_
          refine p_iret (pc := 58) C dX5_keeps_58 ?_
          first
            | (exfalso; omega)
            | (refine ⟨fun q hq => (mg_n (by omega) (mg_n (by omega) (uo q (by omega) (by omega) (by omega) (by omega)))), ?_⟩; rw [if_neg (by omega)]; exact ⟨sv (by rw [← g8, if_pos (by omega)]), MV_back hV g4 (MR_kp uK hx hy)⟩)
      · refine p_aload_n (pc := 30) C dX5_keeps_30 rfl ?_
        refine p_iload_n (pc := 31) C dX5_keeps_31 rfl ?_
        refine p_callVI (pc := 32) C ln_X5_154 dX5_keeps_32 (k_X5_goesOn (S := S1) u0 (by omega) (by omega) uB (by omega) u51 u50 uR g7 w3) ⟨by omega, by omega⟩ (by (repeat refine mg_n (by omega) ?_); first | assumption | exact mup_s _ _ _) rfl rfl rfl rfl (Nat.le_of_ble_eq_true rfl) (fun z μ' hpost => ?_)
        obtain ⟨hz, p2, c2, rfl, hmr⟩ := hpost
        have hne : ¬ S1.2.1 k (nm k) = 0 := by omega
        rw [if_neg hne] at g8
        refine p_pop (pc := 35) C dX5_keeps_35 rfl ?_
        refine p_iinc (pc := 36) (ls' := [(2, _), (0, _), (1, _)]) C dX5_keeps_36 (by decide) rfl ⟨by omega, by omega⟩ rfl ?_
        refine p_goto (pc := 39) (tgt := 16) C dX5_keeps_39 (by decide) ?_
        refine p_ls (by rw [show e + 1 = 31 by omega]) ?_
        exact L31 (stS np rg kd nm sg k S1) _ g3 ⟨⟨p4, c4, mg_n (by omega) (mg_n (by omega) u54), mg_n (by omega) (mg_n (by omega) u55), uK⟩, fun z z0 z1 z2 z3 => mg_n z0 (mg_n z1 (uo z z0 z1 z2 z3))⟩ ⟨p2, c2, mup_s _ _ _, mg_n (by omega) (mup_s _ _ _), hmr⟩ (WS_st g7 w3 g3.1 g3.2) g8.symm
    | succ t ih =>
      intro e S1 ν g1 g2 g3 g4 g5 g7 g8
      obtain ⟨p1, c1, u50, u51, uR⟩ := id g5
      obtain ⟨⟨p4, c4, u54, u55, uK⟩, uo⟩ := id g4
      have u0 : ν 42 = oM fl tr np ns day at_ rP rS lp lw lf sL sF nr := (uo 42 (by omega) (by omega) (by omega) (by omega)).trans h0
      have uB := MB_k mB uo
      have us := (uR k (by omega) (by omega)).2 (nm k) (w3 k (by omega) (by omega)).2.1.1 (w3 k (by omega) (by omega)).2.1.2
      rw [kpN] at g8
      have n2 := (w3 k (by omega) (by omega)).2.1
      refine p_iload_n (pc := 16) C dX5_keeps_16 rfl ?_
      refine p_bipush (pc := 17) C dX5_keeps_17 (by decide) ?_
      refine p_icmp_gt (pc := 19) (tgt := 42) C dX5_keeps_19 (by decide) (fun h => by exfalso; omega) (fun c_19 => ?_)
      refine p_aload_n (pc := 22) C dX5_keeps_22 rfl ?_
      refine p_iload_n (pc := 23) C dX5_keeps_23 rfl ?_
      refine p_callVF (pc := 24) C ln_X5_133 dX5_keeps_24 (k_X5_isMet u0 (by omega) (by omega) uB (by omega) u51 w3) ⟨by omega, by omega⟩ (by (repeat refine mg_n (by omega) ?_); first | assumption | exact mup_s _ _ _) rfl rfl rfl rfl (Nat.le_of_ble_eq_true rfl) ?_
      refine p_ifne_b (pc := 27) (tgt := 42) C dX5_keeps_27 (by decide) (fun c_27 => ?_) (fun c_27 => ?_)
      · refine p_aload_n (pc := 42) C dX5_keeps_42 rfl ?_
        refine p_callVV (pc := 43) C ln_X5_186 dX5_keeps_43 (k_X5_putBack u0 (by omega) u54 u55 u50 u51) ⟨by omega, by omega⟩ (by (repeat refine mg_n (by omega) ?_); first | assumption | exact mup_s _ _ _) rfl rfl rfl rfl (Nat.le_of_ble_eq_true rfl) (fun μ' hpost => ?_)
        obtain ⟨x, y, rfl, hx, hy⟩ := hpost
        refine p_iload_n (pc := 46) C dX5_keeps_46 rfl ?_
        refine p_bipush (pc := 47) C dX5_keeps_47 (by decide) ?_
        refine p_icmp_gt (pc := 49) (tgt := 56) C dX5_keeps_49 (by decide) (fun c_49 => ?_) (fun c_49 => ?_)
        · refine p_bipush (pc := 56) C dX5_keeps_56 (by decide) ?_
          refine p_iret (pc := 58) C dX5_keeps_58 ?_
          first
            | (exfalso; omega)
            | (refine ⟨fun q hq => (mg_n (by omega) (mg_n (by omega) (uo q (by omega) (by omega) (by omega) (by omega)))), ?_⟩; rw [if_neg (by omega)]; exact ⟨sv (by rw [← g8, if_pos (by omega)]), MV_back hV g4 (MR_kp uK hx hy)⟩)
        · refine p_iload_n (pc := 52) C dX5_keeps_52 rfl ?_
          refine p_goto (pc := 53) (tgt := 58) C dX5_keeps_53 (by decide) ?_
          refine p_iret (pc := 58) C dX5_keeps_58 ?_
          first
            | (exfalso; omega)
            | (refine ⟨fun q hq => (mg_n (by omega) (mg_n (by omega) (uo q (by omega) (by omega) (by omega) (by omega)))), ?_⟩; rw [if_neg (by omega)]; exact ⟨sv (by rw [← g8, if_pos (by omega)]), MV_back hV g4 (MR_kp uK hx hy)⟩)
      · refine p_aload_n (pc := 30) C dX5_keeps_30 rfl ?_
        refine p_iload_n (pc := 31) C dX5_keeps_31 rfl ?_
        refine p_callVI (pc := 32) C ln_X5_154 dX5_keeps_32 (k_X5_goesOn (S := S1) u0 (by omega) (by omega) uB (by omega) u51 u50 uR g7 w3) ⟨by omega, by omega⟩ (by (repeat refine mg_n (by omega) ?_); first | assumption | exact mup_s _ _ _) rfl rfl rfl rfl (Nat.le_of_ble_eq_true rfl) (fun z μ' hpost => ?_)
        obtain ⟨hz, p2, c2, rfl, hmr⟩ := hpost
        have hne : ¬ S1.2.1 k (nm k) = 0 := by omega
        rw [if_neg hne] at g8
        have e1 : (stS np rg kd nm sg k S1).1 k = nxp np (S1.1 k) := fup_s _ _ _
        have e2 := keep_s (np := np) (rg := rg) (kd := kd) (sg := sg) hne
        refine p_pop (pc := 35) C dX5_keeps_35 rfl ?_
        refine p_iinc (pc := 36) (ls' := [(2, _), (0, _), (1, _)]) C dX5_keeps_36 (by decide) rfl ⟨by omega, by omega⟩ rfl ?_
        refine p_goto (pc := 39) (tgt := 16) C dX5_keeps_39 (by decide) ?_
        exact ih (e + 1) (stS np rg kd nm sg k S1) _ (by omega) (by omega) g3 ⟨⟨p4, c4, mg_n (by omega) (mg_n (by omega) u54), mg_n (by omega) (mg_n (by omega) u55), uK⟩, fun z z0 z1 z2 z3 => mg_n z0 (mg_n z1 (uo z z0 z1 z2 z3))⟩ ⟨p2, c2, mup_s _ _ _, mg_n (by omega) (mup_s _ _ _), hmr⟩ (WS_st g7 w3 g3.1 g3.2) (by rw [e1, e2]; exact g8)
  refine p_aload_n (pc := 0) C dX5_keeps_0 rfl ?_
  refine p_iload_n (pc := 1) C dX5_keeps_1 rfl ?_
  refine p_callVF (pc := 2) C ln_X5_127 dX5_keeps_2 (k_X5_isShip (by (repeat refine mg_n (by omega) ?_); first | assumption | exact mup_s _ _ _)) ⟨by omega, by omega⟩ (by (repeat refine mg_n (by omega) ?_); first | assumption | exact mup_s _ _ _) rfl rfl rfl rfl (Nat.le_of_ble_eq_true rfl) ?_
  refine p_ifne_b (pc := 5) (tgt := 10) C dX5_keeps_5 (by decide) (fun c_5 => ?_) (fun c_5 => ?_)
  · refine p_aload_n (pc := 10) C dX5_keeps_10 rfl ?_
    refine p_callVV (pc := 11) C ln_X5_177 dX5_keeps_11 (k_X5_keep h0 (by omega) h50 h51 h54 h55) ⟨by omega, by omega⟩ (by (repeat refine mg_n (by omega) ?_); first | assumption | exact mup_s _ _ _) rfl rfl rfl rfl (Nat.le_of_ble_eq_true rfl) (fun μ' hpost => ?_)
    obtain ⟨x, y, rfl, hx, hy⟩ := hpost
    have hKP : KP ns (pt, ca, 0, 0, -9) μ (mup (mup μ 54 (mA 5 x)) 55 (mA 20 y)) := ⟨⟨x, y, mg_n (by omega) (mup_s _ _ _), mup_s _ _ _, MR_kp hMR hx hy⟩, fun z z0 z1 z2 z3 => mg_n z3 (mg_n z2 rfl)⟩
    refine p_iconst (pc := 14) C dX5_keeps_14 (by decide) ?_
    refine p_istore_n (pc := 15) (ls' := [(2, _), (0, _), (1, _)]) C dX5_keeps_15 (by decide) rfl ?_
    exact L 30 0 (pt, ca, 0, 0, -9) _ (by omega) (by omega) (by omega) hKP ⟨pf, cf, mg_n (by omega) (mg_n (by omega) h50), mg_n (by omega) (mg_n (by omega) h51), hMR⟩ w4 rfl
  · refine p_iconst (pc := 8) C dX5_keeps_8 (by decide) ?_
    refine p_iret (pc := 9) C dX5_keeps_9 ?_
    first
      | (exfalso; omega)
      | (refine ⟨fun q hq => by (repeat (refine mg_n (by omega) ?_)); rfl, ?_⟩; rw [if_pos (by omega)]; exact ⟨rfl, hV⟩)
