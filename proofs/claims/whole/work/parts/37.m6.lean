def zc (f : Int → Int) (a q : Int) : Int → Int := fun x => if a ≤ x ∧ x < a + q then 0 else f x
theorem zc_0 (f : Int → Int) (a : Int) : zc f a 0 = f := by funext x; unfold zc; rw [if_neg (by omega)]
theorem zc_s (f : Int → Int) (a q : Int) (h : 0 ≤ q) : fup (zc f a q) (a + q) 0 = zc f a (q + 1) := by
  funext x; unfold fup zc
  by_cases e : x = a + q
  · rw [if_pos e, if_pos (by omega)]
  · rw [if_neg e]
    by_cases e2 : a ≤ x ∧ x < a + q
    · rw [if_pos e2, if_pos (by omega)]
    · rw [if_neg e2, if_neg (by omega)]
theorem MV_sheet {np ns day nr tr fl : Int} {rg kd nm sg pt : Int → Int} {ca : Int → Int → Int} {rs rp rl th la ln : Int → Int} {ce : Int → Int → Int} {μ : Int → ME} {k l n at_ rP rS lp lw lf sL sF : Int} {f3 f4 f5 : Int → Int} (h : MV np ns day nr tr fl rg kd nm sg pt ca rs rp rl th la ln ce μ) (hW : WF np ns day nr tr fl rg kd nm sg pt ca rs rp rl th la ln ce) (h3 : μ 43 = mA 4 f3) (e3 : ∀ j, 0 ≤ j → j < 4 → f3 j = if th j = 0 then -9 else la j) (h4 : μ 44 = mA 4 f4) (e4 : ∀ j, 0 ≤ j → j < 4 → th j ≠ 0 → f4 j = ln j) (h5 : μ 45 = mA 240 f5) (e5 : ∀ k, 0 ≤ k → k < 4 → th k ≠ 0 → ∀ j, 0 ≤ j → j < ln k → f5 (60 * k + j) = ce k j) (hk : 0 ≤ k ∧ k < 4) (hl : 0 ≤ l ∧ l < 3) (hn : 0 ≤ n ∧ n ≤ 60) :
    MV np ns day nr tr (0) rg kd nm sg pt ca rs rp rl (fup th k 1) (fup la k l) (fup ln k n) (cup ce k (fz (ce k) n)) (mup (mup (mup (mup μ 42 (oM 0 tr np ns day at_ rP rS lp lw lf sL sF nr)) 43 (mA 4 (fup f3 k l))) 44 (mA 4 (fup f4 k n))) 45 (mA 240 (zc f5 (60 * k) 60))) := by
  refine MV_sh h (fun x hx => by rw [mup_n _ _ _ (by omega), mup_n _ _ _ (by omega), mup_n _ _ _ (by omega), mup_n _ _ _ (by omega)]) ⟨_, _, _, _, _, _, _, _, mg_n (by omega) (mg_n (by omega) (mg_n (by omega) (mup_s _ _ _)))⟩ ⟨_, mg_n (by omega) (mg_n (by omega) (mup_s _ _ _)), fun j j0 j1 => ?_⟩ ⟨_, mg_n (by omega) (mup_s _ _ _), fun j j0 j1 jh => ?_⟩ ⟨_, mup_s _ _ _, fun j j0 j1 jh x x0 x1 => ?_⟩
  · by_cases e : j = k
    · subst e; rw [fup_s, fup_s, fup_s, if_neg (by omega)]
    · rw [fup_n _ _ _ e, fup_n _ _ _ e, fup_n _ _ _ e]; exact e3 j j0 j1
  · by_cases e : j = k
    · subst e; rw [fup_s, fup_s]
    · rw [fup_n _ _ _ e] at jh; rw [fup_n _ _ _ e, fup_n _ _ _ e]; exact e4 j j0 j1 jh
  · by_cases e : j = k
    · subst e
      rw [fup_s] at x1
      rw [cup_s]
      unfold zc fz
      rw [if_pos (by omega), if_pos (by omega)]
    · rw [fup_n _ _ _ e] at jh x1
      have y3 := (hW.2.2.2.2.2.2 j j0 j1).2.2
      rw [cup_n _ _ e]
      unfold zc
      rw [if_neg (by omega)]
      exact e5 j j0 j1 jh x x0 x1

set_option maxHeartbeats 4000000 in
set_option maxRecDepth 100000 in
theorem q_X5_sheet {K : KX} {d : Nat} {μ : Int → ME} {k l n : Int} {np ns day nr tr fl : Int} {rg kd nm sg pt : Int → Int} {ca : Int → Int → Int} {rs rp rl th la ln : Int → Int} {ce : Int → Int → Int} (hV : MV np ns day nr tr fl rg kd nm sg pt ca rs rp rl th la ln ce μ) (hW : WF np ns day nr tr fl rg kd nm sg pt ca rs rp rl th la ln ce) : Ct K (d + 2) yX5_sheet cX5_sheet 5 (some .int) [vR 42, vI k, vI l, vI n] μ (fun r μ' => (∀ a, a < 42 → μ' a = μ a) ∧ (if ¬ (0 ≤ k ∧ k < 4) then r = some (vI (-1)) ∧ MV np ns day nr tr (0) rg kd nm sg pt ca rs rp rl th la ln ce μ' else if ¬ ((0 ≤ l ∧ l < 3) ∧ n ≤ 60) then r = some (vI (-2)) ∧ MV np ns day nr tr (0) rg kd nm sg pt ca rs rp rl th la ln ce μ' else if n < 0 then r = some (vI (-14)) ∧ MV np ns day nr tr (4) rg kd nm sg pt ca rs rp rl th la ln ce μ' else r = some (vI (1)) ∧ MV np ns day nr tr (0) rg kd nm sg pt ca rs rp rl (fup th k 1) (fup la k l) (fup ln k n) (cup ce k (fz (ce k) n)) μ')) := by
  refine Ct.of (by decide) (Nat.le_of_ble_eq_true rfl) (fun X C => ?_)
  obtain ⟨m42, m43, m44, m45, mB, mD, ⟨m52, m53, m54, m55, m56⟩, m57, m58, m59⟩ := id hV
  obtain ⟨m46, m47, m48, m49⟩ := id mB
  obtain ⟨at_, rP, rS, lp, lw, lf, sL, sF, h0⟩ := id m42
  obtain ⟨f43, h43, e43⟩ := id m43
  obtain ⟨f44, h44, e44⟩ := id m44
  obtain ⟨f45, h45, e45⟩ := id m45
  obtain ⟨f46, h46, e46⟩ := id m46
  obtain ⟨f47, h47, e47⟩ := id m47
  obtain ⟨f48, h48, e48⟩ := id m48
  obtain ⟨f49, h49, e49⟩ := id m49
  obtain ⟨pf, cf, h50, h51, hMR⟩ := id mD
  obtain ⟨f57, h57, e57⟩ := id m57
  obtain ⟨f58, h58, e58⟩ := id m58
  obtain ⟨f59, h59, e59⟩ := id m59
  obtain ⟨w0, w1, w2, w3, w4, w5, w6⟩ := id hW
  have L : ∀ (t : Nat) (q : Int), 0 ≤ q → 60 - q = (t : Int) → (0 ≤ k ∧ k < 4) → (0 ≤ l ∧ l < 3) → (0 ≤ n ∧ n ≤ 60) → PW K X 5 (QM K X (fun r μ' => (∀ a, a < 42 → μ' a = μ a) ∧ (if ¬ (0 ≤ k ∧ k < 4) then r = some (vI (-1)) ∧ MV np ns day nr tr (0) rg kd nm sg pt ca rs rp rl th la ln ce μ' else if ¬ ((0 ≤ l ∧ l < 3) ∧ n ≤ 60) then r = some (vI (-2)) ∧ MV np ns day nr tr (0) rg kd nm sg pt ca rs rp rl th la ln ce μ' else if n < 0 then r = some (vI (-14)) ∧ MV np ns day nr tr (4) rg kd nm sg pt ca rs rp rl th la ln ce μ' else r = some (vI (1)) ∧ MV np ns day nr tr (0) rg kd nm sg pt ca rs rp rl (fup th k 1) (fup la k l) (fup ln k n) (cup ce k (fz (ce k) n)) μ'))) 57 [(4, vI q), (0, vR 42), (1, vI k), (2, vI l), (3, vI n)] [] (mup (mup (mup (mup μ 42 (oM 0 tr np ns day at_ rP rS lp lw lf sL sF nr)) 43 (mA 4 (fup f43 k l))) 44 (mA 4 (fup f44 k n))) 45 (mA 240 (zc f45 (60 * k) q))) := by
    intro t
    induction t with
    | zero =>
      intro q g1 g2 g3 g4 g5
      have e : q = 60 := by omega
      subst e
      refine p_iload (pc := 57) C dX5_sheet_57 rfl ?_
      refine p_bipush (pc := 59) C dX5_sheet_59 (by decide) ?_
      refine p_icmp_ge (pc := 61) (tgt := 83) C dX5_sheet_61 (by decide) (fun c_61 => ?_) (fun h => by exfalso; omega)
      refine p_iconst (pc := 83) C dX5_sheet_83 (by decide) ?_
      refine p_iret (pc := 84) C dX5_sheet_84 ?_
      refine ⟨fun q hq => by (repeat (refine mg_n (by omega) ?_)); rfl, ?_⟩
      rw [if_neg (by omega), if_neg (by omega), if_neg (by omega)]
      exact ⟨rfl, MV_sheet hV hW h43 e43 h44 e44 h45 e45 g3 g4 g5⟩
    | succ t ih =>
      intro q g1 g2 g3 g4 g5
      refine p_iload (pc := 57) C dX5_sheet_57 rfl ?_
      refine p_bipush (pc := 59) C dX5_sheet_59 (by decide) ?_
      refine p_icmp_ge (pc := 61) (tgt := 83) C dX5_sheet_61 (by decide) (fun h => by exfalso; omega) (fun c_61 => ?_)
      refine p_aload_n (pc := 64) C dX5_sheet_64 rfl ?_
      refine p_get (pc := 65) C fl_X5_16 dX5_sheet_65 ⟨by omega, by omega⟩ (by (repeat refine mg_n (by omega) ?_); first | assumption | exact mup_s _ _ _) (by rfl) ?_
      refine p_bipush (pc := 68) C dX5_sheet_68 (by decide) ?_
      refine p_iload_n (pc := 70) C dX5_sheet_70 rfl ?_
      refine p_imul (pc := 71) C dX5_sheet_71 ⟨by omega, by omega⟩ ?_
      refine p_iload (pc := 72) C dX5_sheet_72 rfl ?_
      refine p_iadd (pc := 74) C dX5_sheet_74 ⟨by omega, by omega⟩ ?_
      refine p_iconst (pc := 75) C dX5_sheet_75 (by decide) ?_
      refine p_iast (pc := 76) C dX5_sheet_76 ⟨by omega, by omega⟩ (by (repeat refine mg_n (by omega) ?_); first | assumption | exact mup_s _ _ _) (by omega) ?_
      try refine p_mem (mup_mup _ _ _ _) ?_
      refine p_iinc (pc := 77) (ls' := [(4, _), (0, _), (1, _), (2, _), (3, _)]) C dX5_sheet_77 (by decide) rfl ⟨by omega, by omega⟩ rfl ?_
      refine p_goto (pc := 80) (tgt := 57) C dX5_sheet_80 (by decide) ?_
      refine p_mem (by rw [zc_s _ _ _ g1]) (ih (q + 1) (by omega) (by omega) g3 g4 g5)
  refine p_aload_n (pc := 0) C dX5_sheet_0 rfl ?_
  refine p_iconst (pc := 1) C dX5_sheet_1 (by decide) ?_
  refine p_putL (pc := 2) (fs' := [_, _, _, _, _, _, _, _, _, _, _, _, _, _, _, _, _, _, _, _, _, _, _, _, _, _, _, _, _, _, _]) C fp_X5_61 dX5_sheet_2 ⟨by omega, by omega⟩ (by (repeat refine mg_n (by omega) ?_); first | assumption | exact mup_s _ _ _) (by exact Nat.le_of_ble_eq_true rfl) (by rfl) ?_
  try refine p_mem (mup_mup _ _ _ _) ?_
  refine p_iload_n (pc := 5) C dX5_sheet_5 rfl ?_
  refine p_callSF (pc := 6) C ln_X5_80 dX5_sheet_6 (k_X5_isSheet) rfl rfl (Nat.le_of_ble_eq_true rfl) ?_
  refine p_ifne_b (pc := 9) (tgt := 14) C dX5_sheet_9 (by decide) (fun c_9 => ?_) (fun c_9 => ?_)
  · refine p_iload_n (pc := 14) C dX5_sheet_14 rfl ?_
    refine p_callSF (pc := 15) C ln_X5_84 dX5_sheet_15 (k_X5_isSort) rfl rfl (Nat.le_of_ble_eq_true rfl) ?_
    refine p_ifeq_b (pc := 18) (tgt := 27) C dX5_sheet_18 (by decide) (fun c_18 => ?_) (fun c_18 => ?_)
    · refine p_bipush (pc := 27) C dX5_sheet_27 (by decide) ?_
      refine p_iret (pc := 29) C dX5_sheet_29 ?_
      first
        | (exfalso; omega)
        | (refine ⟨fun q hq => by (repeat (refine mg_n (by omega) ?_)); rfl, ?_⟩; rw [if_pos (by omega)]; exact ⟨rfl, MV_42 hV (by omega)⟩)
        | (refine ⟨fun q hq => by (repeat (refine mg_n (by omega) ?_)); rfl, ?_⟩; rw [if_neg (by omega), if_pos (by omega)]; exact ⟨rfl, MV_42 hV (by omega)⟩)
        | (refine ⟨fun q hq => by (repeat (refine mg_n (by omega) ?_)); rfl, ?_⟩; rw [if_neg (by omega), if_neg (by omega), if_pos (by omega)]; exact ⟨rfl, MV_42 hV (by omega)⟩)
    · refine p_iload_n (pc := 21) C dX5_sheet_21 rfl ?_
      refine p_bipush (pc := 22) C dX5_sheet_22 (by decide) ?_
      refine p_icmp_le (pc := 24) (tgt := 30) C dX5_sheet_24 (by decide) (fun c_24 => ?_) (fun c_24 => ?_)
      · refine p_iload_n (pc := 30) C dX5_sheet_30 rfl ?_
        refine p_if_ge (pc := 31) (tgt := 40) C dX5_sheet_31 (by decide) (fun c_31 => ?_) (fun c_31 => ?_)
        · refine p_aload_n (pc := 40) C dX5_sheet_40 rfl ?_
          refine p_get (pc := 41) C fl_X5_9 dX5_sheet_41 ⟨by omega, by omega⟩ (by (repeat refine mg_n (by omega) ?_); first | assumption | exact mup_s _ _ _) (by rfl) ?_
          refine p_iload_n (pc := 44) C dX5_sheet_44 rfl ?_
          refine p_iload_n (pc := 45) C dX5_sheet_45 rfl ?_
          refine p_iast (pc := 46) C dX5_sheet_46 ⟨by omega, by omega⟩ (by (repeat refine mg_n (by omega) ?_); first | assumption | exact mup_s _ _ _) (by omega) ?_
          try refine p_mem (mup_mup _ _ _ _) ?_
          refine p_aload_n (pc := 47) C dX5_sheet_47 rfl ?_
          refine p_get (pc := 48) C fl_X5_13 dX5_sheet_48 ⟨by omega, by omega⟩ (by (repeat refine mg_n (by omega) ?_); first | assumption | exact mup_s _ _ _) (by rfl) ?_
          refine p_iload_n (pc := 51) C dX5_sheet_51 rfl ?_
          refine p_iload_n (pc := 52) C dX5_sheet_52 rfl ?_
          refine p_iast (pc := 53) C dX5_sheet_53 ⟨by omega, by omega⟩ (by (repeat refine mg_n (by omega) ?_); first | assumption | exact mup_s _ _ _) (by omega) ?_
          try refine p_mem (mup_mup _ _ _ _) ?_
          refine p_iconst (pc := 54) C dX5_sheet_54 (by decide) ?_
          refine p_istore (pc := 55) (ls' := [(4, _), (0, _), (1, _), (2, _), (3, _)]) C dX5_sheet_55 (by decide) rfl ?_
          refine p_mem ?_ (L 60 0 (by omega) (by omega) (by omega) (by omega) (by omega))
          rw [zc_0, mup_id (μ := mup (mup (mup μ 42 _) 43 _) 44 _) (a := 45) (mg_n (by omega) (mg_n (by omega) (mg_n (by omega) h45)))]
        · refine p_aload_n (pc := 34) C dX5_sheet_34 rfl ?_
          refine p_iconst (pc := 35) C dX5_sheet_35 (by decide) ?_
          refine p_callVF (pc := 36) C ln_X5_91 dX5_sheet_36 (k_X5_fails (by omega) (by (repeat refine mg_n (by omega) ?_); first | assumption | exact mup_s _ _ _)) ⟨by omega, by omega⟩ (by (repeat refine mg_n (by omega) ?_); first | assumption | exact mup_s _ _ _) rfl rfl rfl rfl (Nat.le_of_ble_eq_true rfl) ?_
          refine p_mem (mup_mup _ _ _ _) ?_
          refine p_iret (pc := 39) C dX5_sheet_39 ?_
          first
            | (exfalso; omega)
            | (refine ⟨fun q hq => by (repeat (refine mg_n (by omega) ?_)); rfl, ?_⟩; rw [if_pos (by omega)]; exact ⟨rfl, MV_42 hV (by omega)⟩)
            | (refine ⟨fun q hq => by (repeat (refine mg_n (by omega) ?_)); rfl, ?_⟩; rw [if_neg (by omega), if_pos (by omega)]; exact ⟨rfl, MV_42 hV (by omega)⟩)
            | (refine ⟨fun q hq => by (repeat (refine mg_n (by omega) ?_)); rfl, ?_⟩; rw [if_neg (by omega), if_neg (by omega), if_pos (by omega)]; exact ⟨rfl, MV_42 hV (by omega)⟩)
      · refine p_bipush (pc := 27) C dX5_sheet_27 (by decide) ?_
        refine p_iret (pc := 29) C dX5_sheet_29 ?_
        first
          | (exfalso; omega)
          | (refine ⟨fun q hq => by (repeat (refine mg_n (by omega) ?_)); rfl, ?_⟩; rw [if_pos (by omega)]; exact ⟨rfl, MV_42 hV (by omega)⟩)
          | (refine ⟨fun q hq => by (repeat (refine mg_n (by omega) ?_)); rfl, ?_⟩; rw [if_neg (by omega), if_pos (by omega)]; exact ⟨rfl, MV_42 hV (by omega)⟩)
          | (refine ⟨fun q hq => by (repeat (refine mg_n (by omega) ?_)); rfl, ?_⟩; rw [if_neg (by omega), if_neg (by omega), if_pos (by omega)]; exact ⟨rfl, MV_42 hV (by omega)⟩)
  · refine p_iconst (pc := 12) C dX5_sheet_12 (by decide) ?_
    refine p_iret (pc := 13) C dX5_sheet_13 ?_
    first
      | (exfalso; omega)
      | (refine ⟨fun q hq => by (repeat (refine mg_n (by omega) ?_)); rfl, ?_⟩; rw [if_pos (by omega)]; exact ⟨rfl, MV_42 hV (by omega)⟩)
      | (refine ⟨fun q hq => by (repeat (refine mg_n (by omega) ?_)); rfl, ?_⟩; rw [if_neg (by omega), if_pos (by omega)]; exact ⟨rfl, MV_42 hV (by omega)⟩)
      | (refine ⟨fun q hq => by (repeat (refine mg_n (by omega) ?_)); rfl, ?_⟩; rw [if_neg (by omega), if_neg (by omega), if_pos (by omega)]; exact ⟨rfl, MV_42 hV (by omega)⟩)

def wcp (f : Int → Int) (ds sr lo hi : Int) : Int → Int := fun x => if ds + lo ≤ x ∧ x < ds + hi then f (x - ds + sr) else f x
theorem wcp_0 (f : Int → Int) (ds sr a : Int) : wcp f ds sr a a = f := by funext x; unfold wcp; rw [if_neg (by omega)]
theorem wcp_hi (f : Int → Int) (ds sr lo hi : Int) (h : lo ≤ hi) : fup (wcp f ds sr lo hi) (ds + hi) (f (sr + hi)) = wcp f ds sr lo (hi + 1) := by
  funext x; unfold fup wcp
  by_cases e : x = ds + hi
  · rw [if_pos e, if_pos (by omega), e, show ds + hi - ds + sr = sr + hi by omega]
  · rw [if_neg e]
    by_cases e2 : ds + lo ≤ x ∧ x < ds + hi
    · rw [if_pos e2, if_pos (by omega)]
    · rw [if_neg e2, if_neg (by omega)]
theorem wcp_lo (f : Int → Int) (ds sr lo hi : Int) (h : lo < hi) : fup (wcp f ds sr (lo + 1) hi) (ds + lo) (f (sr + lo)) = wcp f ds sr lo hi := by
  funext x; unfold fup wcp
  by_cases e : x = ds + lo
  · rw [if_pos e, if_pos (by omega), e, show ds + lo - ds + sr = sr + lo by omega]
  · rw [if_neg e]
    by_cases e2 : ds + (lo + 1) ≤ x ∧ x < ds + hi
    · rw [if_pos e2, if_pos (by omega)]
    · rw [if_neg e2, if_neg (by omega)]
theorem wcp_n {f : Int → Int} {ds sr lo hi x : Int} (h : ¬ (ds + lo ≤ x ∧ x < ds + hi)) : wcp f ds sr lo hi x = f x := if_neg h

set_option maxHeartbeats 4000000 in
set_option maxRecDepth 100000 in
theorem q_X5_copy {K : KX} {d : Nat} {μ : Int → ME} {k i u j n : Int} {np ns day nr tr fl : Int} {rg kd nm sg pt : Int → Int} {ca : Int → Int → Int} {rs rp rl th la ln : Int → Int} {ce : Int → Int → Int} (hV : MV np ns day nr tr fl rg kd nm sg pt ca rs rp rl th la ln ce μ) (hW : WF np ns day nr tr fl rg kd nm sg pt ca rs rp rl th la ln ce) : Ct K (d + 2) yX5_copy cX5_copy 10 (some .int) [vR 42, vI k, vI i, vI u, vI j, vI n] μ (fun r μ' => (∀ a, a < 42 → μ' a = μ a) ∧ (if ¬ ((0 ≤ k ∧ k < 4) ∧ (0 ≤ u ∧ u < 4)) then r = some (vI (-1)) ∧ MV np ns day nr tr (0) rg kd nm sg pt ca rs rp rl th la ln ce μ' else if th k = 0 ∨ th u = 0 then r = some (vI (-11)) ∧ MV np ns day nr tr (1) rg kd nm sg pt ca rs rp rl th la ln ce μ' else if la k ≠ la u then r = some (vI (-12)) ∧ MV np ns day nr tr (2) rg kd nm sg pt ca rs rp rl th la ln ce μ' else if ¬ (0 ≤ n ∧ ((0 ≤ i ∧ i ≤ ln k) ∧ n ≤ ln k - i) ∧ ((0 ≤ j ∧ j ≤ ln u) ∧ n ≤ ln u - j)) then r = some (vI (-13)) ∧ MV np ns day nr tr (3) rg kd nm sg pt ca rs rp rl th la ln ce μ' else r = some (vI (n)) ∧ MV np ns day nr tr (0) rg kd nm sg pt ca rs rp rl th la ln (cup ce u (fcp (ce k) (ce u) i j n)) μ')) := by
  refine Ct.of (by decide) (Nat.le_of_ble_eq_true rfl) (fun X C => ?_)
  obtain ⟨m42, m43, m44, m45, mB, mD, ⟨m52, m53, m54, m55, m56⟩, m57, m58, m59⟩ := id hV
  obtain ⟨m46, m47, m48, m49⟩ := id mB
  obtain ⟨at_, rP, rS, lp, lw, lf, sL, sF, h0⟩ := id m42
  obtain ⟨f43, h43, e43⟩ := id m43
  obtain ⟨f44, h44, e44⟩ := id m44
  obtain ⟨f45, h45, e45⟩ := id m45
  obtain ⟨f46, h46, e46⟩ := id m46
  obtain ⟨f47, h47, e47⟩ := id m47
  obtain ⟨f48, h48, e48⟩ := id m48
  obtain ⟨f49, h49, e49⟩ := id m49
  obtain ⟨pf, cf, h50, h51, hMR⟩ := id mD
  obtain ⟨f57, h57, e57⟩ := id m57
  obtain ⟨f58, h58, e58⟩ := id m58
  obtain ⟨f59, h59, e59⟩ := id m59
  obtain ⟨w0, w1, w2, w3, w4, w5, w6⟩ := id hW
  have LL : ∀ (ah : Int), (ah = 0 ∨ ah = 1) → ((ah = 1 → i < j) ∧ (ah = 0 → j ≤ i)) → ((0 ≤ k ∧ k < 4) ∧ (0 ≤ u ∧ u < 4)) → ¬ (th k = 0 ∨ th u = 0) → la k = la u → (0 ≤ n ∧ ((0 ≤ i ∧ i ≤ ln k) ∧ n ≤ ln k - i) ∧ ((0 ≤ j ∧ j ≤ ln u) ∧ n ≤ ln u - j)) → PW K X 10 (QM K X (fun r μ' => (∀ a, a < 42 → μ' a = μ a) ∧ (if ¬ ((0 ≤ k ∧ k < 4) ∧ (0 ≤ u ∧ u < 4)) then r = some (vI (-1)) ∧ MV np ns day nr tr (0) rg kd nm sg pt ca rs rp rl th la ln ce μ' else if th k = 0 ∨ th u = 0 then r = some (vI (-11)) ∧ MV np ns day nr tr (1) rg kd nm sg pt ca rs rp rl th la ln ce μ' else if la k ≠ la u then r = some (vI (-12)) ∧ MV np ns day nr tr (2) rg kd nm sg pt ca rs rp rl th la ln ce μ' else if ¬ (0 ≤ n ∧ ((0 ≤ i ∧ i ≤ ln k) ∧ n ≤ ln k - i) ∧ ((0 ≤ j ∧ j ≤ ln u) ∧ n ≤ ln u - j)) then r = some (vI (-13)) ∧ MV np ns day nr tr (3) rg kd nm sg pt ca rs rp rl th la ln ce μ' else r = some (vI (n)) ∧ MV np ns day nr tr (0) rg kd nm sg pt ca rs rp rl th la ln (cup ce u (fcp (ce k) (ce u) i j n)) μ'))) 166 [(8, vI 0), (7, vI ah), (6, vI 1), (0, vR 42), (1, vI k), (2, vI i), (3, vI u), (4, vI j), (5, vI n)] [] (mup μ 42 (oM 0 tr np ns day at_ rP rS lp lw lf sL sF nr)) := by
    intro ah hah hdir hku hth hla hre
    obtain ⟨y1, y2, y3⟩ := w6 k (by omega) (by omega)
    have q3 := e43 k (by omega) (by omega)
    have q4 := e44 k (by omega) (by omega)
    obtain ⟨y4, y5, y6⟩ := w6 u (by omega) (by omega)
    have q5 := e43 u (by omega) (by omega)
    have q6 := e44 u (by omega) (by omega)
    rcases hah with rfl | rfl
    · have L : ∀ (t : Nat) (q : Int), 0 ≤ q → n - q = (t : Int) → PW K X 10 (QM K X (fun r μ' => (∀ a, a < 42 → μ' a = μ a) ∧ (if ¬ ((0 ≤ k ∧ k < 4) ∧ (0 ≤ u ∧ u < 4)) then r = some (vI (-1)) ∧ MV np ns day nr tr (0) rg kd nm sg pt ca rs rp rl th la ln ce μ' else if th k = 0 ∨ th u = 0 then r = some (vI (-11)) ∧ MV np ns day nr tr (1) rg kd nm sg pt ca rs rp rl th la ln ce μ' else if la k ≠ la u then r = some (vI (-12)) ∧ MV np ns day nr tr (2) rg kd nm sg pt ca rs rp rl th la ln ce μ' else if ¬ (0 ≤ n ∧ ((0 ≤ i ∧ i ≤ ln k) ∧ n ≤ ln k - i) ∧ ((0 ≤ j ∧ j ≤ ln u) ∧ n ≤ ln u - j)) then r = some (vI (-13)) ∧ MV np ns day nr tr (3) rg kd nm sg pt ca rs rp rl th la ln ce μ' else r = some (vI (n)) ∧ MV np ns day nr tr (0) rg kd nm sg pt ca rs rp rl th la ln (cup ce u (fcp (ce k) (ce u) i j n)) μ'))) 166 [(8, vI q), (7, vI 0), (6, vI 1), (0, vR 42), (1, vI k), (2, vI i), (3, vI u), (4, vI j), (5, vI n)] [] (mup (mup μ 42 (oM 0 tr np ns day at_ rP rS lp lw lf sL sF nr)) 45 (mA 240 (wcp f45 (60 * u + j) (60 * k + i) 0 q))) := by
        intro t
        induction t with
        | zero =>
          intro q g1 g2
          have e : n = q := by omega
          subst e
          refine p_iload (pc := 166) C dX5_copy_166 rfl ?_
          refine p_iload (pc := 168) C dX5_copy_168 rfl ?_
          refine p_icmp_ge (pc := 170) (tgt := 227) C dX5_copy_170 (by decide) (fun c_170 => ?_) (fun h => by exfalso; omega)
          refine p_iload (pc := 227) C dX5_copy_227 rfl ?_
          refine p_iret (pc := 229) C dX5_copy_229 ?_
          refine ⟨fun q hq => by (repeat (refine mg_n (by omega) ?_)); rfl, ?_⟩
          rw [if_neg (by omega), if_neg (by omega), if_neg (by omega), if_neg (by omega)]
          exact ⟨rfl, (MV_45 (MV_42 hV (by omega)) (fun j' j0 j1 jh x x0 x1 => by
                   by_cases e : j' = u
                   · subst e
                     rw [cup_s]
                     unfold wcp fcp
                     by_cases ex : j ≤ x ∧ x < j + n
                     · rw [if_pos (by omega), if_pos ex, show 60 * j' + x - (60 * j' + j) + (60 * k + i) = 60 * k + (i + (x - j)) by omega]
                       exact e45 k (by omega) (by omega) (by omega) _ (by omega) (by omega)
                     · rw [if_neg (by omega), if_neg ex]; exact e45 j' j0 j1 jh x x0 x1
                   · have y3' := (w6 j' j0 j1).2.2
                     rw [cup_n _ _ e, wcp_n (by omega)]; exact e45 j' j0 j1 jh x x0 x1))⟩
        | succ t ih =>
          intro q g1 g2
          refine p_iload (pc := 166) C dX5_copy_166 rfl ?_
          refine p_iload (pc := 168) C dX5_copy_168 rfl ?_
          refine p_icmp_ge (pc := 170) (tgt := 227) C dX5_copy_170 (by decide) (fun h => by exfalso; omega) (fun c_170 => ?_)
          refine p_iload (pc := 173) C dX5_copy_173 rfl ?_
          refine p_if_eq (pc := 175) (tgt := 188) C dX5_copy_175 (by decide) (fun c_175 => ?_) (fun h => by exfalso; omega)
          refine p_iload (pc := 188) C dX5_copy_188 rfl ?_
          refine p_istore (pc := 190) (ls' := [(9, _), (8, _), (7, _), (6, _), (0, _), (1, _), (2, _), (3, _), (4, _), (5, _)]) C dX5_copy_190 (by decide) rfl ?_
          refine p_aload_n (pc := 192) C dX5_copy_192 rfl ?_
          refine p_get (pc := 193) C fl_X5_16 dX5_copy_193 ⟨by omega, by omega⟩ (by (repeat refine mg_n (by omega) ?_); first | assumption | exact mup_s _ _ _) (by rfl) ?_
          refine p_bipush (pc := 196) C dX5_copy_196 (by decide) ?_
          refine p_iload_n (pc := 198) C dX5_copy_198 rfl ?_
          refine p_imul (pc := 199) C dX5_copy_199 ⟨by omega, by omega⟩ ?_
          refine p_iload (pc := 200) C dX5_copy_200 rfl ?_
          refine p_iadd (pc := 202) C dX5_copy_202 ⟨by omega, by omega⟩ ?_
          refine p_iload (pc := 203) C dX5_copy_203 rfl ?_
          refine p_iadd (pc := 205) C dX5_copy_205 ⟨by omega, by omega⟩ ?_
          refine p_aload_n (pc := 206) C dX5_copy_206 rfl ?_
          refine p_get (pc := 207) C fl_X5_16 dX5_copy_207 ⟨by omega, by omega⟩ (by (repeat refine mg_n (by omega) ?_); first | assumption | exact mup_s _ _ _) (by rfl) ?_
          refine p_bipush (pc := 210) C dX5_copy_210 (by decide) ?_
          refine p_iload_n (pc := 212) C dX5_copy_212 rfl ?_
          refine p_imul (pc := 213) C dX5_copy_213 ⟨by omega, by omega⟩ ?_
          refine p_iload_n (pc := 214) C dX5_copy_214 rfl ?_
          refine p_iadd (pc := 215) C dX5_copy_215 ⟨by omega, by omega⟩ ?_
          refine p_iload (pc := 216) C dX5_copy_216 rfl ?_
          refine p_iadd (pc := 218) C dX5_copy_218 ⟨by omega, by omega⟩ ?_
          refine p_iald (pc := 219) C dX5_copy_219 ⟨by omega, by omega⟩ (by (repeat refine mg_n (by omega) ?_); first | assumption | exact mup_s _ _ _) (by omega) ?_
          refine p_iast (pc := 220) C dX5_copy_220 ⟨by omega, by omega⟩ (by (repeat refine mg_n (by omega) ?_); first | assumption | exact mup_s _ _ _) (by omega) ?_
          try refine p_mem (mup_mup _ _ _ _) ?_
          refine p_iinc (pc := 221) (ls' := [(8, _), (9, _), (7, _), (6, _), (0, _), (1, _), (2, _), (3, _), (4, _), (5, _)]) C dX5_copy_221 (by decide) rfl ⟨by omega, by omega⟩ rfl ?_
          refine p_goto (pc := 224) (tgt := 166) C dX5_copy_224 (by decide) ?_
          refine p_pick [0, 2, 3, 4, 5, 6, 7, 8, 9] (ls' := [(8, _), (7, _), (6, _), (0, _), (1, _), (2, _), (3, _), (4, _), (5, _)]) rfl ?_
          refine p_mem ?_ (ih (q + 1) (by omega) (by omega))
          rw [wcp_n (by omega), show 60 * u + j + q = (60 * u + j) + q by omega, show 60 * k + i + q = (60 * k + i) + q by omega, wcp_hi _ _ _ _ _ g1]
      refine p_mem ?_ (L n.toNat 0 (by omega) (by omega))
      rw [wcp_0, mup_id (μ := mup μ 42 _) (a := 45) (mg_n (by omega) h45)]
    · have L : ∀ (t : Nat) (q : Int), 0 ≤ q → n - q = (t : Int) → PW K X 10 (QM K X (fun r μ' => (∀ a, a < 42 → μ' a = μ a) ∧ (if ¬ ((0 ≤ k ∧ k < 4) ∧ (0 ≤ u ∧ u < 4)) then r = some (vI (-1)) ∧ MV np ns day nr tr (0) rg kd nm sg pt ca rs rp rl th la ln ce μ' else if th k = 0 ∨ th u = 0 then r = some (vI (-11)) ∧ MV np ns day nr tr (1) rg kd nm sg pt ca rs rp rl th la ln ce μ' else if la k ≠ la u then r = some (vI (-12)) ∧ MV np ns day nr tr (2) rg kd nm sg pt ca rs rp rl th la ln ce μ' else if ¬ (0 ≤ n ∧ ((0 ≤ i ∧ i ≤ ln k) ∧ n ≤ ln k - i) ∧ ((0 ≤ j ∧ j ≤ ln u) ∧ n ≤ ln u - j)) then r = some (vI (-13)) ∧ MV np ns day nr tr (3) rg kd nm sg pt ca rs rp rl th la ln ce μ' else r = some (vI (n)) ∧ MV np ns day nr tr (0) rg kd nm sg pt ca rs rp rl th la ln (cup ce u (fcp (ce k) (ce u) i j n)) μ'))) 166 [(8, vI q), (7, vI 1), (6, vI 1), (0, vR 42), (1, vI k), (2, vI i), (3, vI u), (4, vI j), (5, vI n)] [] (mup (mup μ 42 (oM 0 tr np ns day at_ rP rS lp lw lf sL sF nr)) 45 (mA 240 (wcp f45 (60 * u + j) (60 * k + i) (n - q) n))) := by
        intro t
        induction t with
        | zero =>
          intro q g1 g2
          have e : n = q := by omega
          subst e
          refine p_iload (pc := 166) C dX5_copy_166 rfl ?_
          refine p_iload (pc := 168) C dX5_copy_168 rfl ?_
          refine p_icmp_ge (pc := 170) (tgt := 227) C dX5_copy_170 (by decide) (fun c_170 => ?_) (fun h => by exfalso; omega)
          refine p_iload (pc := 227) C dX5_copy_227 rfl ?_
          refine p_iret (pc := 229) C dX5_copy_229 ?_
          rw [show n - n = 0 by omega]
          refine ⟨fun q hq => by (repeat (refine mg_n (by omega) ?_)); rfl, ?_⟩
          rw [if_neg (by omega), if_neg (by omega), if_neg (by omega), if_neg (by omega)]
          exact ⟨rfl, (MV_45 (MV_42 hV (by omega)) (fun j' j0 j1 jh x x0 x1 => by
                   by_cases e : j' = u
                   · subst e
                     rw [cup_s]
                     unfold wcp fcp
                     by_cases ex : j ≤ x ∧ x < j + n
                     · rw [if_pos (by omega), if_pos ex, show 60 * j' + x - (60 * j' + j) + (60 * k + i) = 60 * k + (i + (x - j)) by omega]
                       exact e45 k (by omega) (by omega) (by omega) _ (by omega) (by omega)
                     · rw [if_neg (by omega), if_neg ex]; exact e45 j' j0 j1 jh x x0 x1
                   · have y3' := (w6 j' j0 j1).2.2
                     rw [cup_n _ _ e, wcp_n (by omega)]; exact e45 j' j0 j1 jh x x0 x1))⟩
        | succ t ih =>
          intro q g1 g2
          refine p_iload (pc := 166) C dX5_copy_166 rfl ?_
          refine p_iload (pc := 168) C dX5_copy_168 rfl ?_
          refine p_icmp_ge (pc := 170) (tgt := 227) C dX5_copy_170 (by decide) (fun h => by exfalso; omega) (fun c_170 => ?_)
          refine p_iload (pc := 173) C dX5_copy_173 rfl ?_
          refine p_if_eq (pc := 175) (tgt := 188) C dX5_copy_175 (by decide) (fun h => by exfalso; omega) (fun c_175 => ?_)
          refine p_iload (pc := 178) C dX5_copy_178 rfl ?_
          refine p_iconst (pc := 180) C dX5_copy_180 (by decide) ?_
          refine p_isub (pc := 181) C dX5_copy_181 ⟨by omega, by omega⟩ ?_
          refine p_iload (pc := 182) C dX5_copy_182 rfl ?_
          refine p_isub (pc := 184) C dX5_copy_184 ⟨by omega, by omega⟩ ?_
          refine p_goto (pc := 185) (tgt := 190) C dX5_copy_185 (by decide) ?_
          refine p_istore (pc := 190) (ls' := [(9, _), (8, _), (7, _), (6, _), (0, _), (1, _), (2, _), (3, _), (4, _), (5, _)]) C dX5_copy_190 (by decide) rfl ?_
          refine p_aload_n (pc := 192) C dX5_copy_192 rfl ?_
          refine p_get (pc := 193) C fl_X5_16 dX5_copy_193 ⟨by omega, by omega⟩ (by (repeat refine mg_n (by omega) ?_); first | assumption | exact mup_s _ _ _) (by rfl) ?_
          refine p_bipush (pc := 196) C dX5_copy_196 (by decide) ?_
          refine p_iload_n (pc := 198) C dX5_copy_198 rfl ?_
          refine p_imul (pc := 199) C dX5_copy_199 ⟨by omega, by omega⟩ ?_
          refine p_iload (pc := 200) C dX5_copy_200 rfl ?_
          refine p_iadd (pc := 202) C dX5_copy_202 ⟨by omega, by omega⟩ ?_
          refine p_iload (pc := 203) C dX5_copy_203 rfl ?_
          refine p_iadd (pc := 205) C dX5_copy_205 ⟨by omega, by omega⟩ ?_
          refine p_aload_n (pc := 206) C dX5_copy_206 rfl ?_
          refine p_get (pc := 207) C fl_X5_16 dX5_copy_207 ⟨by omega, by omega⟩ (by (repeat refine mg_n (by omega) ?_); first | assumption | exact mup_s _ _ _) (by rfl) ?_
          refine p_bipush (pc := 210) C dX5_copy_210 (by decide) ?_
          refine p_iload_n (pc := 212) C dX5_copy_212 rfl ?_
          refine p_imul (pc := 213) C dX5_copy_213 ⟨by omega, by omega⟩ ?_
          refine p_iload_n (pc := 214) C dX5_copy_214 rfl ?_
          refine p_iadd (pc := 215) C dX5_copy_215 ⟨by omega, by omega⟩ ?_
          refine p_iload (pc := 216) C dX5_copy_216 rfl ?_
          refine p_iadd (pc := 218) C dX5_copy_218 ⟨by omega, by omega⟩ ?_
          refine p_iald (pc := 219) C dX5_copy_219 ⟨by omega, by omega⟩ (by (repeat refine mg_n (by omega) ?_); first | assumption | exact mup_s _ _ _) (by omega) ?_
          refine p_iast (pc := 220) C dX5_copy_220 ⟨by omega, by omega⟩ (by (repeat refine mg_n (by omega) ?_); first | assumption | exact mup_s _ _ _) (by omega) ?_
          try refine p_mem (mup_mup _ _ _ _) ?_
          refine p_iinc (pc := 221) (ls' := [(8, _), (9, _), (7, _), (6, _), (0, _), (1, _), (2, _), (3, _), (4, _), (5, _)]) C dX5_copy_221 (by decide) rfl ⟨by omega, by omega⟩ rfl ?_
          refine p_goto (pc := 224) (tgt := 166) C dX5_copy_224 (by decide) ?_
          refine p_pick [0, 2, 3, 4, 5, 6, 7, 8, 9] (ls' := [(8, _), (7, _), (6, _), (0, _), (1, _), (2, _), (3, _), (4, _), (5, _)]) rfl ?_
          refine p_mem ?_ (ih (q + 1) (by omega) (by omega))
          rw [wcp_n (by omega), show 60 * u + j + (n - 1 - q) = (60 * u + j) + (n - (q + 1)) by omega, show 60 * k + i + (n - 1 - q) = (60 * k + i) + (n - (q + 1)) by omega, show n - q = (n - (q + 1)) + 1 by omega, wcp_lo _ _ _ _ _ (by omega)]
      refine p_mem ?_ (L n.toNat 0 (by omega) (by omega))
      rw [show n - 0 = n by omega, wcp_0, mup_id (μ := mup μ 42 _) (a := 45) (mg_n (by omega) h45)]
  refine p_aload_n (pc := 0) C dX5_copy_0 rfl ?_
  refine p_iconst (pc := 1) C dX5_copy_1 (by decide) ?_
  refine p_putL (pc := 2) (fs' := [_, _, _, _, _, _, _, _, _, _, _, _, _, _, _, _, _, _, _, _, _, _, _, _, _, _, _, _, _, _, _]) C fp_X5_61 dX5_copy_2 ⟨by omega, by omega⟩ (by (repeat refine mg_n (by omega) ?_); first | assumption | exact mup_s _ _ _) (by exact Nat.le_of_ble_eq_true rfl) (by rfl) ?_
  try refine p_mem (mup_mup _ _ _ _) ?_
  refine p_iload_n (pc := 5) C dX5_copy_5 rfl ?_
  refine p_callSF (pc := 6) C ln_X5_80 dX5_copy_6 (k_X5_isSheet) rfl rfl (Nat.le_of_ble_eq_true rfl) ?_
  refine p_ifeq_b (pc := 9) (tgt := 19) C dX5_copy_9 (by decide) (fun c_9 => ?_) (fun c_9 => ?_)
  · refine p_iconst (pc := 19) C dX5_copy_19 (by decide) ?_
    refine p_iret (pc := 20) C dX5_copy_20 ?_
    first
      | (exfalso; omega)
      | (refine ⟨fun q hq => by (repeat (refine mg_n (by omega) ?_)); rfl, ?_⟩; rw [if_pos (by omega)]; exact ⟨rfl, MV_42 hV (by omega)⟩)
      | (refine ⟨fun q hq => by (repeat (refine mg_n (by omega) ?_)); rfl, ?_⟩; rw [if_neg (by omega), if_pos (by omega)]; exact ⟨rfl, MV_42 hV (by omega)⟩)
      | (refine ⟨fun q hq => by (repeat (refine mg_n (by omega) ?_)); rfl, ?_⟩; rw [if_neg (by omega), if_neg (by omega), if_pos (by omega)]; exact ⟨rfl, MV_42 hV (by omega)⟩)
      | (refine ⟨fun q hq => by (repeat (refine mg_n (by omega) ?_)); rfl, ?_⟩; rw [if_neg (by omega), if_neg (by omega), if_neg (by omega), if_pos (by omega)]; exact ⟨rfl, MV_42 hV (by omega)⟩)
  · refine p_iload_n (pc := 12) C dX5_copy_12 rfl ?_
    refine p_callSF (pc := 13) C ln_X5_80 dX5_copy_13 (k_X5_isSheet) rfl rfl (Nat.le_of_ble_eq_true rfl) ?_
    refine p_ifne_b (pc := 16) (tgt := 21) C dX5_copy_16 (by decide) (fun c_16 => ?_) (fun c_16 => ?_)
    · obtain ⟨y1, y2, y3⟩ := w6 k (by omega) (by omega)
      have q3 := e43 k (by omega) (by omega)
      have q4 := e44 k (by omega) (by omega)
      obtain ⟨y4, y5, y6⟩ := w6 u (by omega) (by omega)
      have q5 := e43 u (by omega) (by omega)
      have q6 := e44 u (by omega) (by omega)
      refine p_aload_n (pc := 21) C dX5_copy_21 rfl ?_
      refine p_get (pc := 22) C fl_X5_9 dX5_copy_22 ⟨by omega, by omega⟩ (by (repeat refine mg_n (by omega) ?_); first | assumption | exact mup_s _ _ _) (by rfl) ?_
      refine p_iload_n (pc := 25) C dX5_copy_25 rfl ?_
      refine p_iald (pc := 26) C dX5_copy_26 ⟨by omega, by omega⟩ (by (repeat refine mg_n (by omega) ?_); first | assumption | exact mup_s _ _ _) (by omega) ?_
      refine p_bipush (pc := 27) C dX5_copy_27 (by decide) ?_
      refine p_icmp_eq (pc := 29) (tgt := 43) C dX5_copy_29 (by decide) (fun c_29 => ?_) (fun c_29 => ?_)
      · refine p_aload_n (pc := 43) C dX5_copy_43 rfl ?_
        refine p_iconst (pc := 44) C dX5_copy_44 (by decide) ?_
        refine p_callVF (pc := 45) C ln_X5_91 dX5_copy_45 (k_X5_fails (by omega) (by (repeat refine mg_n (by omega) ?_); first | assumption | exact mup_s _ _ _)) ⟨by omega, by omega⟩ (by (repeat refine mg_n (by omega) ?_); first | assumption | exact mup_s _ _ _) rfl rfl rfl rfl (Nat.le_of_ble_eq_true rfl) ?_
        refine p_mem (mup_mup _ _ _ _) ?_
        refine p_iret (pc := 48) C dX5_copy_48 ?_
        first
          | (exfalso; omega)
          | (refine ⟨fun q hq => by (repeat (refine mg_n (by omega) ?_)); rfl, ?_⟩; rw [if_pos (by omega)]; exact ⟨rfl, MV_42 hV (by omega)⟩)
          | (refine ⟨fun q hq => by (repeat (refine mg_n (by omega) ?_)); rfl, ?_⟩; rw [if_neg (by omega), if_pos (by omega)]; exact ⟨rfl, MV_42 hV (by omega)⟩)
          | (refine ⟨fun q hq => by (repeat (refine mg_n (by omega) ?_)); rfl, ?_⟩; rw [if_neg (by omega), if_neg (by omega), if_pos (by omega)]; exact ⟨rfl, MV_42 hV (by omega)⟩)
          | (refine ⟨fun q hq => by (repeat (refine mg_n (by omega) ?_)); rfl, ?_⟩; rw [if_neg (by omega), if_neg (by omega), if_neg (by omega), if_pos (by omega)]; exact ⟨rfl, MV_42 hV (by omega)⟩)
      · refine p_aload_n (pc := 32) C dX5_copy_32 rfl ?_
        refine p_get (pc := 33) C fl_X5_9 dX5_copy_33 ⟨by omega, by omega⟩ (by (repeat refine mg_n (by omega) ?_); first | assumption | exact mup_s _ _ _) (by rfl) ?_
        refine p_iload_n (pc := 36) C dX5_copy_36 rfl ?_
        refine p_iald (pc := 37) C dX5_copy_37 ⟨by omega, by omega⟩ (by (repeat refine mg_n (by omega) ?_); first | assumption | exact mup_s _ _ _) (by omega) ?_
        refine p_bipush (pc := 38) C dX5_copy_38 (by decide) ?_
        refine p_icmp_ne (pc := 40) (tgt := 49) C dX5_copy_40 (by decide) (fun c_40 => ?_) (fun c_40 => ?_)
        · refine p_aload_n (pc := 49) C dX5_copy_49 rfl ?_
          refine p_get (pc := 50) C fl_X5_9 dX5_copy_50 ⟨by omega, by omega⟩ (by (repeat refine mg_n (by omega) ?_); first | assumption | exact mup_s _ _ _) (by rfl) ?_
          refine p_iload_n (pc := 53) C dX5_copy_53 rfl ?_
          refine p_iald (pc := 54) C dX5_copy_54 ⟨by omega, by omega⟩ (by (repeat refine mg_n (by omega) ?_); first | assumption | exact mup_s _ _ _) (by omega) ?_
          refine p_aload_n (pc := 55) C dX5_copy_55 rfl ?_
          refine p_get (pc := 56) C fl_X5_9 dX5_copy_56 ⟨by omega, by omega⟩ (by (repeat refine mg_n (by omega) ?_); first | assumption | exact mup_s _ _ _) (by rfl) ?_
          refine p_iload_n (pc := 59) C dX5_copy_59 rfl ?_
          refine p_iald (pc := 60) C dX5_copy_60 ⟨by omega, by omega⟩ (by (repeat refine mg_n (by omega) ?_); first | assumption | exact mup_s _ _ _) (by omega) ?_
          refine p_icmp_eq (pc := 61) (tgt := 70) C dX5_copy_61 (by decide) (fun c_61 => ?_) (fun c_61 => ?_)
          · refine p_iload_n (pc := 70) C dX5_copy_70 rfl ?_
            refine p_if_lt (pc := 71) (tgt := 109) C dX5_copy_71 (by decide) (fun c_71 => ?_) (fun c_71 => ?_)
            · refine p_iconst (pc := 109) C dX5_copy_109 (by decide) ?_
              refine p_istore (pc := 110) (ls' := [(6, _), (0, _), (1, _), (2, _), (3, _), (4, _), (5, _)]) C dX5_copy_110 (by decide) rfl ?_
              refine p_iload (pc := 112) C dX5_copy_112 rfl ?_
              refine p_if_eq (pc := 114) (tgt := 144) C dX5_copy_114 (by decide) (fun c_114 => ?_) (fun h => absurd h (by decide))
              refine p_aload_n (pc := 144) C dX5_copy_144 rfl ?_
              refine p_iconst (pc := 145) C dX5_copy_145 (by decide) ?_
              refine p_callVF (pc := 146) C ln_X5_91 dX5_copy_146 (k_X5_fails (by omega) (by (repeat refine mg_n (by omega) ?_); first | assumption | exact mup_s _ _ _)) ⟨by omega, by omega⟩ (by (repeat refine mg_n (by omega) ?_); first | assumption | exact mup_s _ _ _) rfl rfl rfl rfl (Nat.le_of_ble_eq_true rfl) ?_
              refine p_mem (mup_mup _ _ _ _) ?_
              refine p_iret (pc := 149) C dX5_copy_149 ?_
              first
                | (exfalso; omega)
                | (refine ⟨fun q hq => by (repeat (refine mg_n (by omega) ?_)); rfl, ?_⟩; rw [if_pos (by omega)]; exact ⟨rfl, MV_42 hV (by omega)⟩)
                | (refine ⟨fun q hq => by (repeat (refine mg_n (by omega) ?_)); rfl, ?_⟩; rw [if_neg (by omega), if_pos (by omega)]; exact ⟨rfl, MV_42 hV (by omega)⟩)
                | (refine ⟨fun q hq => by (repeat (refine mg_n (by omega) ?_)); rfl, ?_⟩; rw [if_neg (by omega), if_neg (by omega), if_pos (by omega)]; exact ⟨rfl, MV_42 hV (by omega)⟩)
                | (refine ⟨fun q hq => by (repeat (refine mg_n (by omega) ?_)); rfl, ?_⟩; rw [if_neg (by omega), if_neg (by omega), if_neg (by omega), if_pos (by omega)]; exact ⟨rfl, MV_42 hV (by omega)⟩)
            · refine p_iload (pc := 74) C dX5_copy_74 rfl ?_
              refine p_if_lt (pc := 76) (tgt := 109) C dX5_copy_76 (by decide) (fun c_76 => ?_) (fun c_76 => ?_)
              · refine p_iconst (pc := 109) C dX5_copy_109 (by decide) ?_
                refine p_istore (pc := 110) (ls' := [(6, _), (0, _), (1, _), (2, _), (3, _), (4, _), (5, _)]) C dX5_copy_110 (by decide) rfl ?_
                refine p_iload (pc := 112) C dX5_copy_112 rfl ?_
                refine p_if_eq (pc := 114) (tgt := 144) C dX5_copy_114 (by decide) (fun c_114 => ?_) (fun h => absurd h (by decide))
                refine p_aload_n (pc := 144) C dX5_copy_144 rfl ?_
                refine p_iconst (pc := 145) C dX5_copy_145 (by decide) ?_
                refine p_callVF (pc := 146) C ln_X5_91 dX5_copy_146 (k_X5_fails (by omega) (by (repeat refine mg_n (by omega) ?_); first | assumption | exact mup_s _ _ _)) ⟨by omega, by omega⟩ (by (repeat refine mg_n (by omega) ?_); first | assumption | exact mup_s _ _ _) rfl rfl rfl rfl (Nat.le_of_ble_eq_true rfl) ?_
                refine p_mem (mup_mup _ _ _ _) ?_
                refine p_iret (pc := 149) C dX5_copy_149 ?_
                first
                  | (exfalso; omega)
                  | (refine ⟨fun q hq => by (repeat (refine mg_n (by omega) ?_)); rfl, ?_⟩; rw [if_pos (by omega)]; exact ⟨rfl, MV_42 hV (by omega)⟩)
                  | (refine ⟨fun q hq => by (repeat (refine mg_n (by omega) ?_)); rfl, ?_⟩; rw [if_neg (by omega), if_pos (by omega)]; exact ⟨rfl, MV_42 hV (by omega)⟩)
                  | (refine ⟨fun q hq => by (repeat (refine mg_n (by omega) ?_)); rfl, ?_⟩; rw [if_neg (by omega), if_neg (by omega), if_pos (by omega)]; exact ⟨rfl, MV_42 hV (by omega)⟩)
                  | (refine ⟨fun q hq => by (repeat (refine mg_n (by omega) ?_)); rfl, ?_⟩; rw [if_neg (by omega), if_neg (by omega), if_neg (by omega), if_pos (by omega)]; exact ⟨rfl, MV_42 hV (by omega)⟩)
              · refine p_iload (pc := 79) C dX5_copy_79 rfl ?_
                refine p_if_lt (pc := 81) (tgt := 109) C dX5_copy_81 (by decide) (fun c_81 => ?_) (fun c_81 => ?_)
                · refine p_iconst (pc := 109) C dX5_copy_109 (by decide) ?_
                  refine p_istore (pc := 110) (ls' := [(6, _), (0, _), (1, _), (2, _), (3, _), (4, _), (5, _)]) C dX5_copy_110 (by decide) rfl ?_
                  refine p_iload (pc := 112) C dX5_copy_112 rfl ?_
                  refine p_if_eq (pc := 114) (tgt := 144) C dX5_copy_114 (by decide) (fun c_114 => ?_) (fun h => absurd h (by decide))
                  refine p_aload_n (pc := 144) C dX5_copy_144 rfl ?_
                  refine p_iconst (pc := 145) C dX5_copy_145 (by decide) ?_
                  refine p_callVF (pc := 146) C ln_X5_91 dX5_copy_146 (k_X5_fails (by omega) (by (repeat refine mg_n (by omega) ?_); first | assumption | exact mup_s _ _ _)) ⟨by omega, by omega⟩ (by (repeat refine mg_n (by omega) ?_); first | assumption | exact mup_s _ _ _) rfl rfl rfl rfl (Nat.le_of_ble_eq_true rfl) ?_
                  refine p_mem (mup_mup _ _ _ _) ?_
                  refine p_iret (pc := 149) C dX5_copy_149 ?_
                  first
                    | (exfalso; omega)
                    | (refine ⟨fun q hq => by (repeat (refine mg_n (by omega) ?_)); rfl, ?_⟩; rw [if_pos (by omega)]; exact ⟨rfl, MV_42 hV (by omega)⟩)
                    | (refine ⟨fun q hq => by (repeat (refine mg_n (by omega) ?_)); rfl, ?_⟩; rw [if_neg (by omega), if_pos (by omega)]; exact ⟨rfl, MV_42 hV (by omega)⟩)
                    | (refine ⟨fun q hq => by (repeat (refine mg_n (by omega) ?_)); rfl, ?_⟩; rw [if_neg (by omega), if_neg (by omega), if_pos (by omega)]; exact ⟨rfl, MV_42 hV (by omega)⟩)
                    | (refine ⟨fun q hq => by (repeat (refine mg_n (by omega) ?_)); rfl, ?_⟩; rw [if_neg (by omega), if_neg (by omega), if_neg (by omega), if_pos (by omega)]; exact ⟨rfl, MV_42 hV (by omega)⟩)
                · refine p_iload_n (pc := 84) C dX5_copy_84 rfl ?_
                  refine p_aload_n (pc := 85) C dX5_copy_85 rfl ?_
                  refine p_get (pc := 86) C fl_X5_13 dX5_copy_86 ⟨by omega, by omega⟩ (by (repeat refine mg_n (by omega) ?_); first | assumption | exact mup_s _ _ _) (by rfl) ?_
                  refine p_iload_n (pc := 89) C dX5_copy_89 rfl ?_
                  refine p_iald (pc := 90) C dX5_copy_90 ⟨by omega, by omega⟩ (by (repeat refine mg_n (by omega) ?_); first | assumption | exact mup_s _ _ _) (by omega) ?_
                  refine p_icmp_gt (pc := 91) (tgt := 109) C dX5_copy_91 (by decide) (fun c_91 => ?_) (fun c_91 => ?_)
                  · refine p_iconst (pc := 109) C dX5_copy_109 (by decide) ?_
                    refine p_istore (pc := 110) (ls' := [(6, _), (0, _), (1, _), (2, _), (3, _), (4, _), (5, _)]) C dX5_copy_110 (by decide) rfl ?_
                    refine p_iload (pc := 112) C dX5_copy_112 rfl ?_
                    refine p_if_eq (pc := 114) (tgt := 144) C dX5_copy_114 (by decide) (fun c_114 => ?_) (fun h => absurd h (by decide))
                    refine p_aload_n (pc := 144) C dX5_copy_144 rfl ?_
                    refine p_iconst (pc := 145) C dX5_copy_145 (by decide) ?_
                    refine p_callVF (pc := 146) C ln_X5_91 dX5_copy_146 (k_X5_fails (by omega) (by (repeat refine mg_n (by omega) ?_); first | assumption | exact mup_s _ _ _)) ⟨by omega, by omega⟩ (by (repeat refine mg_n (by omega) ?_); first | assumption | exact mup_s _ _ _) rfl rfl rfl rfl (Nat.le_of_ble_eq_true rfl) ?_
                    refine p_mem (mup_mup _ _ _ _) ?_
                    refine p_iret (pc := 149) C dX5_copy_149 ?_
                    first
                      | (exfalso; omega)
                      | (refine ⟨fun q hq => by (repeat (refine mg_n (by omega) ?_)); rfl, ?_⟩; rw [if_pos (by omega)]; exact ⟨rfl, MV_42 hV (by omega)⟩)
                      | (refine ⟨fun q hq => by (repeat (refine mg_n (by omega) ?_)); rfl, ?_⟩; rw [if_neg (by omega), if_pos (by omega)]; exact ⟨rfl, MV_42 hV (by omega)⟩)
                      | (refine ⟨fun q hq => by (repeat (refine mg_n (by omega) ?_)); rfl, ?_⟩; rw [if_neg (by omega), if_neg (by omega), if_pos (by omega)]; exact ⟨rfl, MV_42 hV (by omega)⟩)
                      | (refine ⟨fun q hq => by (repeat (refine mg_n (by omega) ?_)); rfl, ?_⟩; rw [if_neg (by omega), if_neg (by omega), if_neg (by omega), if_pos (by omega)]; exact ⟨rfl, MV_42 hV (by omega)⟩)
                  · refine p_iload (pc := 94) C dX5_copy_94 rfl ?_
                    refine p_aload_n (pc := 96) C dX5_copy_96 rfl ?_
                    refine p_get (pc := 97) C fl_X5_13 dX5_copy_97 ⟨by omega, by omega⟩ (by (repeat refine mg_n (by omega) ?_); first | assumption | exact mup_s _ _ _) (by rfl) ?_
                    refine p_iload_n (pc := 100) C dX5_copy_100 rfl ?_
                    refine p_iald (pc := 101) C dX5_copy_101 ⟨by omega, by omega⟩ (by (repeat refine mg_n (by omega) ?_); first | assumption | exact mup_s _ _ _) (by omega) ?_
                    refine p_icmp_gt (pc := 102) (tgt := 109) C dX5_copy_102 (by decide) (fun c_102 => ?_) (fun c_102 => ?_)
                    · refine p_iconst (pc := 109) C dX5_copy_109 (by decide) ?_
                      refine p_istore (pc := 110) (ls' := [(6, _), (0, _), (1, _), (2, _), (3, _), (4, _), (5, _)]) C dX5_copy_110 (by decide) rfl ?_
                      refine p_iload (pc := 112) C dX5_copy_112 rfl ?_
                      refine p_if_eq (pc := 114) (tgt := 144) C dX5_copy_114 (by decide) (fun c_114 => ?_) (fun h => absurd h (by decide))
                      refine p_aload_n (pc := 144) C dX5_copy_144 rfl ?_
                      refine p_iconst (pc := 145) C dX5_copy_145 (by decide) ?_
                      refine p_callVF (pc := 146) C ln_X5_91 dX5_copy_146 (k_X5_fails (by omega) (by (repeat refine mg_n (by omega) ?_); first | assumption | exact mup_s _ _ _)) ⟨by omega, by omega⟩ (by (repeat refine mg_n (by omega) ?_); first | assumption | exact mup_s _ _ _) rfl rfl rfl rfl (Nat.le_of_ble_eq_true rfl) ?_
                      refine p_mem (mup_mup _ _ _ _) ?_
                      refine p_iret (pc := 149) C dX5_copy_149 ?_
                      first
                        | (exfalso; omega)
                        | (refine ⟨fun q hq => by (repeat (refine mg_n (by omega) ?_)); rfl, ?_⟩; rw [if_pos (by omega)]; exact ⟨rfl, MV_42 hV (by omega)⟩)
                        | (refine ⟨fun q hq => by (repeat (refine mg_n (by omega) ?_)); rfl, ?_⟩; rw [if_neg (by omega), if_pos (by omega)]; exact ⟨rfl, MV_42 hV (by omega)⟩)
                        | (refine ⟨fun q hq => by (repeat (refine mg_n (by omega) ?_)); rfl, ?_⟩; rw [if_neg (by omega), if_neg (by omega), if_pos (by omega)]; exact ⟨rfl, MV_42 hV (by omega)⟩)
                        | (refine ⟨fun q hq => by (repeat (refine mg_n (by omega) ?_)); rfl, ?_⟩; rw [if_neg (by omega), if_neg (by omega), if_neg (by omega), if_pos (by omega)]; exact ⟨rfl, MV_42 hV (by omega)⟩)
                    · refine p_iconst (pc := 105) C dX5_copy_105 (by decide) ?_
                      refine p_goto (pc := 106) (tgt := 110) C dX5_copy_106 (by decide) ?_
                      refine p_istore (pc := 110) (ls' := [(6, _), (0, _), (1, _), (2, _), (3, _), (4, _), (5, _)]) C dX5_copy_110 (by decide) rfl ?_
                      refine p_iload (pc := 112) C dX5_copy_112 rfl ?_
                      refine p_if_eq (pc := 114) (tgt := 144) C dX5_copy_114 (by decide) (fun h => absurd h (by decide)) (fun c_114 => ?_)
                      refine p_iload (pc := 117) C dX5_copy_117 rfl ?_
                      refine p_aload_n (pc := 119) C dX5_copy_119 rfl ?_
                      refine p_get (pc := 120) C fl_X5_13 dX5_copy_120 ⟨by omega, by omega⟩ (by (repeat refine mg_n (by omega) ?_); first | assumption | exact mup_s _ _ _) (by rfl) ?_
                      refine p_iload_n (pc := 123) C dX5_copy_123 rfl ?_
                      refine p_iald (pc := 124) C dX5_copy_124 ⟨by omega, by omega⟩ (by (repeat refine mg_n (by omega) ?_); first | assumption | exact mup_s _ _ _) (by omega) ?_
                      refine p_iload_n (pc := 125) C dX5_copy_125 rfl ?_
                      refine p_isub (pc := 126) C dX5_copy_126 ⟨by omega, by omega⟩ ?_
                      refine p_icmp_gt (pc := 127) (tgt := 144) C dX5_copy_127 (by decide) (fun c_127 => ?_) (fun c_127 => ?_)
                      · refine p_aload_n (pc := 144) C dX5_copy_144 rfl ?_
                        refine p_iconst (pc := 145) C dX5_copy_145 (by decide) ?_
                        refine p_callVF (pc := 146) C ln_X5_91 dX5_copy_146 (k_X5_fails (by omega) (by (repeat refine mg_n (by omega) ?_); first | assumption | exact mup_s _ _ _)) ⟨by omega, by omega⟩ (by (repeat refine mg_n (by omega) ?_); first | assumption | exact mup_s _ _ _) rfl rfl rfl rfl (Nat.le_of_ble_eq_true rfl) ?_
                        refine p_mem (mup_mup _ _ _ _) ?_
                        refine p_iret (pc := 149) C dX5_copy_149 ?_
                        first
                          | (exfalso; omega)
                          | (refine ⟨fun q hq => by (repeat (refine mg_n (by omega) ?_)); rfl, ?_⟩; rw [if_pos (by omega)]; exact ⟨rfl, MV_42 hV (by omega)⟩)
                          | (refine ⟨fun q hq => by (repeat (refine mg_n (by omega) ?_)); rfl, ?_⟩; rw [if_neg (by omega), if_pos (by omega)]; exact ⟨rfl, MV_42 hV (by omega)⟩)
                          | (refine ⟨fun q hq => by (repeat (refine mg_n (by omega) ?_)); rfl, ?_⟩; rw [if_neg (by omega), if_neg (by omega), if_pos (by omega)]; exact ⟨rfl, MV_42 hV (by omega)⟩)
                          | (refine ⟨fun q hq => by (repeat (refine mg_n (by omega) ?_)); rfl, ?_⟩; rw [if_neg (by omega), if_neg (by omega), if_neg (by omega), if_pos (by omega)]; exact ⟨rfl, MV_42 hV (by omega)⟩)
                      · refine p_iload (pc := 130) C dX5_copy_130 rfl ?_
                        refine p_aload_n (pc := 132) C dX5_copy_132 rfl ?_
                        refine p_get (pc := 133) C fl_X5_13 dX5_copy_133 ⟨by omega, by omega⟩ (by (repeat refine mg_n (by omega) ?_); first | assumption | exact mup_s _ _ _) (by rfl) ?_
                        refine p_iload_n (pc := 136) C dX5_copy_136 rfl ?_
                        refine p_iald (pc := 137) C dX5_copy_137 ⟨by omega, by omega⟩ (by (repeat refine mg_n (by omega) ?_); first | assumption | exact mup_s _ _ _) (by omega) ?_
                        refine p_iload (pc := 138) C dX5_copy_138 rfl ?_
                        refine p_isub (pc := 140) C dX5_copy_140 ⟨by omega, by omega⟩ ?_
                        refine p_icmp_le (pc := 141) (tgt := 150) C dX5_copy_141 (by decide) (fun c_141 => ?_) (fun c_141 => ?_)
                        · refine p_iload_n (pc := 150) C dX5_copy_150 rfl ?_
                          refine p_iload (pc := 151) C dX5_copy_151 rfl ?_
                          refine p_icmp_ge (pc := 153) (tgt := 160) C dX5_copy_153 (by decide) (fun c_153 => ?_) (fun c_153 => ?_)
                          · refine p_iconst (pc := 160) C dX5_copy_160 (by decide) ?_
                            refine p_istore (pc := 161) (ls' := [(7, _), (6, _), (0, _), (1, _), (2, _), (3, _), (4, _), (5, _)]) C dX5_copy_161 (by decide) rfl ?_
                            refine p_iconst (pc := 163) C dX5_copy_163 (by decide) ?_
                            refine p_istore (pc := 164) (ls' := [(8, _), (7, _), (6, _), (0, _), (1, _), (2, _), (3, _), (4, _), (5, _)]) C dX5_copy_164 (by decide) rfl ?_
                            first
                              | exact LL 1 (by omega) (by omega) (by omega) (by omega) (by omega) (by omega)
                              | exact LL 0 (by omega) (by omega) (by omega) (by omega) (by omega) (by omega)
                          · refine p_iconst (pc := 156) C dX5_copy_156 (by decide) ?_
                            refine p_goto (pc := 157) (tgt := 161) C dX5_copy_157 (by decide) ?_
                            refine p_istore (pc := 161) (ls' := [(7, _), (6, _), (0, _), (1, _), (2, _), (3, _), (4, _), (5, _)]) C dX5_copy_161 (by decide) rfl ?_
                            refine p_iconst (pc := 163) C dX5_copy_163 (by decide) ?_
                            refine p_istore (pc := 164) (ls' := [(8, _), (7, _), (6, _), (0, _), (1, _), (2, _), (3, _), (4, _), (5, _)]) C dX5_copy_164 (by decide) rfl ?_
                            first
                              | exact LL 1 (by omega) (by omega) (by omega) (by omega) (by omega) (by omega)
                              | exact LL 0 (by omega) (by omega) (by omega) (by omega) (by omega) (by omega)
                        · refine p_aload_n (pc := 144) C dX5_copy_144 rfl ?_
                          refine p_iconst (pc := 145) C dX5_copy_145 (by decide) ?_
                          refine p_callVF (pc := 146) C ln_X5_91 dX5_copy_146 (k_X5_fails (by omega) (by (repeat refine mg_n (by omega) ?_); first | assumption | exact mup_s _ _ _)) ⟨by omega, by omega⟩ (by (repeat refine mg_n (by omega) ?_); first | assumption | exact mup_s _ _ _) rfl rfl rfl rfl (Nat.le_of_ble_eq_true rfl) ?_
                          refine p_mem (mup_mup _ _ _ _) ?_
                          refine p_iret (pc := 149) C dX5_copy_149 ?_
                          first
                            | (exfalso; omega)
                            | (refine ⟨fun q hq => by (repeat (refine mg_n (by omega) ?_)); rfl, ?_⟩; rw [if_pos (by omega)]; exact ⟨rfl, MV_42 hV (by omega)⟩)
                            | (refine ⟨fun q hq => by (repeat (refine mg_n (by omega) ?_)); rfl, ?_⟩; rw [if_neg (by omega), if_pos (by omega)]; exact ⟨rfl, MV_42 hV (by omega)⟩)
                            | (refine ⟨fun q hq => by (repeat (refine mg_n (by omega) ?_)); rfl, ?_⟩; rw [if_neg (by omega), if_neg (by omega), if_pos (by omega)]; exact ⟨rfl, MV_42 hV (by omega)⟩)
                            | (refine ⟨fun q hq => by (repeat (refine mg_n (by omega) ?_)); rfl, ?_⟩; rw [if_neg (by omega), if_neg (by omega), if_neg (by omega), if_pos (by omega)]; exact ⟨rfl, MV_42 hV (by omega)⟩)
          · refine p_aload_n (pc := 64) C dX5_copy_64 rfl ?_
            refine p_iconst (pc := 65) C dX5_copy_65 (by decide) ?_
            refine p_callVF (pc := 66) C ln_X5_91 dX5_copy_66 (k_X5_fails (by omega) (by (repeat refine mg_n (by omega) ?_); first | assumption | exact mup_s _ _ _)) ⟨by omega, by omega⟩ (by (repeat refine mg_n (by omega) ?_); first | assumption | exact mup_s _ _ _) rfl rfl rfl rfl (Nat.le_of_ble_eq_true rfl) ?_
            refine p_mem (mup_mup _ _ _ _) ?_
            refine p_iret (pc := 69) C dX5_copy_69 ?_
            first
              | (exfalso; omega)
              | (refine ⟨fun q hq => by (repeat (refine mg_n (by omega) ?_)); rfl, ?_⟩; rw [if_pos (by omega)]; exact ⟨rfl, MV_42 hV (by omega)⟩)
              | (refine ⟨fun q hq => by (repeat (refine mg_n (by omega) ?_)); rfl, ?_⟩; rw [if_neg (by omega), if_pos (by omega)]; exact ⟨rfl, MV_42 hV (by omega)⟩)
              | (refine ⟨fun q hq => by (repeat (refine mg_n (by omega) ?_)); rfl, ?_⟩; rw [if_neg (by omega), if_neg (by omega), if_pos (by omega)]; exact ⟨rfl, MV_42 hV (by omega)⟩)
              | (refine ⟨fun q hq => by (repeat (refine mg_n (by omega) ?_)); rfl, ?_⟩; rw [if_neg (by omega), if_neg (by omega), if_neg (by omega), if_pos (by omega)]; exact ⟨rfl, MV_42 hV (by omega)⟩)
        · refine p_aload_n (pc := 43) C dX5_copy_43 rfl ?_
          refine p_iconst (pc := 44) C dX5_copy_44 (by decide) ?_
          refine p_callVF (pc := 45) C ln_X5_91 dX5_copy_45 (k_X5_fails (by omega) (by (repeat refine mg_n (by omega) ?_); first | assumption | exact mup_s _ _ _)) ⟨by omega, by omega⟩ (by (repeat refine mg_n (by omega) ?_); first | assumption | exact mup_s _ _ _) rfl rfl rfl rfl (Nat.le_of_ble_eq_true rfl) ?_
          refine p_mem (mup_mup _ _ _ _) ?_
          refine p_iret (pc := 48) C dX5_copy_48 ?_
          first
            | (exfalso; omega)
            | (refine ⟨fun q hq => by (repeat (refine mg_n (by omega) ?_)); rfl, ?_⟩; rw [if_pos (by omega)]; exact ⟨rfl, MV_42 hV (by omega)⟩)
            | (refine ⟨fun q hq => by (repeat (refine mg_n (by omega) ?_)); rfl, ?_⟩; rw [if_neg (by omega), if_pos (by omega)]; exact ⟨rfl, MV_42 hV (by omega)⟩)
            | (refine ⟨fun q hq => by (repeat (refine mg_n (by omega) ?_)); rfl, ?_⟩; rw [if_neg (by omega), if_neg (by omega), if_pos (by omega)]; exact ⟨rfl, MV_42 hV (by omega)⟩)
            | (refine ⟨fun q hq => by (repeat (refine mg_n (by omega) ?_)); rfl, ?_⟩; rw [if_neg (by omega), if_neg (by omega), if_neg (by omega), if_pos (by omega)]; exact ⟨rfl, MV_42 hV (by omega)⟩)
    · refine p_iconst (pc := 19) C dX5_copy_19 (by decide) ?_
      refine p_iret (pc := 20) C dX5_copy_20 ?_
      first
        | (exfalso; omega)
        | (refine ⟨fun q hq => by (repeat (refine mg_n (by omega) ?_)); rfl, ?_⟩; rw [if_pos (by omega)]; exact ⟨rfl, MV_42 hV (by omega)⟩)
        | (refine ⟨fun q hq => by (repeat (refine mg_n (by omega) ?_)); rfl, ?_⟩; rw [if_neg (by omega), if_pos (by omega)]; exact ⟨rfl, MV_42 hV (by omega)⟩)
        | (refine ⟨fun q hq => by (repeat (refine mg_n (by omega) ?_)); rfl, ?_⟩; rw [if_neg (by omega), if_neg (by omega), if_pos (by omega)]; exact ⟨rfl, MV_42 hV (by omega)⟩)
        | (refine ⟨fun q hq => by (repeat (refine mg_n (by omega) ?_)); rfl, ?_⟩; rw [if_neg (by omega), if_neg (by omega), if_neg (by omega), if_pos (by omega)]; exact ⟨rfl, MV_42 hV (by omega)⟩)
