theorem MV_rd {np ns day nr tr fl : Int} {rg kd nm sg pt : Int → Int} {ca : Int → Int → Int} {rs rp rl th la ln : Int → Int} {ce : Int → Int → Int} {μ : Int → ME} {k p x at_ rP rS lp lw lf sL sF : Int} {g1 g2 g3 : Int → Int} (h : MV np ns day nr tr fl rg kd nm sg pt ca rs rp rl th la ln ce μ) (e1 : ∀ i, 0 ≤ i → i < nr → g1 i = rs i) (e2 : ∀ i, 0 ≤ i → i < nr → g2 i = rp i) (e3 : ∀ i, 0 ≤ i → i < nr → g3 i = rl i) : MV np ns day (nr + 1) tr fl rg kd nm sg pt ca (fup rs nr k) (fup rp nr p) (fup rl nr x) th la ln ce (mup (mup (mup (mup μ 57 (mA 8 (fup g1 nr k))) 58 (mA 8 (fup g2 nr p))) 59 (mA 8 (fup g3 nr x))) 42 (oM fl tr np ns day at_ rP rS lp lw lf sL sF (nr + 1))) := by
  have key : ∀ {f g : Int → Int} {v : Int}, (∀ i, 0 ≤ i → i < nr → f i = g i) → ∀ i, 0 ≤ i → i < nr + 1 → fup f nr v i = fup g nr v i := fun hh i i0 i1 => by
    unfold fup; split
    · rfl
    · exact hh i i0 (by omega)
  obtain ⟨m42, m43, m44, m45, ⟨m46, m47, m48, m49⟩, mD, ⟨m52, m53, m54, m55, m56⟩, m57, m58, m59⟩ := h
  refine ⟨⟨_, _, _, _, _, _, _, _, mup_s _ _ _⟩, ?_, ?_, ?_, ⟨?_, ?_, ?_, ?_⟩, ?_, ⟨?_, ?_, ?_, ?_, ?_⟩, ⟨_, mg_n (by omega) (mg_n (by omega) (mg_n (by omega) (mup_s _ _ _))), key e1⟩, ⟨_, mg_n (by omega) (mg_n (by omega) (mup_s _ _ _)), key e2⟩, ⟨_, mg_n (by omega) (mup_s _ _ _), key e3⟩⟩
  · exact m43.imp fun _ h => ⟨mg_n (by omega) (mg_n (by omega) (mg_n (by omega) (mg_n (by omega) h.1))), h.2⟩
  · exact m44.imp fun _ h => ⟨mg_n (by omega) (mg_n (by omega) (mg_n (by omega) (mg_n (by omega) h.1))), h.2⟩
  · exact m45.imp fun _ h => ⟨mg_n (by omega) (mg_n (by omega) (mg_n (by omega) (mg_n (by omega) h.1))), h.2⟩
  · exact m46.imp fun _ h => ⟨mg_n (by omega) (mg_n (by omega) (mg_n (by omega) (mg_n (by omega) h.1))), h.2⟩
  · exact m47.imp fun _ h => ⟨mg_n (by omega) (mg_n (by omega) (mg_n (by omega) (mg_n (by omega) h.1))), h.2⟩
  · exact m48.imp fun _ h => ⟨mg_n (by omega) (mg_n (by omega) (mg_n (by omega) (mg_n (by omega) h.1))), h.2⟩
  · exact m49.imp fun _ h => ⟨mg_n (by omega) (mg_n (by omega) (mg_n (by omega) (mg_n (by omega) h.1))), h.2⟩
  · exact mD.imp fun _ h => h.imp fun _ h => ⟨mg_n (by omega) (mg_n (by omega) (mg_n (by omega) (mg_n (by omega) h.1))), mg_n (by omega) (mg_n (by omega) (mg_n (by omega) (mg_n (by omega) h.2.1))), h.2.2⟩
  · exact m52.imp fun _ h => mg_n (by omega) (mg_n (by omega) (mg_n (by omega) (mg_n (by omega) h)))
  · exact m53.imp fun _ h => mg_n (by omega) (mg_n (by omega) (mg_n (by omega) (mg_n (by omega) h)))
  · exact m54.imp fun _ h => mg_n (by omega) (mg_n (by omega) (mg_n (by omega) (mg_n (by omega) h)))
  · exact m55.imp fun _ h => mg_n (by omega) (mg_n (by omega) (mg_n (by omega) (mg_n (by omega) h)))
  · exact m56.imp fun _ h => mg_n (by omega) (mg_n (by omega) (mg_n (by omega) (mg_n (by omega) h)))
/-- sheets made anew -/
theorem MV_sh {np ns day nr tr fl : Int} {rg kd nm sg pt : Int → Int} {ca : Int → Int → Int} {rs rp rl th la ln : Int → Int} {ce : Int → Int → Int} {μ ν : Int → ME} {fl' : Int} {th' la' ln' : Int → Int} {ce' : Int → Int → Int} (h : MV np ns day nr tr fl rg kd nm sg pt ca rs rp rl th la ln ce μ) (ho : ∀ x, 46 ≤ x → ν x = μ x) (h42 : ∃ at_ rP rS lp lw lf sL sF : Int, ν 42 = oM fl' tr np ns day at_ rP rS lp lw lf sL sF nr) (h43 : ∃ f, ν 43 = mA 4 f ∧ ∀ k, 0 ≤ k → k < 4 → f k = if th' k = 0 then -9 else la' k) (h44 : ∃ f, ν 44 = mA 4 f ∧ ∀ k, 0 ≤ k → k < 4 → th' k ≠ 0 → f k = ln' k) (h45 : ∃ f, ν 45 = mA 240 f ∧ ∀ k, 0 ≤ k → k < 4 → th' k ≠ 0 → ∀ j, 0 ≤ j → j < ln' k → f (60 * k + j) = ce' k j) : MV np ns day nr tr (fl') rg kd nm sg pt ca rs rp rl (th') (la') (ln') (ce') ν := by
  refine ⟨h42, h43, h44, h45, ?_⟩
  have h2 := h.2.2.2.2
  unfold MB at *
  rw [ho 46 (by omega), ho 47 (by omega), ho 48 (by omega), ho 49 (by omega), ho 50 (by omega), ho 51 (by omega), ho 52 (by omega), ho 53 (by omega), ho 54 (by omega), ho 55 (by omega), ho 56 (by omega), ho 57 (by omega), ho 58 (by omega), ho 59 (by omega)]
  exact h2

set_option maxHeartbeats 4000000 in
set_option maxRecDepth 100000 in
theorem q_X5_reading {K : KX} {d : Nat} {μ : Int → ME} {k p x : Int} {np ns day nr tr fl : Int} {rg kd nm sg pt : Int → Int} {ca : Int → Int → Int} {rs rp rl th la ln : Int → Int} {ce : Int → Int → Int} (hV : MV np ns day nr tr fl rg kd nm sg pt ca rs rp rl th la ln ce μ) (hW : WF np ns day nr tr fl rg kd nm sg pt ca rs rp rl th la ln ce) : Ct K (d + 2) yX5_reading cX5_reading 4 (some .int) [vR 42, vI k, vI p, vI x] μ (fun r μ' => (∀ a, a < 42 → μ' a = μ a) ∧ (if ¬ ((0 ≤ k ∧ k < ns) ∧ (0 ≤ p ∧ p < np)) then r = some (vI (-1)) ∧ MV np ns day nr tr fl rg kd nm sg pt ca rs rp rl th la ln ce μ' else if ¬ (0 ≤ x ∧ x ≤ 1) then r = some (vI (-2)) ∧ MV np ns day nr tr fl rg kd nm sg pt ca rs rp rl th la ln ce μ' else if 8 ≤ nr then r = some (vI (-4)) ∧ MV np ns day nr tr fl rg kd nm sg pt ca rs rp rl th la ln ce μ' else r = some (vI (nr)) ∧ MV np ns day (nr + 1) tr fl rg kd nm sg pt ca (fup rs nr k) (fup rp nr p) (fup rl nr x) th la ln ce μ')) := by
  refine Ct.of (by decide) (Nat.le_of_ble_eq_true rfl) (fun X C => ?_)
  obtain ⟨m42, m43, m44, m45, mB, mD, ⟨m52, m53, m54, m55, m56⟩, m57, m58, m59⟩ := id hV
  obtain ⟨m46, m47, m48, m49⟩ := id mB
  obtain ⟨at_, rP, rS, lp, lw, lf, sL, sF, h0⟩ := id m42
  obtain ⟨f43, h43, e43⟩ := id m43
  obtain ⟨f44, h44, e44⟩ := id m44
  obtain ⟨f45, h45, e45⟩ := id m45
  obtain ⟨f46, h46, e46⟩ := id m46
  obtain ⟨f47, h47, e47⟩ := id m47
  obtain ⟨f48, h48, e48⟩ := id m48
  obtain ⟨f49, h49, e49⟩ := id m49
  obtain ⟨pf, cf, h50, h51, hMR⟩ := id mD
  obtain ⟨f57, h57, e57⟩ := id m57
  obtain ⟨f58, h58, e58⟩ := id m58
  obtain ⟨f59, h59, e59⟩ := id m59
  obtain ⟨w0, w1, w2, w3, w4, w5, w6⟩ := id hW
  refine p_aload_n (pc := 0) C dX5_reading_0 rfl ?_
  refine p_iload_n (pc := 1) C dX5_reading_1 rfl ?_
  refine p_callVF (pc := 2) C ln_X5_127 dX5_reading_2 (k_X5_isShip (by (repeat refine mg_n (by omega) ?_); first | assumption | exact mup_s _ _ _)) ⟨by omega, by omega⟩ (by (repeat refine mg_n (by omega) ?_); first | assumption | exact mup_s _ _ _) rfl rfl rfl rfl (Nat.le_of_ble_eq_true rfl) ?_
  refine p_ifeq_b (pc := 5) (tgt := 16) C dX5_reading_5 (by decide) (fun c_5 => ?_) (fun c_5 => ?_)
  · refine p_iconst (pc := 16) C dX5_reading_16 (by decide) ?_
    refine p_iret (pc := 17) C dX5_reading_17 ?_
    first
      | (exfalso; omega)
      | (refine ⟨fun q hq => by (repeat (refine mg_n (by omega) ?_)); rfl, ?_⟩; rw [if_pos (by omega)]; exact ⟨rfl, hV⟩)
      | (refine ⟨fun q hq => by (repeat (refine mg_n (by omega) ?_)); rfl, ?_⟩; rw [if_neg (by omega), if_pos (by omega)]; exact ⟨rfl, hV⟩)
      | (refine ⟨fun q hq => by (repeat (refine mg_n (by omega) ?_)); rfl, ?_⟩; rw [if_neg (by omega), if_neg (by omega), if_pos (by omega)]; exact ⟨rfl, hV⟩)
      | (refine ⟨fun q hq => by (repeat (refine mg_n (by omega) ?_)); rfl, ?_⟩; rw [if_neg (by omega), if_neg (by omega), if_neg (by omega)]; exact ⟨sv (by omega), MV_rd hV e57 e58 e59⟩)
  · refine p_aload_n (pc := 8) C dX5_reading_8 rfl ?_
    refine p_iload_n (pc := 9) C dX5_reading_9 rfl ?_
    refine p_callVF (pc := 10) C ln_X5_142 dX5_reading_10 (k_X5_isPort h0) ⟨by omega, by omega⟩ (by (repeat refine mg_n (by omega) ?_); first | assumption | exact mup_s _ _ _) rfl rfl rfl rfl (Nat.le_of_ble_eq_true rfl) ?_
    refine p_ifne_b (pc := 13) (tgt := 18) C dX5_reading_13 (by decide) (fun c_13 => ?_) (fun c_13 => ?_)
    · refine p_iload_n (pc := 18) C dX5_reading_18 rfl ?_
      refine p_iconst (pc := 19) C dX5_reading_19 (by decide) ?_
      refine p_iconst (pc := 20) C dX5_reading_20 (by decide) ?_
      refine p_callSF (pc := 21) C ln_X5_67 dX5_reading_21 (k_X5_within) rfl rfl (Nat.le_of_ble_eq_true rfl) ?_
      refine p_ifne_b (pc := 24) (tgt := 30) C dX5_reading_24 (by decide) (fun c_24 => ?_) (fun c_24 => ?_)
      · refine p_aload_n (pc := 30) C dX5_reading_30 rfl ?_
        refine p_get (pc := 31) C fl_X5_110 dX5_reading_31 ⟨by omega, by omega⟩ (by (repeat refine mg_n (by omega) ?_); first | assumption | exact mup_s _ _ _) (by rfl) ?_
        refine p_bipush (pc := 34) C dX5_reading_34 (by decide) ?_
        refine p_icmp_ne (pc := 36) (tgt := 42) C dX5_reading_36 (by decide) (fun c_36 => ?_) (fun c_36 => ?_)
        · refine p_aload_n (pc := 42) C dX5_reading_42 rfl ?_
          refine p_get (pc := 43) C fl_X5_52 dX5_reading_43 ⟨by omega, by omega⟩ (by (repeat refine mg_n (by omega) ?_); first | assumption | exact mup_s _ _ _) (by rfl) ?_
          refine p_aload_n (pc := 46) C dX5_reading_46 rfl ?_
          refine p_get (pc := 47) C fl_X5_110 dX5_reading_47 ⟨by omega, by omega⟩ (by (repeat refine mg_n (by omega) ?_); first | assumption | exact mup_s _ _ _) (by rfl) ?_
          refine p_iload_n (pc := 50) C dX5_reading_50 rfl ?_
          refine p_iast (pc := 51) C dX5_reading_51 ⟨by omega, by omega⟩ (by (repeat refine mg_n (by omega) ?_); first | assumption | exact mup_s _ _ _) (by omega) ?_
          try refine p_mem (mup_mup _ _ _ _) ?_
          refine p_aload_n (pc := 52) C dX5_reading_52 rfl ?_
          refine p_get (pc := 53) C fl_X5_55 dX5_reading_53 ⟨by omega, by omega⟩ (by (repeat refine mg_n (by omega) ?_); first | assumption | exact mup_s _ _ _) (by rfl) ?_
          refine p_aload_n (pc := 56) C dX5_reading_56 rfl ?_
          refine p_get (pc := 57) C fl_X5_110 dX5_reading_57 ⟨by omega, by omega⟩ (by (repeat refine mg_n (by omega) ?_); first | assumption | exact mup_s _ _ _) (by rfl) ?_
          refine p_iload_n (pc := 60) C dX5_reading_60 rfl ?_
          refine p_iast (pc := 61) C dX5_reading_61 ⟨by omega, by omega⟩ (by (repeat refine mg_n (by omega) ?_); first | assumption | exact mup_s _ _ _) (by omega) ?_
          try refine p_mem (mup_mup _ _ _ _) ?_
          refine p_aload_n (pc := 62) C dX5_reading_62 rfl ?_
          refine p_get (pc := 63) C fl_X5_58 dX5_reading_63 ⟨by omega, by omega⟩ (by (repeat refine mg_n (by omega) ?_); first | assumption | exact mup_s _ _ _) (by rfl) ?_
          refine p_aload_n (pc := 66) C dX5_reading_66 rfl ?_
          refine p_get (pc := 67) C fl_X5_110 dX5_reading_67 ⟨by omega, by omega⟩ (by (repeat refine mg_n (by omega) ?_); first | assumption | exact mup_s _ _ _) (by rfl) ?_
          refine p_iload_n (pc := 70) C dX5_reading_70 rfl ?_
          refine p_iast (pc := 71) C dX5_reading_71 ⟨by omega, by omega⟩ (by (repeat refine mg_n (by omega) ?_); first | assumption | exact mup_s _ _ _) (by omega) ?_
          try refine p_mem (mup_mup _ _ _ _) ?_
          refine p_aload_n (pc := 72) C dX5_reading_72 rfl ?_
          refine p_dup (pc := 73) C dX5_reading_73 rfl ?_
          refine p_get (pc := 74) C fl_X5_110 dX5_reading_74 ⟨by omega, by omega⟩ (by (repeat refine mg_n (by omega) ?_); first | assumption | exact mup_s _ _ _) (by rfl) ?_
          refine p_iconst (pc := 77) C dX5_reading_77 (by decide) ?_
          refine p_iadd (pc := 78) C dX5_reading_78 ⟨by omega, by omega⟩ ?_
          refine p_putL (pc := 79) (fs' := [_, _, _, _, _, _, _, _, _, _, _, _, _, _, _, _, _, _, _, _, _, _, _, _, _, _, _, _, _, _, _]) C fp_X5_110 dX5_reading_79 ⟨by omega, by omega⟩ (by (repeat refine mg_n (by omega) ?_); first | assumption | exact mup_s _ _ _) (by exact Nat.le_of_ble_eq_true rfl) (by rfl) ?_
          try refine p_mem (mup_mup _ _ _ _) ?_
          refine p_aload_n (pc := 82) C dX5_reading_82 rfl ?_
          refine p_get (pc := 83) C fl_X5_110 dX5_reading_83 ⟨by omega, by omega⟩ (by (repeat refine mg_n (by omega) ?_); first | assumption | exact mup_s _ _ _) (by rfl) ?_
          refine p_iconst (pc := 86) C dX5_reading_86 (by decide) ?_
          refine p_isub (pc := 87) C dX5_reading_87 ⟨by omega, by omega⟩ ?_
          refine p_iret (pc := 88) C dX5_reading_88 ?_
          first
            | (exfalso; omega)
            | (refine ⟨fun q hq => by (repeat (refine mg_n (by omega) ?_)); rfl, ?_⟩; rw [if_pos (by omega)]; exact ⟨rfl, hV⟩)
            | (refine ⟨fun q hq => by (repeat (refine mg_n (by omega) ?_)); rfl, ?_⟩; rw [if_neg (by omega), if_pos (by omega)]; exact ⟨rfl, hV⟩)
            | (refine ⟨fun q hq => by (repeat (refine mg_n (by omega) ?_)); rfl, ?_⟩; rw [if_neg (by omega), if_neg (by omega), if_pos (by omega)]; exact ⟨rfl, hV⟩)
            | (refine ⟨fun q hq => by (repeat (refine mg_n (by omega) ?_)); rfl, ?_⟩; rw [if_neg (by omega), if_neg (by omega), if_neg (by omega)]; exact ⟨sv (by omega), MV_rd hV e57 e58 e59⟩)
        · refine p_bipush (pc := 39) C dX5_reading_39 (by decide) ?_
          refine p_iret (pc := 41) C dX5_reading_41 ?_
          first
            | (exfalso; omega)
            | (refine ⟨fun q hq => by (repeat (refine mg_n (by omega) ?_)); rfl, ?_⟩; rw [if_pos (by omega)]; exact ⟨rfl, hV⟩)
            | (refine ⟨fun q hq => by (repeat (refine mg_n (by omega) ?_)); rfl, ?_⟩; rw [if_neg (by omega), if_pos (by omega)]; exact ⟨rfl, hV⟩)
            | (refine ⟨fun q hq => by (repeat (refine mg_n (by omega) ?_)); rfl, ?_⟩; rw [if_neg (by omega), if_neg (by omega), if_pos (by omega)]; exact ⟨rfl, hV⟩)
            | (refine ⟨fun q hq => by (repeat (refine mg_n (by omega) ?_)); rfl, ?_⟩; rw [if_neg (by omega), if_neg (by omega), if_neg (by omega)]; exact ⟨sv (by omega), MV_rd hV e57 e58 e59⟩)
      · refine p_bipush (pc := 27) C dX5_reading_27 (by decide) ?_
        refine p_iret (pc := 29) C dX5_reading_29 ?_
        first
          | (exfalso; omega)
          | (refine ⟨fun q hq => by (repeat (refine mg_n (by omega) ?_)); rfl, ?_⟩; rw [if_pos (by omega)]; exact ⟨rfl, hV⟩)
          | (refine ⟨fun q hq => by (repeat (refine mg_n (by omega) ?_)); rfl, ?_⟩; rw [if_neg (by omega), if_pos (by omega)]; exact ⟨rfl, hV⟩)
          | (refine ⟨fun q hq => by (repeat (refine mg_n (by omega) ?_)); rfl, ?_⟩; rw [if_neg (by omega), if_neg (by omega), if_pos (by omega)]; exact ⟨rfl, hV⟩)
          | (refine ⟨fun q hq => by (repeat (refine mg_n (by omega) ?_)); rfl, ?_⟩; rw [if_neg (by omega), if_neg (by omega), if_neg (by omega)]; exact ⟨sv (by omega), MV_rd hV e57 e58 e59⟩)
    · refine p_iconst (pc := 16) C dX5_reading_16 (by decide) ?_
      refine p_iret (pc := 17) C dX5_reading_17 ?_
      first
        | (exfalso; omega)
        | (refine ⟨fun q hq => by (repeat (refine mg_n (by omega) ?_)); rfl, ?_⟩; rw [if_pos (by omega)]; exact ⟨rfl, hV⟩)
        | (refine ⟨fun q hq => by (repeat (refine mg_n (by omega) ?_)); rfl, ?_⟩; rw [if_neg (by omega), if_pos (by omega)]; exact ⟨rfl, hV⟩)
        | (refine ⟨fun q hq => by (repeat (refine mg_n (by omega) ?_)); rfl, ?_⟩; rw [if_neg (by omega), if_neg (by omega), if_pos (by omega)]; exact ⟨rfl, hV⟩)
        | (refine ⟨fun q hq => by (repeat (refine mg_n (by omega) ?_)); rfl, ?_⟩; rw [if_neg (by omega), if_neg (by omega), if_neg (by omega)]; exact ⟨sv (by omega), MV_rd hV e57 e58 e59⟩)

set_option maxHeartbeats 4000000 in
set_option maxRecDepth 100000 in
theorem q_X5_as {K : KX} {d : Nat} {μ : Int → ME} {k x : Int} {np ns day nr tr fl : Int} {rg kd nm sg pt : Int → Int} {ca : Int → Int → Int} {rs rp rl th la ln : Int → Int} {ce : Int → Int → Int} (hV : MV np ns day nr tr fl rg kd nm sg pt ca rs rp rl th la ln ce μ) (hW : WF np ns day nr tr fl rg kd nm sg pt ca rs rp rl th la ln ce) : Ct K (d + 2) yX5_as cX5_as 3 (some .int) [vR 42, vI k, vI x] μ (fun r μ' => (∀ a, a < 42 → μ' a = μ a) ∧ (if ¬ (0 ≤ k ∧ k < ns) then r = some (vI (-1)) ∧ MV np ns day nr tr (0) rg kd nm sg pt ca rs rp rl th la ln ce μ' else if ¬ (0 ≤ x ∧ x < 3) then r = some (vI (-2)) ∧ MV np ns day nr tr (0) rg kd nm sg pt ca rs rp rl th la ln ce μ' else if kd k < x then r = some (vI (-12)) ∧ MV np ns day nr tr (2) rg kd nm sg pt ca rs rp rl th la ln ce μ' else r = some (vI (1)) ∧ MV np ns day nr tr (0) rg kd nm sg pt ca rs rp rl th la ln ce μ')) := by
  refine Ct.of (by decide) (Nat.le_of_ble_eq_true rfl) (fun X C => ?_)
  obtain ⟨m42, m43, m44, m45, mB, mD, ⟨m52, m53, m54, m55, m56⟩, m57, m58, m59⟩ := id hV
  obtain ⟨m46, m47, m48, m49⟩ := id mB
  obtain ⟨at_, rP, rS, lp, lw, lf, sL, sF, h0⟩ := id m42
  obtain ⟨f43, h43, e43⟩ := id m43
  obtain ⟨f44, h44, e44⟩ := id m44
  obtain ⟨f45, h45, e45⟩ := id m45
  obtain ⟨f46, h46, e46⟩ := id m46
  obtain ⟨f47, h47, e47⟩ := id m47
  obtain ⟨f48, h48, e48⟩ := id m48
  obtain ⟨f49, h49, e49⟩ := id m49
  obtain ⟨pf, cf, h50, h51, hMR⟩ := id mD
  obtain ⟨f57, h57, e57⟩ := id m57
  obtain ⟨f58, h58, e58⟩ := id m58
  obtain ⟨f59, h59, e59⟩ := id m59
  obtain ⟨w0, w1, w2, w3, w4, w5, w6⟩ := id hW
  refine p_aload_n (pc := 0) C dX5_as_0 rfl ?_
  refine p_iconst (pc := 1) C dX5_as_1 (by decide) ?_
  refine p_putL (pc := 2) (fs' := [_, _, _, _, _, _, _, _, _, _, _, _, _, _, _, _, _, _, _, _, _, _, _, _, _, _, _, _, _, _, _]) C fp_X5_61 dX5_as_2 ⟨by omega, by omega⟩ (by (repeat refine mg_n (by omega) ?_); first | assumption | exact mup_s _ _ _) (by exact Nat.le_of_ble_eq_true rfl) (by rfl) ?_
  try refine p_mem (mup_mup _ _ _ _) ?_
  refine p_aload_n (pc := 5) C dX5_as_5 rfl ?_
  refine p_iload_n (pc := 6) C dX5_as_6 rfl ?_
  refine p_callVF (pc := 7) C ln_X5_127 dX5_as_7 (k_X5_isShip (by (repeat refine mg_n (by omega) ?_); first | assumption | exact mup_s _ _ _)) ⟨by omega, by omega⟩ (by (repeat refine mg_n (by omega) ?_); first | assumption | exact mup_s _ _ _) rfl rfl rfl rfl (Nat.le_of_ble_eq_true rfl) ?_
  refine p_ifne_b (pc := 10) (tgt := 15) C dX5_as_10 (by decide) (fun c_10 => ?_) (fun c_10 => ?_)
  · refine p_iload_n (pc := 15) C dX5_as_15 rfl ?_
    refine p_iconst (pc := 16) C dX5_as_16 (by decide) ?_
    refine p_iconst (pc := 17) C dX5_as_17 (by decide) ?_
    refine p_callSF (pc := 18) C ln_X5_67 dX5_as_18 (k_X5_within) rfl rfl (Nat.le_of_ble_eq_true rfl) ?_
    refine p_ifne_b (pc := 21) (tgt := 27) C dX5_as_21 (by decide) (fun c_21 => ?_) (fun c_21 => ?_)
    · obtain ⟨n1, n2, n3⟩ := w3 k (by omega) (by omega)
      obtain ⟨x1, x2⟩ := w4 k (by omega) (by omega)
      obtain ⟨r1, r2⟩ := hMR k (by omega) (by omega)
      dsimp only at r1 r2
      have q7 := e47 k (by omega) (by omega)
      have q8 := e48 k (by omega) (by omega)
      have q9 := e49 k (by omega) (by omega)
      have hsl : ∀ g, 0 ≤ g → g < 4 → (fun g => cf (4 * k + g)) g = ca k g := fun g g0 g1 => r2 g g0 g1
      have hbs : bd4 (fun g => cf (4 * k + g)) 100 := bd4_c hsl (x2.le (by omega))
      refine p_aload_n (pc := 27) C dX5_as_27 rfl ?_
      refine p_get (pc := 28) C fl_X5_22 dX5_as_28 ⟨by omega, by omega⟩ (by (repeat refine mg_n (by omega) ?_); first | assumption | exact mup_s _ _ _) (by rfl) ?_
      refine p_iload_n (pc := 31) C dX5_as_31 rfl ?_
      refine p_iald (pc := 32) C dX5_as_32 ⟨by omega, by omega⟩ (by (repeat refine mg_n (by omega) ?_); first | assumption | exact mup_s _ _ _) (by omega) ?_
      refine p_iload_n (pc := 33) C dX5_as_33 rfl ?_
      refine p_icmp_lt (pc := 34) (tgt := 41) C dX5_as_34 (by decide) (fun c_34 => ?_) (fun c_34 => ?_)
      · refine p_aload_n (pc := 41) C dX5_as_41 rfl ?_
        refine p_iconst (pc := 42) C dX5_as_42 (by decide) ?_
        refine p_callVF (pc := 43) C ln_X5_91 dX5_as_43 (k_X5_fails (by omega) (by (repeat refine mg_n (by omega) ?_); first | assumption | exact mup_s _ _ _)) ⟨by omega, by omega⟩ (by (repeat refine mg_n (by omega) ?_); first | assumption | exact mup_s _ _ _) rfl rfl rfl rfl (Nat.le_of_ble_eq_true rfl) ?_
        refine p_mem (mup_mup _ _ _ _) ?_
        refine p_iret (pc := 46) C dX5_as_46 ?_
        first
          | (exfalso; omega)
          | (refine ⟨fun q hq => by (repeat (refine mg_n (by omega) ?_)); rfl, ?_⟩; rw [if_pos (by omega)]; exact ⟨rfl, MV_42 hV (by omega)⟩)
          | (refine ⟨fun q hq => by (repeat (refine mg_n (by omega) ?_)); rfl, ?_⟩; rw [if_neg (by omega), if_pos (by omega)]; exact ⟨rfl, MV_42 hV (by omega)⟩)
          | (refine ⟨fun q hq => by (repeat (refine mg_n (by omega) ?_)); rfl, ?_⟩; rw [if_neg (by omega), if_neg (by omega), if_pos (by omega)]; exact ⟨rfl, MV_42 hV (by omega)⟩)
          | (refine ⟨fun q hq => by (repeat (refine mg_n (by omega) ?_)); rfl, ?_⟩; rw [if_neg (by omega), if_neg (by omega), if_neg (by omega)]; exact ⟨rfl, MV_42 hV (by omega)⟩)
      · refine p_iconst (pc := 37) C dX5_as_37 (by decide) ?_
        refine p_goto (pc := 38) (tgt := 46) C dX5_as_38 (by decide) ?_
        refine p_iret (pc := 46) C dX5_as_46 ?_
        first
          | (exfalso; omega)
          | (refine ⟨fun q hq => by (repeat (refine mg_n (by omega) ?_)); rfl, ?_⟩; rw [if_pos (by omega)]; exact ⟨rfl, MV_42 hV (by omega)⟩)
          | (refine ⟨fun q hq => by (repeat (refine mg_n (by omega) ?_)); rfl, ?_⟩; rw [if_neg (by omega), if_pos (by omega)]; exact ⟨rfl, MV_42 hV (by omega)⟩)
          | (refine ⟨fun q hq => by (repeat (refine mg_n (by omega) ?_)); rfl, ?_⟩; rw [if_neg (by omega), if_neg (by omega), if_pos (by omega)]; exact ⟨rfl, MV_42 hV (by omega)⟩)
          | (refine ⟨fun q hq => by (repeat (refine mg_n (by omega) ?_)); rfl, ?_⟩; rw [if_neg (by omega), if_neg (by omega), if_neg (by omega)]; exact ⟨rfl, MV_42 hV (by omega)⟩)
    · refine p_bipush (pc := 24) C dX5_as_24 (by decide) ?_
      refine p_iret (pc := 26) C dX5_as_26 ?_
      first
        | (exfalso; omega)
        | (refine ⟨fun q hq => by (repeat (refine mg_n (by omega) ?_)); rfl, ?_⟩; rw [if_pos (by omega)]; exact ⟨rfl, MV_42 hV (by omega)⟩)
        | (refine ⟨fun q hq => by (repeat (refine mg_n (by omega) ?_)); rfl, ?_⟩; rw [if_neg (by omega), if_pos (by omega)]; exact ⟨rfl, MV_42 hV (by omega)⟩)
        | (refine ⟨fun q hq => by (repeat (refine mg_n (by omega) ?_)); rfl, ?_⟩; rw [if_neg (by omega), if_neg (by omega), if_pos (by omega)]; exact ⟨rfl, MV_42 hV (by omega)⟩)
        | (refine ⟨fun q hq => by (repeat (refine mg_n (by omega) ?_)); rfl, ?_⟩; rw [if_neg (by omega), if_neg (by omega), if_neg (by omega)]; exact ⟨rfl, MV_42 hV (by omega)⟩)
  · refine p_iconst (pc := 13) C dX5_as_13 (by decide) ?_
    refine p_iret (pc := 14) C dX5_as_14 ?_
    first
      | (exfalso; omega)
      | (refine ⟨fun q hq => by (repeat (refine mg_n (by omega) ?_)); rfl, ?_⟩; rw [if_pos (by omega)]; exact ⟨rfl, MV_42 hV (by omega)⟩)
      | (refine ⟨fun q hq => by (repeat (refine mg_n (by omega) ?_)); rfl, ?_⟩; rw [if_neg (by omega), if_pos (by omega)]; exact ⟨rfl, MV_42 hV (by omega)⟩)
      | (refine ⟨fun q hq => by (repeat (refine mg_n (by omega) ?_)); rfl, ?_⟩; rw [if_neg (by omega), if_neg (by omega), if_pos (by omega)]; exact ⟨rfl, MV_42 hV (by omega)⟩)
      | (refine ⟨fun q hq => by (repeat (refine mg_n (by omega) ?_)); rfl, ?_⟩; rw [if_neg (by omega), if_neg (by omega), if_neg (by omega)]; exact ⟨rfl, MV_42 hV (by omega)⟩)

set_option maxHeartbeats 4000000 in
set_option maxRecDepth 100000 in
theorem q_X5_tell {K : KX} {d : Nat} {μ : Int → ME} {k : Int} {np ns day nr tr fl : Int} {rg kd nm sg pt : Int → Int} {ca : Int → Int → Int} {rs rp rl th la ln : Int → Int} {ce : Int → Int → Int} (hV : MV np ns day nr tr fl rg kd nm sg pt ca rs rp rl th la ln ce μ) (hW : WF np ns day nr tr fl rg kd nm sg pt ca rs rp rl th la ln ce) : Ct K (d + 2) yX5_tell cX5_tell 3 (some .int) [vR 42, vI k] μ (fun r μ' => (∀ a, a < 42 → μ' a = μ a) ∧ (if ¬ (0 ≤ k ∧ k < ns) then r = some (vI (-1)) ∧ MV np ns day nr tr fl rg kd nm sg pt ca rs rp rl th la ln ce μ' else if kd k = 1 then r = some (vI (sg k + 100)) ∧ MV np ns day nr (iwr (iwr (31 * (iwr (iwr (31 * tr) + 2))) + 1)) fl rg kd nm sg pt ca rs rp rl th la ln ce μ' else if kd k = 2 then r = some (vI (2 * sg k + 100)) ∧ MV np ns day nr (iwr (iwr (31 * (iwr (iwr (31 * (iwr (iwr (31 * (iwr (iwr (31 * tr) + 3))) + 2))) + 1))) + 1)) fl rg kd nm sg pt ca rs rp rl th la ln ce μ' else r = some (vI (sg k)) ∧ MV np ns day nr (iwr (iwr (31 * tr) + 1)) fl rg kd nm sg pt ca rs rp rl th la ln ce μ')) := by
  refine Ct.of (by decide) (Nat.le_of_ble_eq_true rfl) (fun X C => ?_)
  obtain ⟨m42, m43, m44, m45, mB, mD, ⟨m52, m53, m54, m55, m56⟩, m57, m58, m59⟩ := id hV
  obtain ⟨m46, m47, m48, m49⟩ := id mB
  obtain ⟨at_, rP, rS, lp, lw, lf, sL, sF, h0⟩ := id m42
  obtain ⟨f43, h43, e43⟩ := id m43
  obtain ⟨f44, h44, e44⟩ := id m44
  obtain ⟨f45, h45, e45⟩ := id m45
  obtain ⟨f46, h46, e46⟩ := id m46
  obtain ⟨f47, h47, e47⟩ := id m47
  obtain ⟨f48, h48, e48⟩ := id m48
  obtain ⟨f49, h49, e49⟩ := id m49
  obtain ⟨pf, cf, h50, h51, hMR⟩ := id mD
  obtain ⟨f57, h57, e57⟩ := id m57
  obtain ⟨f58, h58, e58⟩ := id m58
  obtain ⟨f59, h59, e59⟩ := id m59
  obtain ⟨w0, w1, w2, w3, w4, w5, w6⟩ := id hW
  refine p_aload_n (pc := 0) C dX5_tell_0 rfl ?_
  refine p_iload_n (pc := 1) C dX5_tell_1 rfl ?_
  refine p_callVF (pc := 2) C ln_X5_127 dX5_tell_2 (k_X5_isShip (by (repeat refine mg_n (by omega) ?_); first | assumption | exact mup_s _ _ _)) ⟨by omega, by omega⟩ (by (repeat refine mg_n (by omega) ?_); first | assumption | exact mup_s _ _ _) rfl rfl rfl rfl (Nat.le_of_ble_eq_true rfl) ?_
  refine p_ifne_b (pc := 5) (tgt := 10) C dX5_tell_5 (by decide) (fun c_5 => ?_) (fun c_5 => ?_)
  · obtain ⟨n1, n2, n3⟩ := w3 k (by omega) (by omega)
    obtain ⟨x1, x2⟩ := w4 k (by omega) (by omega)
    obtain ⟨r1, r2⟩ := hMR k (by omega) (by omega)
    dsimp only at r1 r2
    have q7 := e47 k (by omega) (by omega)
    have q8 := e48 k (by omega) (by omega)
    have q9 := e49 k (by omega) (by omega)
    have hsl : ∀ g, 0 ≤ g → g < 4 → (fun g => cf (4 * k + g)) g = ca k g := fun g g0 g1 => r2 g g0 g1
    have hbs : bd4 (fun g => cf (4 * k + g)) 100 := bd4_c hsl (x2.le (by omega))
    refine p_aload_n (pc := 10) C dX5_tell_10 rfl ?_
    refine p_get (pc := 11) C fl_X5_28 dX5_tell_11 ⟨by omega, by omega⟩ (by (repeat refine mg_n (by omega) ?_); first | assumption | exact mup_s _ _ _) (by rfl) ?_
    refine p_iload_n (pc := 14) C dX5_tell_14 rfl ?_
    refine p_iald (pc := 15) C dX5_tell_15 ⟨by omega, by omega⟩ (by (repeat refine mg_n (by omega) ?_); first | assumption | exact mup_s _ _ _) (by omega) ?_
    refine p_istore_n (pc := 16) (ls' := [(2, _), (0, _), (1, _)]) C dX5_tell_16 (by decide) rfl ?_
    refine p_aload_n (pc := 17) C dX5_tell_17 rfl ?_
    refine p_get (pc := 18) C fl_X5_22 dX5_tell_18 ⟨by omega, by omega⟩ (by (repeat refine mg_n (by omega) ?_); first | assumption | exact mup_s _ _ _) (by rfl) ?_
    refine p_iload_n (pc := 21) C dX5_tell_21 rfl ?_
    refine p_iald (pc := 22) C dX5_tell_22 ⟨by omega, by omega⟩ (by (repeat refine mg_n (by omega) ?_); first | assumption | exact mup_s _ _ _) (by omega) ?_
    by_cases s_23_1 : (f47 k) = 1
    · refine p_look (pc := 23) (off := 25) (tgt := 48) C dX5_tell_23 (by decide) (by rw [s_23_1]; rfl) (by decide) ?_
      refine p_aload_n (pc := 48) C dX5_tell_48 rfl ?_
      refine p_iconst (pc := 49) C dX5_tell_49 (by decide) ?_
      refine p_callVU (pc := 50) C ln_X5_236 dX5_tell_50 (k_X5_begins (by (repeat refine mg_n (by omega) ?_); first | assumption | exact mup_s _ _ _)) ⟨by omega, by omega⟩ (by (repeat refine mg_n (by omega) ?_); first | assumption | exact mup_s _ _ _) rfl rfl rfl rfl (Nat.le_of_ble_eq_true rfl) ?_
      try refine p_mem (mup_mup _ _ _ _) ?_
      refine p_aload_n (pc := 53) C dX5_tell_53 rfl ?_
      refine p_iconst (pc := 54) C dX5_tell_54 (by decide) ?_
      refine p_callVU (pc := 55) C ln_X5_236 dX5_tell_55 (k_X5_begins (by (repeat refine mg_n (by omega) ?_); first | assumption | exact mup_s _ _ _)) ⟨by omega, by omega⟩ (by (repeat refine mg_n (by omega) ?_); first | assumption | exact mup_s _ _ _) rfl rfl rfl rfl (Nat.le_of_ble_eq_true rfl) ?_
      try refine p_mem (mup_mup _ _ _ _) ?_
      refine p_iload_n (pc := 58) C dX5_tell_58 rfl ?_
      refine p_bipush (pc := 59) C dX5_tell_59 (by decide) ?_
      refine p_iadd (pc := 61) C dX5_tell_61 ⟨by omega, by omega⟩ ?_
      refine p_iret (pc := 62) C dX5_tell_62 ?_
      first
        | (exfalso; omega)
        | (refine ⟨fun q hq => by (repeat (refine mg_n (by omega) ?_)); rfl, ?_⟩; rw [if_pos (by omega)]; exact ⟨rfl, hV⟩)
        | (refine ⟨fun q hq => by (repeat (refine mg_n (by omega) ?_)); rfl, ?_⟩; rw [if_neg (by omega), if_pos (by omega)]; exact ⟨sv (by omega), MV_42 hV (by omega)⟩)
        | (refine ⟨fun q hq => by (repeat (refine mg_n (by omega) ?_)); rfl, ?_⟩; rw [if_neg (by omega), if_neg (by omega), if_pos (by omega)]; exact ⟨sv (by omega), MV_42 hV (by omega)⟩)
        | (refine ⟨fun q hq => by (repeat (refine mg_n (by omega) ?_)); rfl, ?_⟩; rw [if_neg (by omega), if_neg (by omega), if_neg (by omega)]; exact ⟨sv (by omega), MV_42 hV (by omega)⟩)
    by_cases s_23_2 : (f47 k) = 2
    · refine p_look (pc := 23) (off := 40) (tgt := 63) C dX5_tell_23 (by decide) (by rw [s_23_2]; rfl) (by decide) ?_
      refine p_aload_n (pc := 63) C dX5_tell_63 rfl ?_
      refine p_iconst (pc := 64) C dX5_tell_64 (by decide) ?_
      refine p_callVU (pc := 65) C ln_X5_236 dX5_tell_65 (k_X5_begins (by (repeat refine mg_n (by omega) ?_); first | assumption | exact mup_s _ _ _)) ⟨by omega, by omega⟩ (by (repeat refine mg_n (by omega) ?_); first | assumption | exact mup_s _ _ _) rfl rfl rfl rfl (Nat.le_of_ble_eq_true rfl) ?_
      try refine p_mem (mup_mup _ _ _ _) ?_
      refine p_aload_n (pc := 68) C dX5_tell_68 rfl ?_
      refine p_iconst (pc := 69) C dX5_tell_69 (by decide) ?_
      refine p_callVU (pc := 70) C ln_X5_236 dX5_tell_70 (k_X5_begins (by (repeat refine mg_n (by omega) ?_); first | assumption | exact mup_s _ _ _)) ⟨by omega, by omega⟩ (by (repeat refine mg_n (by omega) ?_); first | assumption | exact mup_s _ _ _) rfl rfl rfl rfl (Nat.le_of_ble_eq_true rfl) ?_
      try refine p_mem (mup_mup _ _ _ _) ?_
      refine p_aload_n (pc := 73) C dX5_tell_73 rfl ?_
      refine p_iconst (pc := 74) C dX5_tell_74 (by decide) ?_
      refine p_callVU (pc := 75) C ln_X5_236 dX5_tell_75 (k_X5_begins (by (repeat refine mg_n (by omega) ?_); first | assumption | exact mup_s _ _ _)) ⟨by omega, by omega⟩ (by (repeat refine mg_n (by omega) ?_); first | assumption | exact mup_s _ _ _) rfl rfl rfl rfl (Nat.le_of_ble_eq_true rfl) ?_
      try refine p_mem (mup_mup _ _ _ _) ?_
      refine p_aload_n (pc := 78) C dX5_tell_78 rfl ?_
      refine p_iconst (pc := 79) C dX5_tell_79 (by decide) ?_
      refine p_callVU (pc := 80) C ln_X5_236 dX5_tell_80 (k_X5_begins (by (repeat refine mg_n (by omega) ?_); first | assumption | exact mup_s _ _ _)) ⟨by omega, by omega⟩ (by (repeat refine mg_n (by omega) ?_); first | assumption | exact mup_s _ _ _) rfl rfl rfl rfl (Nat.le_of_ble_eq_true rfl) ?_
      try refine p_mem (mup_mup _ _ _ _) ?_
      refine p_iconst (pc := 83) C dX5_tell_83 (by decide) ?_
      refine p_iload_n (pc := 84) C dX5_tell_84 rfl ?_
      refine p_imul (pc := 85) C dX5_tell_85 ⟨by omega, by omega⟩ ?_
      refine p_bipush (pc := 86) C dX5_tell_86 (by decide) ?_
      refine p_iadd (pc := 88) C dX5_tell_88 ⟨by omega, by omega⟩ ?_
      refine p_iret (pc := 89) C dX5_tell_89 ?_
      first
        | (exfalso; omega)
        | (refine ⟨fun q hq => by (repeat (refine mg_n (by omega) ?_)); rfl, ?_⟩; rw [if_pos (by omega)]; exact ⟨rfl, hV⟩)
        | (refine ⟨fun q hq => by (repeat (refine mg_n (by omega) ?_)); rfl, ?_⟩; rw [if_neg (by omega), if_pos (by omega)]; exact ⟨sv (by omega), MV_42 hV (by omega)⟩)
        | (refine ⟨fun q hq => by (repeat (refine mg_n (by omega) ?_)); rfl, ?_⟩; rw [if_neg (by omega), if_neg (by omega), if_pos (by omega)]; exact ⟨sv (by omega), MV_42 hV (by omega)⟩)
        | (refine ⟨fun q hq => by (repeat (refine mg_n (by omega) ?_)); rfl, ?_⟩; rw [if_neg (by omega), if_neg (by omega), if_neg (by omega)]; exact ⟨sv (by omega), MV_42 hV (by omega)⟩)
    refine p_look (pc := 23) (off := 67) (tgt := 90) C dX5_tell_23 (by decide) (by show (if (1 : Int) = (f47 k) then (25 : Int) else if (2 : Int) = (f47 k) then (40 : Int) else (67 : Int)) = (67 : Int); rw [if_neg (by omega), if_neg (by omega)]) (by decide) ?_
    refine p_aload_n (pc := 90) C dX5_tell_90 rfl ?_
    refine p_iconst (pc := 91) C dX5_tell_91 (by decide) ?_
    refine p_callVU (pc := 92) C ln_X5_236 dX5_tell_92 (k_X5_begins (by (repeat refine mg_n (by omega) ?_); first | assumption | exact mup_s _ _ _)) ⟨by omega, by omega⟩ (by (repeat refine mg_n (by omega) ?_); first | assumption | exact mup_s _ _ _) rfl rfl rfl rfl (Nat.le_of_ble_eq_true rfl) ?_
    try refine p_mem (mup_mup _ _ _ _) ?_
    refine p_iload_n (pc := 95) C dX5_tell_95 rfl ?_
    refine p_iret (pc := 96) C dX5_tell_96 ?_
    first
      | (exfalso; omega)
      | (refine ⟨fun q hq => by (repeat (refine mg_n (by omega) ?_)); rfl, ?_⟩; rw [if_pos (by omega)]; exact ⟨rfl, hV⟩)
      | (refine ⟨fun q hq => by (repeat (refine mg_n (by omega) ?_)); rfl, ?_⟩; rw [if_neg (by omega), if_pos (by omega)]; exact ⟨sv (by omega), MV_42 hV (by omega)⟩)
      | (refine ⟨fun q hq => by (repeat (refine mg_n (by omega) ?_)); rfl, ?_⟩; rw [if_neg (by omega), if_neg (by omega), if_pos (by omega)]; exact ⟨sv (by omega), MV_42 hV (by omega)⟩)
      | (refine ⟨fun q hq => by (repeat (refine mg_n (by omega) ?_)); rfl, ?_⟩; rw [if_neg (by omega), if_neg (by omega), if_neg (by omega)]; exact ⟨sv (by omega), MV_42 hV (by omega)⟩)
  · refine p_iconst (pc := 8) C dX5_tell_8 (by decide) ?_
    refine p_iret (pc := 9) C dX5_tell_9 ?_
    first
      | (exfalso; omega)
      | (refine ⟨fun q hq => by (repeat (refine mg_n (by omega) ?_)); rfl, ?_⟩; rw [if_pos (by omega)]; exact ⟨rfl, hV⟩)
      | (refine ⟨fun q hq => by (repeat (refine mg_n (by omega) ?_)); rfl, ?_⟩; rw [if_neg (by omega), if_pos (by omega)]; exact ⟨sv (by omega), MV_42 hV (by omega)⟩)
      | (refine ⟨fun q hq => by (repeat (refine mg_n (by omega) ?_)); rfl, ?_⟩; rw [if_neg (by omega), if_neg (by omega), if_pos (by omega)]; exact ⟨sv (by omega), MV_42 hV (by omega)⟩)
      | (refine ⟨fun q hq => by (repeat (refine mg_n (by omega) ?_)); rfl, ?_⟩; rw [if_neg (by omega), if_neg (by omega), if_neg (by omega)]; exact ⟨sv (by omega), MV_42 hV (by omega)⟩)

set_option maxHeartbeats 4000000 in
set_option maxRecDepth 100000 in
theorem q_X5_hail {K : KX} {d : Nat} {μ : Int → ME} {k : Int} {np ns day nr tr fl : Int} {rg kd nm sg pt : Int → Int} {ca : Int → Int → Int} {rs rp rl th la ln : Int → Int} {ce : Int → Int → Int} (hV : MV np ns day nr tr fl rg kd nm sg pt ca rs rp rl th la ln ce μ) (hW : WF np ns day nr tr fl rg kd nm sg pt ca rs rp rl th la ln ce) : Ct K (d + 2) yX5_hail cX5_hail 2 (some .int) [vR 42, vI k] μ (fun r μ' => (∀ a, a < 42 → μ' a = μ a) ∧ (if ¬ (0 ≤ k ∧ k < ns) then r = some (vI (-1)) ∧ MV np ns day nr tr fl rg kd nm sg pt ca rs rp rl th la ln ce μ' else if kd k = 2 then r = some (vI (60)) ∧ MV np ns day nr (iwr (iwr (31 * tr) + 5)) fl rg kd nm sg pt ca rs rp rl th la ln ce μ' else r = some (vI (nm k)) ∧ MV np ns day nr (iwr (iwr (31 * tr) + 4)) fl rg kd nm sg pt ca rs rp rl th la ln ce μ')) := by
  refine Ct.of (by decide) (Nat.le_of_ble_eq_true rfl) (fun X C => ?_)
  obtain ⟨m42, m43, m44, m45, mB, mD, ⟨m52, m53, m54, m55, m56⟩, m57, m58, m59⟩ := id hV
  obtain ⟨m46, m47, m48, m49⟩ := id mB
  obtain ⟨at_, rP, rS, lp, lw, lf, sL, sF, h0⟩ := id m42
  obtain ⟨f43, h43, e43⟩ := id m43
  obtain ⟨f44, h44, e44⟩ := id m44
  obtain ⟨f45, h45, e45⟩ := id m45
  obtain ⟨f46, h46, e46⟩ := id m46
  obtain ⟨f47, h47, e47⟩ := id m47
  obtain ⟨f48, h48, e48⟩ := id m48
  obtain ⟨f49, h49, e49⟩ := id m49
  obtain ⟨pf, cf, h50, h51, hMR⟩ := id mD
  obtain ⟨f57, h57, e57⟩ := id m57
  obtain ⟨f58, h58, e58⟩ := id m58
  obtain ⟨f59, h59, e59⟩ := id m59
  obtain ⟨w0, w1, w2, w3, w4, w5, w6⟩ := id hW
  refine p_aload_n (pc := 0) C dX5_hail_0 rfl ?_
  refine p_iload_n (pc := 1) C dX5_hail_1 rfl ?_
  refine p_callVF (pc := 2) C ln_X5_127 dX5_hail_2 (k_X5_isShip (by (repeat refine mg_n (by omega) ?_); first | assumption | exact mup_s _ _ _)) ⟨by omega, by omega⟩ (by (repeat refine mg_n (by omega) ?_); first | assumption | exact mup_s _ _ _) rfl rfl rfl rfl (Nat.le_of_ble_eq_true rfl) ?_
  refine p_ifne_b (pc := 5) (tgt := 10) C dX5_hail_5 (by decide) (fun c_5 => ?_) (fun c_5 => ?_)
  · obtain ⟨n1, n2, n3⟩ := w3 k (by omega) (by omega)
    obtain ⟨x1, x2⟩ := w4 k (by omega) (by omega)
    obtain ⟨r1, r2⟩ := hMR k (by omega) (by omega)
    dsimp only at r1 r2
    have q7 := e47 k (by omega) (by omega)
    have q8 := e48 k (by omega) (by omega)
    have q9 := e49 k (by omega) (by omega)
    have hsl : ∀ g, 0 ≤ g → g < 4 → (fun g => cf (4 * k + g)) g = ca k g := fun g g0 g1 => r2 g g0 g1
    have hbs : bd4 (fun g => cf (4 * k + g)) 100 := bd4_c hsl (x2.le (by omega))
    refine p_aload_n (pc := 10) C dX5_hail_10 rfl ?_
    refine p_aload_n (pc := 11) C dX5_hail_11 rfl ?_
    refine p_get (pc := 12) C fl_X5_22 dX5_hail_12 ⟨by omega, by omega⟩ (by (repeat refine mg_n (by omega) ?_); first | assumption | exact mup_s _ _ _) (by rfl) ?_
    refine p_iload_n (pc := 15) C dX5_hail_15 rfl ?_
    refine p_iald (pc := 16) C dX5_hail_16 ⟨by omega, by omega⟩ (by (repeat refine mg_n (by omega) ?_); first | assumption | exact mup_s _ _ _) (by omega) ?_
    refine p_iconst (pc := 17) C dX5_hail_17 (by decide) ?_
    refine p_icmp_ne (pc := 18) (tgt := 25) C dX5_hail_18 (by decide) (fun c_18 => ?_) (fun c_18 => ?_)
    · refine p_iconst (pc := 25) C dX5_hail_25 (by decide) ?_
      refine p_callVU (pc := 26) C ln_X5_236 dX5_hail_26 (k_X5_begins (by (repeat refine mg_n (by omega) ?_); first | assumption | exact mup_s _ _ _)) ⟨by omega, by omega⟩ (by (repeat refine mg_n (by omega) ?_); first | assumption | exact mup_s _ _ _) rfl rfl rfl rfl (Nat.le_of_ble_eq_true rfl) ?_
      refine p_aload_n (pc := 29) C dX5_hail_29 rfl ?_
      refine p_get (pc := 30) C fl_X5_22 dX5_hail_30 ⟨by omega, by omega⟩ (by (repeat refine mg_n (by omega) ?_); first | assumption | exact mup_s _ _ _) (by rfl) ?_
      refine p_iload_n (pc := 33) C dX5_hail_33 rfl ?_
      refine p_iald (pc := 34) C dX5_hail_34 ⟨by omega, by omega⟩ (by (repeat refine mg_n (by omega) ?_); first | assumption | exact mup_s _ _ _) (by omega) ?_
      refine p_iconst (pc := 35) C dX5_hail_35 (by decide) ?_
      refine p_icmp_ne (pc := 36) (tgt := 44) C dX5_hail_36 (by decide) (fun c_36 => ?_) (fun c_36 => ?_)
      · refine p_aload_n (pc := 44) C dX5_hail_44 rfl ?_
        refine p_get (pc := 45) C fl_X5_25 dX5_hail_45 ⟨by omega, by omega⟩ (by (repeat refine mg_n (by omega) ?_); first | assumption | exact mup_s _ _ _) (by rfl) ?_
        refine p_iload_n (pc := 48) C dX5_hail_48 rfl ?_
        refine p_iald (pc := 49) C dX5_hail_49 ⟨by omega, by omega⟩ (by (repeat refine mg_n (by omega) ?_); first | assumption | exact mup_s _ _ _) (by omega) ?_
        refine p_iret (pc := 50) C dX5_hail_50 ?_
        first
          | (exfalso; omega)
          | (refine ⟨fun q hq => by (repeat (refine mg_n (by omega) ?_)); rfl, ?_⟩; rw [if_pos (by omega)]; exact ⟨rfl, hV⟩)
          | (refine ⟨fun q hq => by (repeat (refine mg_n (by omega) ?_)); rfl, ?_⟩; rw [if_neg (by omega), if_pos (by omega)]; exact ⟨rfl, MV_42 hV (by omega)⟩)
          | (refine ⟨fun q hq => by (repeat (refine mg_n (by omega) ?_)); rfl, ?_⟩; rw [if_neg (by omega), if_neg (by omega)]; exact ⟨sv (by omega), MV_42 hV (by omega)⟩)
      · refine p_bipush (pc := 39) C dX5_hail_39 (by decide) ?_
        refine p_goto (pc := 41) (tgt := 50) C dX5_hail_41 (by decide) ?_
        refine p_iret (pc := 50) C dX5_hail_50 ?_
        first
          | (exfalso; omega)
          | (refine ⟨fun q hq => by (repeat (refine mg_n (by omega) ?_)); rfl, ?_⟩; rw [if_pos (by omega)]; exact ⟨rfl, hV⟩)
          | (refine ⟨fun q hq => by (repeat (refine mg_n (by omega) ?_)); rfl, ?_⟩; rw [if_neg (by omega), if_pos (by omega)]; exact ⟨rfl, MV_42 hV (by omega)⟩)
          | (refine ⟨fun q hq => by (repeat (refine mg_n (by omega) ?_)); rfl, ?_⟩; rw [if_neg (by omega), if_neg (by omega)]; exact ⟨sv (by omega), MV_42 hV (by omega)⟩)
    · refine p_iconst (pc := 21) C dX5_hail_21 (by decide) ?_
      refine p_goto (pc := 22) (tgt := 26) C dX5_hail_22 (by decide) ?_
      refine p_callVU (pc := 26) C ln_X5_236 dX5_hail_26 (k_X5_begins (by (repeat refine mg_n (by omega) ?_); first | assumption | exact mup_s _ _ _)) ⟨by omega, by omega⟩ (by (repeat refine mg_n (by omega) ?_); first | assumption | exact mup_s _ _ _) rfl rfl rfl rfl (Nat.le_of_ble_eq_true rfl) ?_
      refine p_aload_n (pc := 29) C dX5_hail_29 rfl ?_
      refine p_get (pc := 30) C fl_X5_22 dX5_hail_30 ⟨by omega, by omega⟩ (by (repeat refine mg_n (by omega) ?_); first | assumption | exact mup_s _ _ _) (by rfl) ?_
      refine p_iload_n (pc := 33) C dX5_hail_33 rfl ?_
      refine p_iald (pc := 34) C dX5_hail_34 ⟨by omega, by omega⟩ (by (repeat refine mg_n (by omega) ?_); first | assumption | exact mup_s _ _ _) (by omega) ?_
      refine p_iconst (pc := 35) C dX5_hail_35 (by decide) ?_
      refine p_icmp_ne (pc := 36) (tgt := 44) C dX5_hail_36 (by decide) (fun c_36 => ?_) (fun c_36 => ?_)
      · refine p_aload_n (pc := 44) C dX5_hail_44 rfl ?_
        refine p_get (pc := 45) C fl_X5_25 dX5_hail_45 ⟨by omega, by omega⟩ (by (repeat refine mg_n (by omega) ?_); first | assumption | exact mup_s _ _ _) (by rfl) ?_
        refine p_iload_n (pc := 48) C dX5_hail_48 rfl ?_
        refine p_iald (pc := 49) C dX5_hail_49 ⟨by omega, by omega⟩ (by (repeat refine mg_n (by omega) ?_); first | assumption | exact mup_s _ _ _) (by omega) ?_
        refine p_iret (pc := 50) C dX5_hail_50 ?_
        first
          | (exfalso; omega)
          | (refine ⟨fun q hq => by (repeat (refine mg_n (by omega) ?_)); rfl, ?_⟩; rw [if_pos (by omega)]; exact ⟨rfl, hV⟩)
          | (refine ⟨fun q hq => by (repeat (refine mg_n (by omega) ?_)); rfl, ?_⟩; rw [if_neg (by omega), if_pos (by omega)]; exact ⟨rfl, MV_42 hV (by omega)⟩)
          | (refine ⟨fun q hq => by (repeat (refine mg_n (by omega) ?_)); rfl, ?_⟩; rw [if_neg (by omega), if_neg (by omega)]; exact ⟨sv (by omega), MV_42 hV (by omega)⟩)
      · refine p_bipush (pc := 39) C dX5_hail_39 (by decide) ?_
        refine p_goto (pc := 41) (tgt := 50) C dX5_hail_41 (by decide) ?_
        refine p_iret (pc := 50) C dX5_hail_50 ?_
        first
          | (exfalso; omega)
          | (refine ⟨fun q hq => by (repeat (refine mg_n (by omega) ?_)); rfl, ?_⟩; rw [if_pos (by omega)]; exact ⟨rfl, hV⟩)
          | (refine ⟨fun q hq => by (repeat (refine mg_n (by omega) ?_)); rfl, ?_⟩; rw [if_neg (by omega), if_pos (by omega)]; exact ⟨rfl, MV_42 hV (by omega)⟩)
          | (refine ⟨fun q hq => by (repeat (refine mg_n (by omega) ?_)); rfl, ?_⟩; rw [if_neg (by omega), if_neg (by omega)]; exact ⟨sv (by omega), MV_42 hV (by omega)⟩)
  · refine p_iconst (pc := 8) C dX5_hail_8 (by decide) ?_
    refine p_iret (pc := 9) C dX5_hail_9 ?_
    first
      | (exfalso; omega)
      | (refine ⟨fun q hq => by (repeat (refine mg_n (by omega) ?_)); rfl, ?_⟩; rw [if_pos (by omega)]; exact ⟨rfl, hV⟩)
      | (refine ⟨fun q hq => by (repeat (refine mg_n (by omega) ?_)); rfl, ?_⟩; rw [if_neg (by omega), if_pos (by omega)]; exact ⟨rfl, MV_42 hV (by omega)⟩)
      | (refine ⟨fun q hq => by (repeat (refine mg_n (by omega) ?_)); rfl, ?_⟩; rw [if_neg (by omega), if_neg (by omega)]; exact ⟨sv (by omega), MV_42 hV (by omega)⟩)

theorem MV_lose {np ns day nr tr fl : Int} {rg kd nm sg pt : Int → Int} {ca : Int → Int → Int} {rs rp rl th la ln : Int → Int} {ce : Int → Int → Int} {μ : Int → ME} {k : Int} {f : Int → Int} (h : MV np ns day nr tr fl rg kd nm sg pt ca rs rp rl th la ln ce μ) (hf : μ 43 = mA 4 f) (ef : ∀ j, 0 ≤ j → j < 4 → f j = if th j = 0 then -9 else la j) : MV np ns day nr tr fl rg kd nm sg pt ca rs rp rl (fup th k 0) la ln ce (mup μ 43 (mA 4 (fup f k (-9)))) := by
  have hth : ∀ j, fup th k 0 j ≠ 0 → th j ≠ 0 := fun j hj z => by
    by_cases e : j = k
    · subst e; rw [fup_s] at hj; exact hj rfl
    · rw [fup_n _ _ _ e] at hj; exact hj z
  obtain ⟨⟨at_, rP, rS, lp, lw, lf, sL, sF, h0⟩, -, ⟨f44, h44, e44⟩, ⟨f45, h45, e45⟩, -⟩ := id h
  refine MV_sh (fl' := fl) h (fun x hx => mup_n _ _ _ (by omega)) ⟨at_, rP, rS, lp, lw, lf, sL, sF, mg_n (by omega) h0⟩ ⟨_, mup_s _ _ _, fun j j0 j1 => ?_⟩ ⟨_, mg_n (by omega) h44, fun j j0 j1 jh => e44 j j0 j1 (hth j jh)⟩ ⟨_, mg_n (by omega) h45, fun j j0 j1 jh => e45 j j0 j1 (hth j jh)⟩
  by_cases e : j = k
  · subst e; rw [fup_s, fup_s, if_pos rfl]
  · rw [fup_n _ _ _ e, fup_n _ _ _ e]; exact ef j j0 j1

set_option maxHeartbeats 4000000 in
set_option maxRecDepth 100000 in
theorem q_X5_lose {K : KX} {d : Nat} {μ : Int → ME} {k : Int} {np ns day nr tr fl : Int} {rg kd nm sg pt : Int → Int} {ca : Int → Int → Int} {rs rp rl th la ln : Int → Int} {ce : Int → Int → Int} (hV : MV np ns day nr tr fl rg kd nm sg pt ca rs rp rl th la ln ce μ) (hW : WF np ns day nr tr fl rg kd nm sg pt ca rs rp rl th la ln ce) : Ct K (d + 2) yX5_lose cX5_lose 3 (some .int) [vR 42, vI k] μ (fun r μ' => (∀ a, a < 42 → μ' a = μ a) ∧ (if ¬ (0 ≤ k ∧ k < 4) then r = some (vI (-1)) ∧ MV np ns day nr tr fl rg kd nm sg pt ca rs rp rl th la ln ce μ' else r = some (vI (th k)) ∧ MV np ns day nr tr fl rg kd nm sg pt ca rs rp rl (fup th k 0) la ln ce μ')) := by
  refine Ct.of (by decide) (Nat.le_of_ble_eq_true rfl) (fun X C => ?_)
  obtain ⟨m42, m43, m44, m45, mB, mD, ⟨m52, m53, m54, m55, m56⟩, m57, m58, m59⟩ := id hV
  obtain ⟨m46, m47, m48, m49⟩ := id mB
  obtain ⟨at_, rP, rS, lp, lw, lf, sL, sF, h0⟩ := id m42
  obtain ⟨f43, h43, e43⟩ := id m43
  obtain ⟨f44, h44, e44⟩ := id m44
  obtain ⟨f45, h45, e45⟩ := id m45
  obtain ⟨f46, h46, e46⟩ := id m46
  obtain ⟨f47, h47, e47⟩ := id m47
  obtain ⟨f48, h48, e48⟩ := id m48
  obtain ⟨f49, h49, e49⟩ := id m49
  obtain ⟨pf, cf, h50, h51, hMR⟩ := id mD
  obtain ⟨f57, h57, e57⟩ := id m57
  obtain ⟨f58, h58, e58⟩ := id m58
  obtain ⟨f59, h59, e59⟩ := id m59
  obtain ⟨w0, w1, w2, w3, w4, w5, w6⟩ := id hW
  refine p_iload_n (pc := 0) C dX5_lose_0 rfl ?_
  refine p_callSF (pc := 1) C ln_X5_80 dX5_lose_1 (k_X5_isSheet) rfl rfl (Nat.le_of_ble_eq_true rfl) ?_
  refine p_ifne_b (pc := 4) (tgt := 9) C dX5_lose_4 (by decide) (fun c_4 => ?_) (fun c_4 => ?_)
  · obtain ⟨y1, y2, y3⟩ := w6 k (by omega) (by omega)
    have q3 := e43 k (by omega) (by omega)
    have q4 := e44 k (by omega) (by omega)
    refine p_aload_n (pc := 9) C dX5_lose_9 rfl ?_
    refine p_get (pc := 10) C fl_X5_9 dX5_lose_10 ⟨by omega, by omega⟩ (by (repeat refine mg_n (by omega) ?_); first | assumption | exact mup_s _ _ _) (by rfl) ?_
    refine p_iload_n (pc := 13) C dX5_lose_13 rfl ?_
    refine p_iald (pc := 14) C dX5_lose_14 ⟨by omega, by omega⟩ (by (repeat refine mg_n (by omega) ?_); first | assumption | exact mup_s _ _ _) (by omega) ?_
    refine p_bipush (pc := 15) C dX5_lose_15 (by decide) ?_
    refine p_icmp_ne (pc := 17) (tgt := 24) C dX5_lose_17 (by decide) (fun c_17 => ?_) (fun c_17 => ?_)
    · refine p_iconst (pc := 24) C dX5_lose_24 (by decide) ?_
      refine p_istore_n (pc := 25) (ls' := [(2, _), (0, _), (1, _)]) C dX5_lose_25 (by decide) rfl ?_
      refine p_aload_n (pc := 26) C dX5_lose_26 rfl ?_
      refine p_get (pc := 27) C fl_X5_9 dX5_lose_27 ⟨by omega, by omega⟩ (by (repeat refine mg_n (by omega) ?_); first | assumption | exact mup_s _ _ _) (by rfl) ?_
      refine p_iload_n (pc := 30) C dX5_lose_30 rfl ?_
      refine p_bipush (pc := 31) C dX5_lose_31 (by decide) ?_
      refine p_iast (pc := 33) C dX5_lose_33 ⟨by omega, by omega⟩ (by (repeat refine mg_n (by omega) ?_); first | assumption | exact mup_s _ _ _) (by omega) ?_
      try refine p_mem (mup_mup _ _ _ _) ?_
      refine p_iload_n (pc := 34) C dX5_lose_34 rfl ?_
      refine p_iret (pc := 35) C dX5_lose_35 ?_
      first
        | (exfalso; omega)
        | (refine ⟨fun q hq => by (repeat (refine mg_n (by omega) ?_)); rfl, ?_⟩; rw [if_pos (by omega)]; exact ⟨rfl, hV⟩)
        | (refine ⟨fun q hq => by (repeat (refine mg_n (by omega) ?_)); rfl, ?_⟩; rw [if_neg (by omega)]; exact ⟨sv (by omega), MV_lose hV h43 e43⟩)
    · refine p_iconst (pc := 20) C dX5_lose_20 (by decide) ?_
      refine p_goto (pc := 21) (tgt := 25) C dX5_lose_21 (by decide) ?_
      refine p_istore_n (pc := 25) (ls' := [(2, _), (0, _), (1, _)]) C dX5_lose_25 (by decide) rfl ?_
      refine p_aload_n (pc := 26) C dX5_lose_26 rfl ?_
      refine p_get (pc := 27) C fl_X5_9 dX5_lose_27 ⟨by omega, by omega⟩ (by (repeat refine mg_n (by omega) ?_); first | assumption | exact mup_s _ _ _) (by rfl) ?_
      refine p_iload_n (pc := 30) C dX5_lose_30 rfl ?_
      refine p_bipush (pc := 31) C dX5_lose_31 (by decide) ?_
      refine p_iast (pc := 33) C dX5_lose_33 ⟨by omega, by omega⟩ (by (repeat refine mg_n (by omega) ?_); first | assumption | exact mup_s _ _ _) (by omega) ?_
      try refine p_mem (mup_mup _ _ _ _) ?_
      refine p_iload_n (pc := 34) C dX5_lose_34 rfl ?_
      refine p_iret (pc := 35) C dX5_lose_35 ?_
      first
        | (exfalso; omega)
        | (refine ⟨fun q hq => by (repeat (refine mg_n (by omega) ?_)); rfl, ?_⟩; rw [if_pos (by omega)]; exact ⟨rfl, hV⟩)
        | (refine ⟨fun q hq => by (repeat (refine mg_n (by omega) ?_)); rfl, ?_⟩; rw [if_neg (by omega)]; exact ⟨sv (by omega), MV_lose hV h43 e43⟩)
  · refine p_iconst (pc := 7) C dX5_lose_7 (by decide) ?_
    refine p_iret (pc := 8) C dX5_lose_8 ?_
    first
      | (exfalso; omega)
      | (refine ⟨fun q hq => by (repeat (refine mg_n (by omega) ?_)); rfl, ?_⟩; rw [if_pos (by omega)]; exact ⟨rfl, hV⟩)
      | (refine ⟨fun q hq => by (repeat (refine mg_n (by omega) ?_)); rfl, ?_⟩; rw [if_neg (by omega)]; exact ⟨sv (by omega), MV_lose hV h43 e43⟩)

set_option maxHeartbeats 4000000 in
set_option maxRecDepth 100000 in
theorem q_X5_put {K : KX} {d : Nat} {μ : Int → ME} {k i v : Int} {np ns day nr tr fl : Int} {rg kd nm sg pt : Int → Int} {ca : Int → Int → Int} {rs rp rl th la ln : Int → Int} {ce : Int → Int → Int} (hV : MV np ns day nr tr fl rg kd nm sg pt ca rs rp rl th la ln ce μ) (hW : WF np ns day nr tr fl rg kd nm sg pt ca rs rp rl th la ln ce) : Ct K (d + 2) yX5_put cX5_put 4 (some .int) [vR 42, vI k, vI i, vI v] μ (fun r μ' => (∀ a, a < 42 → μ' a = μ a) ∧ (if ¬ (0 ≤ k ∧ k < 4) then r = some (vI (-1)) ∧ MV np ns day nr tr (0) rg kd nm sg pt ca rs rp rl th la ln ce μ' else if th k = 0 then r = some (vI (-11)) ∧ MV np ns day nr tr (1) rg kd nm sg pt ca rs rp rl th la ln ce μ' else if ¬ ((0 ≤ i ∧ i ≤ ln k) ∧ 1 ≤ ln k - i) then r = some (vI (-13)) ∧ MV np ns day nr tr (3) rg kd nm sg pt ca rs rp rl th la ln ce μ' else r = some (vI (1)) ∧ MV np ns day nr tr (0) rg kd nm sg pt ca rs rp rl th la ln (cup ce k (fup (ce k) i (if la k = 0 then i2b v else if la k = 1 then i2s v else v))) μ')) := by
  refine Ct.of (by decide) (Nat.le_of_ble_eq_true rfl) (fun X C => ?_)
  obtain ⟨m42, m43, m44, m45, mB, mD, ⟨m52, m53, m54, m55, m56⟩, m57, m58, m59⟩ := id hV
  obtain ⟨m46, m47, m48, m49⟩ := id mB
  obtain ⟨at_, rP, rS, lp, lw, lf, sL, sF, h0⟩ := id m42
  obtain ⟨f43, h43, e43⟩ := id m43
  obtain ⟨f44, h44, e44⟩ := id m44
  obtain ⟨f45, h45, e45⟩ := id m45
  obtain ⟨f46, h46, e46⟩ := id m46
  obtain ⟨f47, h47, e47⟩ := id m47
  obtain ⟨f48, h48, e48⟩ := id m48
  obtain ⟨f49, h49, e49⟩ := id m49
  obtain ⟨pf, cf, h50, h51, hMR⟩ := id mD
  obtain ⟨f57, h57, e57⟩ := id m57
  obtain ⟨f58, h58, e58⟩ := id m58
  obtain ⟨f59, h59, e59⟩ := id m59
  obtain ⟨w0, w1, w2, w3, w4, w5, w6⟩ := id hW
  refine p_aload_n (pc := 0) C dX5_put_0 rfl ?_
  refine p_iconst (pc := 1) C dX5_put_1 (by decide) ?_
  refine p_putL (pc := 2) (fs' := [_, _, _, _, _, _, _, _, _, _, _, _, _, _, _, _, _, _, _, _, _, _, _, _, _, _, _, _, _, _, _]) C fp_X5_61 dX5_put_2 ⟨by omega, by omega⟩ (by (repeat refine mg_n (by omega) ?_); first | assumption | exact mup_s _ _ _) (by exact Nat.le_of_ble_eq_true rfl) (by rfl) ?_
  try refine p_mem (mup_mup _ _ _ _) ?_
  refine p_iload_n (pc := 5) C dX5_put_5 rfl ?_
  refine p_callSF (pc := 6) C ln_X5_80 dX5_put_6 (k_X5_isSheet) rfl rfl (Nat.le_of_ble_eq_true rfl) ?_
  refine p_ifne_b (pc := 9) (tgt := 14) C dX5_put_9 (by decide) (fun c_9 => ?_) (fun c_9 => ?_)
  · obtain ⟨y1, y2, y3⟩ := w6 k (by omega) (by omega)
    have q3 := e43 k (by omega) (by omega)
    have q4 := e44 k (by omega) (by omega)
    refine p_aload_n (pc := 14) C dX5_put_14 rfl ?_
    refine p_get (pc := 15) C fl_X5_9 dX5_put_15 ⟨by omega, by omega⟩ (by (repeat refine mg_n (by omega) ?_); first | assumption | exact mup_s _ _ _) (by rfl) ?_
    refine p_iload_n (pc := 18) C dX5_put_18 rfl ?_
    refine p_iald (pc := 19) C dX5_put_19 ⟨by omega, by omega⟩ (by (repeat refine mg_n (by omega) ?_); first | assumption | exact mup_s _ _ _) (by omega) ?_
    refine p_bipush (pc := 20) C dX5_put_20 (by decide) ?_
    refine p_icmp_ne (pc := 22) (tgt := 31) C dX5_put_22 (by decide) (fun c_22 => ?_) (fun c_22 => ?_)
    · refine p_iload_n (pc := 31) C dX5_put_31 rfl ?_
      refine p_iconst (pc := 32) C dX5_put_32 (by decide) ?_
      refine p_aload_n (pc := 33) C dX5_put_33 rfl ?_
      refine p_get (pc := 34) C fl_X5_13 dX5_put_34 ⟨by omega, by omega⟩ (by (repeat refine mg_n (by omega) ?_); first | assumption | exact mup_s _ _ _) (by rfl) ?_
      refine p_iload_n (pc := 37) C dX5_put_37 rfl ?_
      refine p_iald (pc := 38) C dX5_put_38 ⟨by omega, by omega⟩ (by (repeat refine mg_n (by omega) ?_); first | assumption | exact mup_s _ _ _) (by omega) ?_
      refine p_iconst (pc := 39) C dX5_put_39 (by decide) ?_
      refine p_isub (pc := 40) C dX5_put_40 ⟨by omega, by omega⟩ ?_
      refine p_callSF (pc := 41) C ln_X5_67 dX5_put_41 (k_X5_within) rfl rfl (Nat.le_of_ble_eq_true rfl) ?_
      refine p_ifne_b (pc := 44) (tgt := 53) C dX5_put_44 (by decide) (fun c_44 => ?_) (fun c_44 => ?_)
      · refine p_aload_n (pc := 53) C dX5_put_53 rfl ?_
        refine p_get (pc := 54) C fl_X5_16 dX5_put_54 ⟨by omega, by omega⟩ (by (repeat refine mg_n (by omega) ?_); first | assumption | exact mup_s _ _ _) (by rfl) ?_
        refine p_bipush (pc := 57) C dX5_put_57 (by decide) ?_
        refine p_iload_n (pc := 59) C dX5_put_59 rfl ?_
        refine p_imul (pc := 60) C dX5_put_60 ⟨by omega, by omega⟩ ?_
        refine p_iload_n (pc := 61) C dX5_put_61 rfl ?_
        refine p_iadd (pc := 62) C dX5_put_62 ⟨by omega, by omega⟩ ?_
        refine p_aload_n (pc := 63) C dX5_put_63 rfl ?_
        refine p_get (pc := 64) C fl_X5_9 dX5_put_64 ⟨by omega, by omega⟩ (by (repeat refine mg_n (by omega) ?_); first | assumption | exact mup_s _ _ _) (by rfl) ?_
        refine p_iload_n (pc := 67) C dX5_put_67 rfl ?_
        refine p_iald (pc := 68) C dX5_put_68 ⟨by omega, by omega⟩ (by (repeat refine mg_n (by omega) ?_); first | assumption | exact mup_s _ _ _) (by omega) ?_
        refine p_if_ne (pc := 69) (tgt := 77) C dX5_put_69 (by decide) (fun c_69 => ?_) (fun c_69 => ?_)
        · refine p_aload_n (pc := 77) C dX5_put_77 rfl ?_
          refine p_get (pc := 78) C fl_X5_9 dX5_put_78 ⟨by omega, by omega⟩ (by (repeat refine mg_n (by omega) ?_); first | assumption | exact mup_s _ _ _) (by rfl) ?_
          refine p_iload_n (pc := 81) C dX5_put_81 rfl ?_
          refine p_iald (pc := 82) C dX5_put_82 ⟨by omega, by omega⟩ (by (repeat refine mg_n (by omega) ?_); first | assumption | exact mup_s _ _ _) (by omega) ?_
          refine p_iconst (pc := 83) C dX5_put_83 (by decide) ?_
          refine p_icmp_ne (pc := 84) (tgt := 92) C dX5_put_84 (by decide) (fun c_84 => ?_) (fun c_84 => ?_)
          · refine p_iload_n (pc := 92) C dX5_put_92 rfl ?_
            refine p_iast (pc := 93) C dX5_put_93 ⟨by omega, by omega⟩ (by (repeat refine mg_n (by omega) ?_); first | assumption | exact mup_s _ _ _) (by omega) ?_
            try refine p_mem (mup_mup _ _ _ _) ?_
            refine p_iconst (pc := 94) C dX5_put_94 (by decide) ?_
            refine p_iret (pc := 95) C dX5_put_95 ?_
            first
              | (exfalso; omega)
              | (refine ⟨fun q hq => by (repeat (refine mg_n (by omega) ?_)); rfl, ?_⟩; rw [if_pos (by omega)]; exact ⟨rfl, MV_42 hV (by omega)⟩)
              | (refine ⟨fun q hq => by (repeat (refine mg_n (by omega) ?_)); rfl, ?_⟩; rw [if_neg (by omega), if_pos (by omega)]; exact ⟨rfl, MV_42 hV (by omega)⟩)
              | (refine ⟨fun q hq => by (repeat (refine mg_n (by omega) ?_)); rfl, ?_⟩; rw [if_neg (by omega), if_neg (by omega), if_pos (by omega)]; exact ⟨rfl, MV_42 hV (by omega)⟩)
              | (refine ⟨fun q hq => by (repeat (refine mg_n (by omega) ?_)); rfl, ?_⟩; rw [if_neg (by omega), if_neg (by omega), if_neg (by omega)]; exact ⟨rfl, (MV_45 (MV_42 hV (by omega)) (fun j j0 j1 jh x x0 x1 => by
                     by_cases e : j = k
                     · subst e
                       rw [cup_s]
                       by_cases ex : x = i
                       · subst ex; rw [fup_s, fup_s]; first | rw [if_pos (by omega)] | rw [if_neg (by omega), if_pos (by omega)] | rw [if_neg (by omega), if_neg (by omega)]
                       · rw [fup_n _ _ _ (by omega), fup_n _ _ _ ex]; exact e45 j j0 j1 jh x x0 x1
                     · have y3' := (w6 j j0 j1).2.2
                       rw [cup_n _ _ e, fup_n _ _ _ (by omega)]; exact e45 j j0 j1 jh x x0 x1))⟩)
          · refine p_iload_n (pc := 87) C dX5_put_87 rfl ?_
            refine p_i2s (pc := 88) C dX5_put_88 ?_
            refine p_goto (pc := 89) (tgt := 93) C dX5_put_89 (by decide) ?_
            refine p_iast (pc := 93) C dX5_put_93 ⟨by omega, by omega⟩ (by (repeat refine mg_n (by omega) ?_); first | assumption | exact mup_s _ _ _) (by omega) ?_
            try refine p_mem (mup_mup _ _ _ _) ?_
            refine p_iconst (pc := 94) C dX5_put_94 (by decide) ?_
            refine p_iret (pc := 95) C dX5_put_95 ?_
            first
              | (exfalso; omega)
              | (refine ⟨fun q hq => by (repeat (refine mg_n (by omega) ?_)); rfl, ?_⟩; rw [if_pos (by omega)]; exact ⟨rfl, MV_42 hV (by omega)⟩)
              | (refine ⟨fun q hq => by (repeat (refine mg_n (by omega) ?_)); rfl, ?_⟩; rw [if_neg (by omega), if_pos (by omega)]; exact ⟨rfl, MV_42 hV (by omega)⟩)
              | (refine ⟨fun q hq => by (repeat (refine mg_n (by omega) ?_)); rfl, ?_⟩; rw [if_neg (by omega), if_neg (by omega), if_pos (by omega)]; exact ⟨rfl, MV_42 hV (by omega)⟩)
              | (refine ⟨fun q hq => by (repeat (refine mg_n (by omega) ?_)); rfl, ?_⟩; rw [if_neg (by omega), if_neg (by omega), if_neg (by omega)]; exact ⟨rfl, (MV_45 (MV_42 hV (by omega)) (fun j j0 j1 jh x x0 x1 => by
                     by_cases e : j = k
                     · subst e
                       rw [cup_s]
                       by_cases ex : x = i
                       · subst ex; rw [fup_s, fup_s]; first | rw [if_pos (by omega)] | rw [if_neg (by omega), if_pos (by omega)] | rw [if_neg (by omega), if_neg (by omega)]
                       · rw [fup_n _ _ _ (by omega), fup_n _ _ _ ex]; exact e45 j j0 j1 jh x x0 x1
                     · have y3' := (w6 j j0 j1).2.2
                       rw [cup_n _ _ e, fup_n _ _ _ (by omega)]; exact e45 j j0 j1 jh x x0 x1))⟩)
        · refine p_iload_n (pc := 72) C dX5_put_72 rfl ?_
          refine p_i2b (pc := 73) C dX5_put_73 ?_
          refine p_goto (pc := 74) (tgt := 93) C dX5_put_74 (by decide) ?_
          refine p_iast (pc := 93) C dX5_put_93 ⟨by omega, by omega⟩ (by (repeat refine mg_n (by omega) ?_); first | assumption | exact mup_s _ _ _) (by omega) ?_
          try refine p_mem (mup_mup _ _ _ _) ?_
          refine p_iconst (pc := 94) C dX5_put_94 (by decide) ?_
          refine p_iret (pc := 95) C dX5_put_95 ?_
          first
            | (exfalso; omega)
            | (refine ⟨fun q hq => by (repeat (refine mg_n (by omega) ?_)); rfl, ?_⟩; rw [if_pos (by omega)]; exact ⟨rfl, MV_42 hV (by omega)⟩)
            | (refine ⟨fun q hq => by (repeat (refine mg_n (by omega) ?_)); rfl, ?_⟩; rw [if_neg (by omega), if_pos (by omega)]; exact ⟨rfl, MV_42 hV (by omega)⟩)
            | (refine ⟨fun q hq => by (repeat (refine mg_n (by omega) ?_)); rfl, ?_⟩; rw [if_neg (by omega), if_neg (by omega), if_pos (by omega)]; exact ⟨rfl, MV_42 hV (by omega)⟩)
            | (refine ⟨fun q hq => by (repeat (refine mg_n (by omega) ?_)); rfl, ?_⟩; rw [if_neg (by omega), if_neg (by omega), if_neg (by omega)]; exact ⟨rfl, (MV_45 (MV_42 hV (by omega)) (fun j j0 j1 jh x x0 x1 => by
                   by_cases e : j = k
                   · subst e
                     rw [cup_s]
                     by_cases ex : x = i
                     · subst ex; rw [fup_s, fup_s]; first | rw [if_pos (by omega)] | rw [if_neg (by omega), if_pos (by omega)] | rw [if_neg (by omega), if_neg (by omega)]
                     · rw [fup_n _ _ _ (by omega), fup_n _ _ _ ex]; exact e45 j j0 j1 jh x x0 x1
                   · have y3' := (w6 j j0 j1).2.2
                     rw [cup_n _ _ e, fup_n _ _ _ (by omega)]; exact e45 j j0 j1 jh x x0 x1))⟩)
      · refine p_aload_n (pc := 47) C dX5_put_47 rfl ?_
        refine p_iconst (pc := 48) C dX5_put_48 (by decide) ?_
        refine p_callVF (pc := 49) C ln_X5_91 dX5_put_49 (k_X5_fails (by omega) (by (repeat refine mg_n (by omega) ?_); first | assumption | exact mup_s _ _ _)) ⟨by omega, by omega⟩ (by (repeat refine mg_n (by omega) ?_); first | assumption | exact mup_s _ _ _) rfl rfl rfl rfl (Nat.le_of_ble_eq_true rfl) ?_
        refine p_mem (mup_mup _ _ _ _) ?_
        refine p_iret (pc := 52) C dX5_put_52 ?_
        first
          | (exfalso; omega)
          | (refine ⟨fun q hq => by (repeat (refine mg_n (by omega) ?_)); rfl, ?_⟩; rw [if_pos (by omega)]; exact ⟨rfl, MV_42 hV (by omega)⟩)
          | (refine ⟨fun q hq => by (repeat (refine mg_n (by omega) ?_)); rfl, ?_⟩; rw [if_neg (by omega), if_pos (by omega)]; exact ⟨rfl, MV_42 hV (by omega)⟩)
          | (refine ⟨fun q hq => by (repeat (refine mg_n (by omega) ?_)); rfl, ?_⟩; rw [if_neg (by omega), if_neg (by omega), if_pos (by omega)]; exact ⟨rfl, MV_42 hV (by omega)⟩)
          | (refine ⟨fun q hq => by (repeat (refine mg_n (by omega) ?_)); rfl, ?_⟩; rw [if_neg (by omega), if_neg (by omega), if_neg (by omega)]; exact ⟨rfl, (MV_45 (MV_42 hV (by omega)) (fun j j0 j1 jh x x0 x1 => by
                 by_cases e : j = k
                 · subst e
                   rw [cup_s]
                   by_cases ex : x = i
                   · subst ex; rw [fup_s, fup_s]; first | rw [if_pos (by omega)] | rw [if_neg (by omega), if_pos (by omega)] | rw [if_neg (by omega), if_neg (by omega)]
                   · rw [fup_n _ _ _ (by omega), fup_n _ _ _ ex]; exact e45 j j0 j1 jh x x0 x1
                 · have y3' := (w6 j j0 j1).2.2
                   rw [cup_n _ _ e, fup_n _ _ _ (by omega)]; exact e45 j j0 j1 jh x x0 x1))⟩)
    · refine p_aload_n (pc := 25) C dX5_put_25 rfl ?_
      refine p_iconst (pc := 26) C dX5_put_26 (by decide) ?_
      refine p_callVF (pc := 27) C ln_X5_91 dX5_put_27 (k_X5_fails (by omega) (by (repeat refine mg_n (by omega) ?_); first | assumption | exact mup_s _ _ _)) ⟨by omega, by omega⟩ (by (repeat refine mg_n (by omega) ?_); first | assumption | exact mup_s _ _ _) rfl rfl rfl rfl (Nat.le_of_ble_eq_true rfl) ?_
      refine p_mem (mup_mup _ _ _ _) ?_
      refine p_iret (pc := 30) C dX5_put_30 ?_
      first
        | (exfalso; omega)
        | (refine ⟨fun q hq => by (repeat (refine mg_n (by omega) ?_)); rfl, ?_⟩; rw [if_pos (by omega)]; exact ⟨rfl, MV_42 hV (by omega)⟩)
        | (refine ⟨fun q hq => by (repeat (refine mg_n (by omega) ?_)); rfl, ?_⟩; rw [if_neg (by omega), if_pos (by omega)]; exact ⟨rfl, MV_42 hV (by omega)⟩)
        | (refine ⟨fun q hq => by (repeat (refine mg_n (by omega) ?_)); rfl, ?_⟩; rw [if_neg (by omega), if_neg (by omega), if_pos (by omega)]; exact ⟨rfl, MV_42 hV (by omega)⟩)
        | (refine ⟨fun q hq => by (repeat (refine mg_n (by omega) ?_)); rfl, ?_⟩; rw [if_neg (by omega), if_neg (by omega), if_neg (by omega)]; exact ⟨rfl, (MV_45 (MV_42 hV (by omega)) (fun j j0 j1 jh x x0 x1 => by
               by_cases e : j = k
               · subst e
                 rw [cup_s]
                 by_cases ex : x = i
                 · subst ex; rw [fup_s, fup_s]; first | rw [if_pos (by omega)] | rw [if_neg (by omega), if_pos (by omega)] | rw [if_neg (by omega), if_neg (by omega)]
                 · rw [fup_n _ _ _ (by omega), fup_n _ _ _ ex]; exact e45 j j0 j1 jh x x0 x1
               · have y3' := (w6 j j0 j1).2.2
                 rw [cup_n _ _ e, fup_n _ _ _ (by omega)]; exact e45 j j0 j1 jh x x0 x1))⟩)
  · refine p_iconst (pc := 12) C dX5_put_12 (by decide) ?_
    refine p_iret (pc := 13) C dX5_put_13 ?_
    first
      | (exfalso; omega)
      | (refine ⟨fun q hq => by (repeat (refine mg_n (by omega) ?_)); rfl, ?_⟩; rw [if_pos (by omega)]; exact ⟨rfl, MV_42 hV (by omega)⟩)
      | (refine ⟨fun q hq => by (repeat (refine mg_n (by omega) ?_)); rfl, ?_⟩; rw [if_neg (by omega), if_pos (by omega)]; exact ⟨rfl, MV_42 hV (by omega)⟩)
      | (refine ⟨fun q hq => by (repeat (refine mg_n (by omega) ?_)); rfl, ?_⟩; rw [if_neg (by omega), if_neg (by omega), if_pos (by omega)]; exact ⟨rfl, MV_42 hV (by omega)⟩)
      | (refine ⟨fun q hq => by (repeat (refine mg_n (by omega) ?_)); rfl, ?_⟩; rw [if_neg (by omega), if_neg (by omega), if_neg (by omega)]; exact ⟨rfl, (MV_45 (MV_42 hV (by omega)) (fun j j0 j1 jh x x0 x1 => by
             by_cases e : j = k
             · subst e
               rw [cup_s]
               by_cases ex : x = i
               · subst ex; rw [fup_s, fup_s]; first | rw [if_pos (by omega)] | rw [if_neg (by omega), if_pos (by omega)] | rw [if_neg (by omega), if_neg (by omega)]
               · rw [fup_n _ _ _ (by omega), fup_n _ _ _ ex]; exact e45 j j0 j1 jh x x0 x1
             · have y3' := (w6 j j0 j1).2.2
               rw [cup_n _ _ e, fup_n _ _ _ (by omega)]; exact e45 j j0 j1 jh x x0 x1))⟩)

set_option maxHeartbeats 4000000 in
set_option maxRecDepth 100000 in
theorem q_X5_cell {K : KX} {d : Nat} {μ : Int → ME} {k i l : Int} {np ns day nr tr fl : Int} {rg kd nm sg pt : Int → Int} {ca : Int → Int → Int} {rs rp rl th la ln : Int → Int} {ce : Int → Int → Int} (hV : MV np ns day nr tr fl rg kd nm sg pt ca rs rp rl th la ln ce μ) (hW : WF np ns day nr tr fl rg kd nm sg pt ca rs rp rl th la ln ce) : Ct K (d + 2) yX5_cell cX5_cell 4 (some .long) [vR 42, vI k, vI i, vI l] μ (fun r μ' => (∀ a, a < 42 → μ' a = μ a) ∧ (if ¬ ((0 ≤ k ∧ k < 4) ∧ (0 ≤ l ∧ l < 3)) then r = some (vL (-9223372036854775808)) ∧ MV np ns day nr tr (0) rg kd nm sg pt ca rs rp rl th la ln ce μ' else if fot (th k) (la k) (ln k) l i 1 ≠ 0 then r = some (vL (-9223372036854775808)) ∧ MV np ns day nr tr (fot (th k) (la k) (ln k) l i 1) rg kd nm sg pt ca rs rp rl th la ln ce μ' else r = some (vL (ce k i)) ∧ MV np ns day nr tr (0) rg kd nm sg pt ca rs rp rl th la ln ce μ')) := by
  refine Ct.of (by decide) (Nat.le_of_ble_eq_true rfl) (fun X C => ?_)
  obtain ⟨m42, m43, m44, m45, mB, mD, ⟨m52, m53, m54, m55, m56⟩, m57, m58, m59⟩ := id hV
  obtain ⟨m46, m47, m48, m49⟩ := id mB
  obtain ⟨at_, rP, rS, lp, lw, lf, sL, sF, h0⟩ := id m42
  obtain ⟨f43, h43, e43⟩ := id m43
  obtain ⟨f44, h44, e44⟩ := id m44
  obtain ⟨f45, h45, e45⟩ := id m45
  obtain ⟨f46, h46, e46⟩ := id m46
  obtain ⟨f47, h47, e47⟩ := id m47
  obtain ⟨f48, h48, e48⟩ := id m48
  obtain ⟨f49, h49, e49⟩ := id m49
  obtain ⟨pf, cf, h50, h51, hMR⟩ := id mD
  obtain ⟨f57, h57, e57⟩ := id m57
  obtain ⟨f58, h58, e58⟩ := id m58
  obtain ⟨f59, h59, e59⟩ := id m59
  obtain ⟨w0, w1, w2, w3, w4, w5, w6⟩ := id hW
  refine p_aload_n (pc := 0) C dX5_cell_0 rfl ?_
  refine p_iconst (pc := 1) C dX5_cell_1 (by decide) ?_
  refine p_putL (pc := 2) (fs' := [_, _, _, _, _, _, _, _, _, _, _, _, _, _, _, _, _, _, _, _, _, _, _, _, _, _, _, _, _, _, _]) C fp_X5_61 dX5_cell_2 ⟨by omega, by omega⟩ (by (repeat refine mg_n (by omega) ?_); first | assumption | exact mup_s _ _ _) (by exact Nat.le_of_ble_eq_true rfl) (by rfl) ?_
  try refine p_mem (mup_mup _ _ _ _) ?_
  refine p_iload_n (pc := 5) C dX5_cell_5 rfl ?_
  refine p_callSF (pc := 6) C ln_X5_80 dX5_cell_6 (k_X5_isSheet) rfl rfl (Nat.le_of_ble_eq_true rfl) ?_
  refine p_ifeq_b (pc := 9) (tgt := 19) C dX5_cell_9 (by decide) (fun c_9 => ?_) (fun c_9 => ?_)
  · refine p_ldc2 (pc := 19) C kc_X5_65 dX5_cell_19 ?_
    refine p_lret (pc := 22) C dX5_cell_22 ?_
    first
      | (exfalso; omega)
      | (refine ⟨fun q hq => by (repeat (refine mg_n (by omega) ?_)); rfl, ?_⟩; rw [if_pos (by omega)]; exact ⟨svL (by decide +kernel), MV_42 hV (by omega)⟩)
      | (have hf : fot (th k) (la k) (ln k) l i 1 = 2 := if_pos (by omega)
         refine ⟨fun q hq => by (repeat (refine mg_n (by omega) ?_)); rfl, ?_⟩; rw [if_neg (by omega), if_pos (by omega), hf]; exact ⟨rfl, MV_42 hV (by omega)⟩)
      | (have hf : fot (th k) (la k) (ln k) l i 1 = 1 := by unfold fot; rw [if_neg (by omega), if_pos (by omega)]
         refine ⟨fun q hq => by (repeat (refine mg_n (by omega) ?_)); rfl, ?_⟩; rw [if_neg (by omega), if_pos (by omega), hf]; exact ⟨rfl, MV_42 hV (by omega)⟩)
      | (have hf : fot (th k) (la k) (ln k) l i 1 = 3 := by unfold fot; rw [if_neg (by omega), if_neg (by omega), if_neg (by omega), if_neg (by omega)]
         refine ⟨fun q hq => by (repeat (refine mg_n (by omega) ?_)); rfl, ?_⟩; rw [if_neg (by omega), if_pos (by omega), hf]; exact ⟨rfl, MV_42 hV (by omega)⟩)
      | (have hf : fot (th k) (la k) (ln k) l i 1 = 0 := by unfold fot; rw [if_neg (by omega), if_neg (by omega), if_neg (by omega), if_pos (by omega)]
         refine ⟨fun q hq => by (repeat (refine mg_n (by omega) ?_)); rfl, ?_⟩; rw [if_neg (by omega), if_neg (by omega)]; exact ⟨svL (e45 k (by omega) (by omega) (by omega) i (by omega) (by omega)), MV_42 hV (by omega)⟩)
  · refine p_iload_n (pc := 12) C dX5_cell_12 rfl ?_
    refine p_callSF (pc := 13) C ln_X5_84 dX5_cell_13 (k_X5_isSort) rfl rfl (Nat.le_of_ble_eq_true rfl) ?_
    refine p_ifne_b (pc := 16) (tgt := 23) C dX5_cell_16 (by decide) (fun c_16 => ?_) (fun c_16 => ?_)
    · obtain ⟨y1, y2, y3⟩ := w6 k (by omega) (by omega)
      have q3 := e43 k (by omega) (by omega)
      have q4 := e44 k (by omega) (by omega)
      refine p_aload_n (pc := 23) C dX5_cell_23 rfl ?_
      refine p_get (pc := 24) C fl_X5_9 dX5_cell_24 ⟨by omega, by omega⟩ (by (repeat refine mg_n (by omega) ?_); first | assumption | exact mup_s _ _ _) (by rfl) ?_
      refine p_iload_n (pc := 27) C dX5_cell_27 rfl ?_
      refine p_iald (pc := 28) C dX5_cell_28 ⟨by omega, by omega⟩ (by (repeat refine mg_n (by omega) ?_); first | assumption | exact mup_s _ _ _) (by omega) ?_
      refine p_bipush (pc := 29) C dX5_cell_29 (by decide) ?_
      refine p_icmp_eq (pc := 31) (tgt := 50) C dX5_cell_31 (by decide) (fun c_31 => ?_) (fun c_31 => ?_)
      · refine p_aload_n (pc := 50) C dX5_cell_50 rfl ?_
        refine p_get (pc := 51) C fl_X5_9 dX5_cell_51 ⟨by omega, by omega⟩ (by (repeat refine mg_n (by omega) ?_); first | assumption | exact mup_s _ _ _) (by rfl) ?_
        refine p_iload_n (pc := 54) C dX5_cell_54 rfl ?_
        refine p_iald (pc := 55) C dX5_cell_55 ⟨by omega, by omega⟩ (by (repeat refine mg_n (by omega) ?_); first | assumption | exact mup_s _ _ _) (by omega) ?_
        refine p_bipush (pc := 56) C dX5_cell_56 (by decide) ?_
        refine p_icmp_ne (pc := 58) (tgt := 67) C dX5_cell_58 (by decide) (fun c_58 => ?_) (fun c_58 => ?_)
        · refine p_iload_n (pc := 67) C dX5_cell_67 rfl ?_
          refine p_iconst (pc := 68) C dX5_cell_68 (by decide) ?_
          refine p_aload_n (pc := 69) C dX5_cell_69 rfl ?_
          refine p_get (pc := 70) C fl_X5_13 dX5_cell_70 ⟨by omega, by omega⟩ (by (repeat refine mg_n (by omega) ?_); first | assumption | exact mup_s _ _ _) (by rfl) ?_
          refine p_iload_n (pc := 73) C dX5_cell_73 rfl ?_
          refine p_iald (pc := 74) C dX5_cell_74 ⟨by omega, by omega⟩ (by (repeat refine mg_n (by omega) ?_); first | assumption | exact mup_s _ _ _) (by omega) ?_
          refine p_iconst (pc := 75) C dX5_cell_75 (by decide) ?_
          refine p_isub (pc := 76) C dX5_cell_76 ⟨by omega, by omega⟩ ?_
          refine p_callSF (pc := 77) C ln_X5_67 dX5_cell_77 (k_X5_within) rfl rfl (Nat.le_of_ble_eq_true rfl) ?_
          refine p_ifne_b (pc := 80) (tgt := 89) C dX5_cell_80 (by decide) (fun c_80 => ?_) (fun c_80 => ?_)
          · refine p_aload_n (pc := 89) C dX5_cell_89 rfl ?_
            refine p_get (pc := 90) C fl_X5_16 dX5_cell_90 ⟨by omega, by omega⟩ (by (repeat refine mg_n (by omega) ?_); first | assumption | exact mup_s _ _ _) (by rfl) ?_
            refine p_bipush (pc := 93) C dX5_cell_93 (by decide) ?_
            refine p_iload_n (pc := 95) C dX5_cell_95 rfl ?_
            refine p_imul (pc := 96) C dX5_cell_96 ⟨by omega, by omega⟩ ?_
            refine p_iload_n (pc := 97) C dX5_cell_97 rfl ?_
            refine p_iadd (pc := 98) C dX5_cell_98 ⟨by omega, by omega⟩ ?_
            refine p_iald (pc := 99) C dX5_cell_99 ⟨by omega, by omega⟩ (by (repeat refine mg_n (by omega) ?_); first | assumption | exact mup_s _ _ _) (by omega) ?_
            refine p_i2l (pc := 100) C dX5_cell_100 ?_
            refine p_lret (pc := 101) C dX5_cell_101 ?_
            first
              | (exfalso; omega)
              | (refine ⟨fun q hq => by (repeat (refine mg_n (by omega) ?_)); rfl, ?_⟩; rw [if_pos (by omega)]; exact ⟨svL (by decide +kernel), MV_42 hV (by omega)⟩)
              | (have hf : fot (th k) (la k) (ln k) l i 1 = 2 := if_pos (by omega)
                 refine ⟨fun q hq => by (repeat (refine mg_n (by omega) ?_)); rfl, ?_⟩; rw [if_neg (by omega), if_pos (by omega), hf]; exact ⟨rfl, MV_42 hV (by omega)⟩)
              | (have hf : fot (th k) (la k) (ln k) l i 1 = 1 := by unfold fot; rw [if_neg (by omega), if_pos (by omega)]
                 refine ⟨fun q hq => by (repeat (refine mg_n (by omega) ?_)); rfl, ?_⟩; rw [if_neg (by omega), if_pos (by omega), hf]; exact ⟨rfl, MV_42 hV (by omega)⟩)
              | (have hf : fot (th k) (la k) (ln k) l i 1 = 3 := by unfold fot; rw [if_neg (by omega), if_neg (by omega), if_neg (by omega), if_neg (by omega)]
                 refine ⟨fun q hq => by (repeat (refine mg_n (by omega) ?_)); rfl, ?_⟩; rw [if_neg (by omega), if_pos (by omega), hf]; exact ⟨rfl, MV_42 hV (by omega)⟩)
              | (have hf : fot (th k) (la k) (ln k) l i 1 = 0 := by unfold fot; rw [if_neg (by omega), if_neg (by omega), if_neg (by omega), if_pos (by omega)]
                 refine ⟨fun q hq => by (repeat (refine mg_n (by omega) ?_)); rfl, ?_⟩; rw [if_neg (by omega), if_neg (by omega)]; exact ⟨svL (e45 k (by omega) (by omega) (by omega) i (by omega) (by omega)), MV_42 hV (by omega)⟩)
          · refine p_aload_n (pc := 83) C dX5_cell_83 rfl ?_
            refine p_iconst (pc := 84) C dX5_cell_84 (by decide) ?_
            refine p_callVF (pc := 85) C ln_X5_229 dX5_cell_85 (k_X5_lost (by (repeat refine mg_n (by omega) ?_); first | assumption | exact mup_s _ _ _)) ⟨by omega, by omega⟩ (by (repeat refine mg_n (by omega) ?_); first | assumption | exact mup_s _ _ _) rfl rfl rfl rfl (Nat.le_of_ble_eq_true rfl) ?_
            refine p_mem (mup_mup _ _ _ _) ?_
            refine p_lret (pc := 88) C dX5_cell_88 ?_
            first
              | (exfalso; omega)
              | (refine ⟨fun q hq => by (repeat (refine mg_n (by omega) ?_)); rfl, ?_⟩; rw [if_pos (by omega)]; exact ⟨svL (by decide +kernel), MV_42 hV (by omega)⟩)
              | (have hf : fot (th k) (la k) (ln k) l i 1 = 2 := if_pos (by omega)
                 refine ⟨fun q hq => by (repeat (refine mg_n (by omega) ?_)); rfl, ?_⟩; rw [if_neg (by omega), if_pos (by omega), hf]; exact ⟨rfl, MV_42 hV (by omega)⟩)
              | (have hf : fot (th k) (la k) (ln k) l i 1 = 1 := by unfold fot; rw [if_neg (by omega), if_pos (by omega)]
                 refine ⟨fun q hq => by (repeat (refine mg_n (by omega) ?_)); rfl, ?_⟩; rw [if_neg (by omega), if_pos (by omega), hf]; exact ⟨rfl, MV_42 hV (by omega)⟩)
              | (have hf : fot (th k) (la k) (ln k) l i 1 = 3 := by unfold fot; rw [if_neg (by omega), if_neg (by omega), if_neg (by omega), if_neg (by omega)]
                 refine ⟨fun q hq => by (repeat (refine mg_n (by omega) ?_)); rfl, ?_⟩; rw [if_neg (by omega), if_pos (by omega), hf]; exact ⟨rfl, MV_42 hV (by omega)⟩)
              | (have hf : fot (th k) (la k) (ln k) l i 1 = 0 := by unfold fot; rw [if_neg (by omega), if_neg (by omega), if_neg (by omega), if_pos (by omega)]
                 refine ⟨fun q hq => by (repeat (refine mg_n (by omega) ?_)); rfl, ?_⟩; rw [if_neg (by omega), if_neg (by omega)]; exact ⟨svL (e45 k (by omega) (by omega) (by omega) i (by omega) (by omega)), MV_42 hV (by omega)⟩)
        · refine p_aload_n (pc := 61) C dX5_cell_61 rfl ?_
          refine p_iconst (pc := 62) C dX5_cell_62 (by decide) ?_
          refine p_callVF (pc := 63) C ln_X5_229 dX5_cell_63 (k_X5_lost (by (repeat refine mg_n (by omega) ?_); first | assumption | exact mup_s _ _ _)) ⟨by omega, by omega⟩ (by (repeat refine mg_n (by omega) ?_); first | assumption | exact mup_s _ _ _) rfl rfl rfl rfl (Nat.le_of_ble_eq_true rfl) ?_
          refine p_mem (mup_mup _ _ _ _) ?_
          refine p_lret (pc := 66) C dX5_cell_66 ?_
          first
            | (exfalso; omega)
            | (refine ⟨fun q hq => by (repeat (refine mg_n (by omega) ?_)); rfl, ?_⟩; rw [if_pos (by omega)]; exact ⟨svL (by decide +kernel), MV_42 hV (by omega)⟩)
            | (have hf : fot (th k) (la k) (ln k) l i 1 = 2 := if_pos (by omega)
               refine ⟨fun q hq => by (repeat (refine mg_n (by omega) ?_)); rfl, ?_⟩; rw [if_neg (by omega), if_pos (by omega), hf]; exact ⟨rfl, MV_42 hV (by omega)⟩)
            | (have hf : fot (th k) (la k) (ln k) l i 1 = 1 := by unfold fot; rw [if_neg (by omega), if_pos (by omega)]
               refine ⟨fun q hq => by (repeat (refine mg_n (by omega) ?_)); rfl, ?_⟩; rw [if_neg (by omega), if_pos (by omega), hf]; exact ⟨rfl, MV_42 hV (by omega)⟩)
            | (have hf : fot (th k) (la k) (ln k) l i 1 = 3 := by unfold fot; rw [if_neg (by omega), if_neg (by omega), if_neg (by omega), if_neg (by omega)]
               refine ⟨fun q hq => by (repeat (refine mg_n (by omega) ?_)); rfl, ?_⟩; rw [if_neg (by omega), if_pos (by omega), hf]; exact ⟨rfl, MV_42 hV (by omega)⟩)
            | (have hf : fot (th k) (la k) (ln k) l i 1 = 0 := by unfold fot; rw [if_neg (by omega), if_neg (by omega), if_neg (by omega), if_pos (by omega)]
               refine ⟨fun q hq => by (repeat (refine mg_n (by omega) ?_)); rfl, ?_⟩; rw [if_neg (by omega), if_neg (by omega)]; exact ⟨svL (e45 k (by omega) (by omega) (by omega) i (by omega) (by omega)), MV_42 hV (by omega)⟩)
      · refine p_aload_n (pc := 34) C dX5_cell_34 rfl ?_
        refine p_get (pc := 35) C fl_X5_9 dX5_cell_35 ⟨by omega, by omega⟩ (by (repeat refine mg_n (by omega) ?_); first | assumption | exact mup_s _ _ _) (by rfl) ?_
        refine p_iload_n (pc := 38) C dX5_cell_38 rfl ?_
        refine p_iald (pc := 39) C dX5_cell_39 ⟨by omega, by omega⟩ (by (repeat refine mg_n (by omega) ?_); first | assumption | exact mup_s _ _ _) (by omega) ?_
        refine p_iload_n (pc := 40) C dX5_cell_40 rfl ?_
        refine p_icmp_eq (pc := 41) (tgt := 50) C dX5_cell_41 (by decide) (fun c_41 => ?_) (fun c_41 => ?_)
        · refine p_aload_n (pc := 50) C dX5_cell_50 rfl ?_
          refine p_get (pc := 51) C fl_X5_9 dX5_cell_51 ⟨by omega, by omega⟩ (by (repeat refine mg_n (by omega) ?_); first | assumption | exact mup_s _ _ _) (by rfl) ?_
          refine p_iload_n (pc := 54) C dX5_cell_54 rfl ?_
          refine p_iald (pc := 55) C dX5_cell_55 ⟨by omega, by omega⟩ (by (repeat refine mg_n (by omega) ?_); first | assumption | exact mup_s _ _ _) (by omega) ?_
          refine p_bipush (pc := 56) C dX5_cell_56 (by decide) ?_
          refine p_icmp_ne (pc := 58) (tgt := 67) C dX5_cell_58 (by decide) (fun c_58 => ?_) (fun c_58 => ?_)
          · refine p_iload_n (pc := 67) C dX5_cell_67 rfl ?_
            refine p_iconst (pc := 68) C dX5_cell_68 (by decide) ?_
            refine p_aload_n (pc := 69) C dX5_cell_69 rfl ?_
            refine p_get (pc := 70) C fl_X5_13 dX5_cell_70 ⟨by omega, by omega⟩ (by (repeat refine mg_n (by omega) ?_); first | assumption | exact mup_s _ _ _) (by rfl) ?_
            refine p_iload_n (pc := 73) C dX5_cell_73 rfl ?_
            refine p_iald (pc := 74) C dX5_cell_74 ⟨by omega, by omega⟩ (by (repeat refine mg_n (by omega) ?_); first | assumption | exact mup_s _ _ _) (by omega) ?_
            refine p_iconst (pc := 75) C dX5_cell_75 (by decide) ?_
            refine p_isub (pc := 76) C dX5_cell_76 ⟨by omega, by omega⟩ ?_
            refine p_callSF (pc := 77) C ln_X5_67 dX5_cell_77 (k_X5_within) rfl rfl (Nat.le_of_ble_eq_true rfl) ?_
            refine p_ifne_b (pc := 80) (tgt := 89) C dX5_cell_80 (by decide) (fun c_80 => ?_) (fun c_80 => ?_)
            · refine p_aload_n (pc := 89) C dX5_cell_89 rfl ?_
              refine p_get (pc := 90) C fl_X5_16 dX5_cell_90 ⟨by omega, by omega⟩ (by (repeat refine mg_n (by omega) ?_); first | assumption | exact mup_s _ _ _) (by rfl) ?_
              refine p_bipush (pc := 93) C dX5_cell_93 (by decide) ?_
              refine p_iload_n (pc := 95) C dX5_cell_95 rfl ?_
              refine p_imul (pc := 96) C dX5_cell_96 ⟨by omega, by omega⟩ ?_
              refine p_iload_n (pc := 97) C dX5_cell_97 rfl ?_
              refine p_iadd (pc := 98) C dX5_cell_98 ⟨by omega, by omega⟩ ?_
              refine p_iald (pc := 99) C dX5_cell_99 ⟨by omega, by omega⟩ (by (repeat refine mg_n (by omega) ?_); first | assumption | exact mup_s _ _ _) (by omega) ?_
              refine p_i2l (pc := 100) C dX5_cell_100 ?_
              refine p_lret (pc := 101) C dX5_cell_101 ?_
              first
                | (exfalso; omega)
                | (refine ⟨fun q hq => by (repeat (refine mg_n (by omega) ?_)); rfl, ?_⟩; rw [if_pos (by omega)]; exact ⟨svL (by decide +kernel), MV_42 hV (by omega)⟩)
                | (have hf : fot (th k) (la k) (ln k) l i 1 = 2 := if_pos (by omega)
                   refine ⟨fun q hq => by (repeat (refine mg_n (by omega) ?_)); rfl, ?_⟩; rw [if_neg (by omega), if_pos (by omega), hf]; exact ⟨rfl, MV_42 hV (by omega)⟩)
                | (have hf : fot (th k) (la k) (ln k) l i 1 = 1 := by unfold fot; rw [if_neg (by omega), if_pos (by omega)]
                   refine ⟨fun q hq => by (repeat (refine mg_n (by omega) ?_)); rfl, ?_⟩; rw [if_neg (by omega), if_pos (by omega), hf]; exact ⟨rfl, MV_42 hV (by omega)⟩)
                | (have hf : fot (th k) (la k) (ln k) l i 1 = 3 := by unfold fot; rw [if_neg (by omega), if_neg (by omega), if_neg (by omega), if_neg (by omega)]
                   refine ⟨fun q hq => by (repeat (refine mg_n (by omega) ?_)); rfl, ?_⟩; rw [if_neg (by omega), if_pos (by omega), hf]; exact ⟨rfl, MV_42 hV (by omega)⟩)
                | (have hf : fot (th k) (la k) (ln k) l i 1 = 0 := by unfold fot; rw [if_neg (by omega), if_neg (by omega), if_neg (by omega), if_pos (by omega)]
                   refine ⟨fun q hq => by (repeat (refine mg_n (by omega) ?_)); rfl, ?_⟩; rw [if_neg (by omega), if_neg (by omega)]; exact ⟨svL (e45 k (by omega) (by omega) (by omega) i (by omega) (by omega)), MV_42 hV (by omega)⟩)
            · refine p_aload_n (pc := 83) C dX5_cell_83 rfl ?_
              refine p_iconst (pc := 84) C dX5_cell_84 (by decide) ?_
              refine p_callVF (pc := 85) C ln_X5_229 dX5_cell_85 (k_X5_lost (by (repeat refine mg_n (by omega) ?_); first | assumption | exact mup_s _ _ _)) ⟨by omega, by omega⟩ (by (repeat refine mg_n (by omega) ?_); first | assumption | exact mup_s _ _ _) rfl rfl rfl rfl (Nat.le_of_ble_eq_true rfl) ?_
              refine p_mem (mup_mup _ _ _ _) ?_
              refine p_lret (pc := 88) C dX5_cell_88 ?_
              first
                | (exfalso; omega)
                | (refine ⟨fun q hq => by (repeat (refine mg_n (by omega) ?_)); rfl, ?_⟩; rw [if_pos (by omega)]; exact ⟨svL (by decide +kernel), MV_42 hV (by omega)⟩)
                | (have hf : fot (th k) (la k) (ln k) l i 1 = 2 := if_pos (by omega)
                   refine ⟨fun q hq => by (repeat (refine mg_n (by omega) ?_)); rfl, ?_⟩; rw [if_neg (by omega), if_pos (by omega), hf]; exact ⟨rfl, MV_42 hV (by omega)⟩)
                | (have hf : fot (th k) (la k) (ln k) l i 1 = 1 := by unfold fot; rw [if_neg (by omega), if_pos (by omega)]
                   refine ⟨fun q hq => by (repeat (refine mg_n (by omega) ?_)); rfl, ?_⟩; rw [if_neg (by omega), if_pos (by omega), hf]; exact ⟨rfl, MV_42 hV (by omega)⟩)
                | (have hf : fot (th k) (la k) (ln k) l i 1 = 3 := by unfold fot; rw [if_neg (by omega), if_neg (by omega), if_neg (by omega), if_neg (by omega)]
                   refine ⟨fun q hq => by (repeat (refine mg_n (by omega) ?_)); rfl, ?_⟩; rw [if_neg (by omega), if_pos (by omega), hf]; exact ⟨rfl, MV_42 hV (by omega)⟩)
                | (have hf : fot (th k) (la k) (ln k) l i 1 = 0 := by unfold fot; rw [if_neg (by omega), if_neg (by omega), if_neg (by omega), if_pos (by omega)]
                   refine ⟨fun q hq => by (repeat (refine mg_n (by omega) ?_)); rfl, ?_⟩; rw [if_neg (by omega), if_neg (by omega)]; exact ⟨svL (e45 k (by omega) (by omega) (by omega) i (by omega) (by omega)), MV_42 hV (by omega)⟩)
          · refine p_aload_n (pc := 61) C dX5_cell_61 rfl ?_
            refine p_iconst (pc := 62) C dX5_cell_62 (by decide) ?_
            refine p_callVF (pc := 63) C ln_X5_229 dX5_cell_63 (k_X5_lost (by (repeat refine mg_n (by omega) ?_); first | assumption | exact mup_s _ _ _)) ⟨by omega, by omega⟩ (by (repeat refine mg_n (by omega) ?_); first | assumption | exact mup_s _ _ _) rfl rfl rfl rfl (Nat.le_of_ble_eq_true rfl) ?_
            refine p_mem (mup_mup _ _ _ _) ?_
            refine p_lret (pc := 66) C dX5_cell_66 ?_
            first
              | (exfalso; omega)
              | (refine ⟨fun q hq => by (repeat (refine mg_n (by omega) ?_)); rfl, ?_⟩; rw [if_pos (by omega)]; exact ⟨svL (by decide +kernel), MV_42 hV (by omega)⟩)
              | (have hf : fot (th k) (la k) (ln k) l i 1 = 2 := if_pos (by omega)
                 refine ⟨fun q hq => by (repeat (refine mg_n (by omega) ?_)); rfl, ?_⟩; rw [if_neg (by omega), if_pos (by omega), hf]; exact ⟨rfl, MV_42 hV (by omega)⟩)
              | (have hf : fot (th k) (la k) (ln k) l i 1 = 1 := by unfold fot; rw [if_neg (by omega), if_pos (by omega)]
                 refine ⟨fun q hq => by (repeat (refine mg_n (by omega) ?_)); rfl, ?_⟩; rw [if_neg (by omega), if_pos (by omega), hf]; exact ⟨rfl, MV_42 hV (by omega)⟩)
              | (have hf : fot (th k) (la k) (ln k) l i 1 = 3 := by unfold fot; rw [if_neg (by omega), if_neg (by omega), if_neg (by omega), if_neg (by omega)]
                 refine ⟨fun q hq => by (repeat (refine mg_n (by omega) ?_)); rfl, ?_⟩; rw [if_neg (by omega), if_pos (by omega), hf]; exact ⟨rfl, MV_42 hV (by omega)⟩)
              | (have hf : fot (th k) (la k) (ln k) l i 1 = 0 := by unfold fot; rw [if_neg (by omega), if_neg (by omega), if_neg (by omega), if_pos (by omega)]
                 refine ⟨fun q hq => by (repeat (refine mg_n (by omega) ?_)); rfl, ?_⟩; rw [if_neg (by omega), if_neg (by omega)]; exact ⟨svL (e45 k (by omega) (by omega) (by omega) i (by omega) (by omega)), MV_42 hV (by omega)⟩)
        · refine p_aload_n (pc := 44) C dX5_cell_44 rfl ?_
          refine p_iconst (pc := 45) C dX5_cell_45 (by decide) ?_
          refine p_callVF (pc := 46) C ln_X5_229 dX5_cell_46 (k_X5_lost (by (repeat refine mg_n (by omega) ?_); first | assumption | exact mup_s _ _ _)) ⟨by omega, by omega⟩ (by (repeat refine mg_n (by omega) ?_); first | assumption | exact mup_s _ _ _) rfl rfl rfl rfl (Nat.le_of_ble_eq_true rfl) ?_
          refine p_mem (mup_mup _ _ _ _) ?_
          refine p_lret (pc := 49) C dX5_cell_49 ?_
          first
            | (exfalso; omega)
            | (refine ⟨fun q hq => by (repeat (refine mg_n (by omega) ?_)); rfl, ?_⟩; rw [if_pos (by omega)]; exact ⟨svL (by decide +kernel), MV_42 hV (by omega)⟩)
            | (have hf : fot (th k) (la k) (ln k) l i 1 = 2 := if_pos (by omega)
               refine ⟨fun q hq => by (repeat (refine mg_n (by omega) ?_)); rfl, ?_⟩; rw [if_neg (by omega), if_pos (by omega), hf]; exact ⟨rfl, MV_42 hV (by omega)⟩)
            | (have hf : fot (th k) (la k) (ln k) l i 1 = 1 := by unfold fot; rw [if_neg (by omega), if_pos (by omega)]
               refine ⟨fun q hq => by (repeat (refine mg_n (by omega) ?_)); rfl, ?_⟩; rw [if_neg (by omega), if_pos (by omega), hf]; exact ⟨rfl, MV_42 hV (by omega)⟩)
            | (have hf : fot (th k) (la k) (ln k) l i 1 = 3 := by unfold fot; rw [if_neg (by omega), if_neg (by omega), if_neg (by omega), if_neg (by omega)]
               refine ⟨fun q hq => by (repeat (refine mg_n (by omega) ?_)); rfl, ?_⟩; rw [if_neg (by omega), if_pos (by omega), hf]; exact ⟨rfl, MV_42 hV (by omega)⟩)
            | (have hf : fot (th k) (la k) (ln k) l i 1 = 0 := by unfold fot; rw [if_neg (by omega), if_neg (by omega), if_neg (by omega), if_pos (by omega)]
               refine ⟨fun q hq => by (repeat (refine mg_n (by omega) ?_)); rfl, ?_⟩; rw [if_neg (by omega), if_neg (by omega)]; exact ⟨svL (e45 k (by omega) (by omega) (by omega) i (by omega) (by omega)), MV_42 hV (by omega)⟩)
    · refine p_ldc2 (pc := 19) C kc_X5_65 dX5_cell_19 ?_
      refine p_lret (pc := 22) C dX5_cell_22 ?_
      first
        | (exfalso; omega)
        | (refine ⟨fun q hq => by (repeat (refine mg_n (by omega) ?_)); rfl, ?_⟩; rw [if_pos (by omega)]; exact ⟨svL (by decide +kernel), MV_42 hV (by omega)⟩)
        | (have hf : fot (th k) (la k) (ln k) l i 1 = 2 := if_pos (by omega)
           refine ⟨fun q hq => by (repeat (refine mg_n (by omega) ?_)); rfl, ?_⟩; rw [if_neg (by omega), if_pos (by omega), hf]; exact ⟨rfl, MV_42 hV (by omega)⟩)
        | (have hf : fot (th k) (la k) (ln k) l i 1 = 1 := by unfold fot; rw [if_neg (by omega), if_pos (by omega)]
           refine ⟨fun q hq => by (repeat (refine mg_n (by omega) ?_)); rfl, ?_⟩; rw [if_neg (by omega), if_pos (by omega), hf]; exact ⟨rfl, MV_42 hV (by omega)⟩)
        | (have hf : fot (th k) (la k) (ln k) l i 1 = 3 := by unfold fot; rw [if_neg (by omega), if_neg (by omega), if_neg (by omega), if_neg (by omega)]
           refine ⟨fun q hq => by (repeat (refine mg_n (by omega) ?_)); rfl, ?_⟩; rw [if_neg (by omega), if_pos (by omega), hf]; exact ⟨rfl, MV_42 hV (by omega)⟩)
        | (have hf : fot (th k) (la k) (ln k) l i 1 = 0 := by unfold fot; rw [if_neg (by omega), if_neg (by omega), if_neg (by omega), if_pos (by omega)]
           refine ⟨fun q hq => by (repeat (refine mg_n (by omega) ?_)); rfl, ?_⟩; rw [if_neg (by omega), if_neg (by omega)]; exact ⟨svL (e45 k (by omega) (by omega) (by omega) i (by omega) (by omega)), MV_42 hV (by omega)⟩)
