def crL (a b p c : Int) : Nat → List Int
  | 0 => []
  | t + 1 => (if p - c ≤ 9 then [1000 * a + 100 * b + 10 * c + (p - c)] else []) ++ crL a b p (c + 1) t
def chBL (a p b : Int) : Nat → List Int
  | 0 => []
  | t + 1 => crL a b (p - a - b) 0 ((if 9 < p - a - b then 9 else p - a - b) + 1).toNat ++ chBL a p (b + 1) t
def chAL (p a : Int) : Nat → List Int
  | 0 => []
  | t + 1 => chBL a p 0 ((if 9 < p - a then 9 else p - a) + 1).toNat ++ chAL p (a + 1) t
theorem crN_l (a b p nm r : Int) : ∀ (t : Nat) (c : Int) (S : SS), crN a b p nm r c S t = (crL a b p c t).foldl (wst nm r) S
  | 0, c, S => rfl
  | t + 1, c, S => by
    rw [crN, crL, List.foldl_append, crN_l a b p nm r t]
    split <;> rfl
theorem chB_l (a p nm r : Int) : ∀ (t : Nat) (b : Int) (S : SS), chB a p nm r b S t = (chBL a p b t).foldl (wst nm r) S
  | 0, b, S => rfl
  | t + 1, b, S => by rw [chB, chBL, List.foldl_append, chB_l a p nm r t, crN_l]
theorem chA_l (p nm r : Int) : ∀ (t : Nat) (a : Int) (S : SS), chA p nm r a S t = (chAL p a t).foldl (wst nm r) S
  | 0, a, S => rfl
  | t + 1, a, S => by rw [chA, chAL, List.foldl_append, chA_l p nm r t, chB_l]
def mnL (p x t : Nat) : List Nat := (List.range' x t).filter (fun y => y / 1000 + y / 100 % 10 + y / 10 % 10 + y % 10 == p)
theorem li_eq : ∀ p : Nat, p < 13 → chAL (p : Int) 0 ((if 9 < (p : Int) then 9 else (p : Int)) + 1).toNat = (mnL p 0 10000).map (fun y : Nat => (y : Int)) := by decide +kernel
theorem dsI_n (y : Nat) : dsI (y : Int) = ((y / 1000 + y / 100 % 10 + y / 10 % 10 + y % 10 : Nat) : Int) := by
  unfold dsI dg
  simp only [if_true, if_false, Int.reduceEq]
  omega
theorem mnL_s (p x t : Nat) : mnL p x (t + 1) = (if dsI (x : Int) = (p : Int) then [x] else []) ++ mnL p (x + 1) t := by
  unfold mnL
  rw [List.range'_succ, List.filter_cons, dsI_n]
  by_cases h : x / 1000 + x / 100 % 10 + x / 10 % 10 + x % 10 = p
  · rw [if_pos (by rw [beq_iff_eq]; exact h), if_pos (by rw [h])]; rfl
  · rw [if_neg (by rw [beq_iff_eq]; exact h), if_neg (fun z => h (by exact_mod_cast z))]; rfl

set_option maxHeartbeats 4000000 in
set_option maxRecDepth 100000 in
theorem q_X5_stow {K : KX} {d : Nat} {μ : Int → ME} {k n p w : Int} {np ns day nr tr fl : Int} {rg kd nm sg pt : Int → Int} {ca : Int → Int → Int} {rs rp rl th la ln : Int → Int} {ce : Int → Int → Int} (hV : MV np ns day nr tr fl rg kd nm sg pt ca rs rp rl th la ln ce μ) (hW : WF np ns day nr tr fl rg kd nm sg pt ca rs rp rl th la ln ce) : Ct K (d + 5) yX5_stow cX5_stow 6 (some .int) [vR 42, vI k, vI n, vI p, vI w] μ (fun r μ' => (∀ a, a < 42 → μ' a = μ a) ∧ (if ¬ (0 ≤ k ∧ k < ns) then r = some (vI (-1)) ∧ MV np ns day nr tr fl rg kd nm sg pt ca rs rp rl th la ln ce μ' else if ¬ (((0 ≤ n ∧ n ≤ 30) ∧ (0 ≤ p ∧ p ≤ 12)) ∧ ((0 ≤ w ∧ w ≤ 1) ∨ (10 ≤ w ∧ w < 14))) then r = some (vI (-2)) ∧ MV np ns day nr tr fl rg kd nm sg pt ca rs rp rl th la ln ce μ' else r = some (vI (swT w (chA p (nm k) (rdN rg np (brg (kd k) (sg k)) (pt k) n.toNat) 0 none ((if 9 < p then 9 else p) + 1).toNat))) ∧ MV np ns day nr tr fl rg kd nm sg pt ca rs rp rl th la ln ce μ')) := by
  refine Ct.of (by decide) (Nat.le_of_ble_eq_true rfl) (fun X C => ?_)
  obtain ⟨m42, m43, m44, m45, mB, mD, ⟨m52, m53, m54, m55, m56⟩, m57, m58, m59⟩ := id hV
  obtain ⟨m46, m47, m48, m49⟩ := id mB
  obtain ⟨at_, rP, rS, lp, lw, lf, sL, sF, h0⟩ := id m42
  obtain ⟨f43, h43, e43⟩ := id m43
  obtain ⟨f44, h44, e44⟩ := id m44
  obtain ⟨f45, h45, e45⟩ := id m45
  obtain ⟨f46, h46, e46⟩ := id m46
  obtain ⟨f47, h47, e47⟩ := id m47
  obtain ⟨f48, h48, e48⟩ := id m48
  obtain ⟨f49, h49, e49⟩ := id m49
  obtain ⟨pf, cf, h50, h51, hMR⟩ := id mD
  obtain ⟨f57, h57, e57⟩ := id m57
  obtain ⟨f58, h58, e58⟩ := id m58
  obtain ⟨f59, h59, e59⟩ := id m59
  obtain ⟨w0, w1, w2, w3, w4, w5, w6⟩ := id hW
  obtain ⟨f54, h54⟩ := id m54
  obtain ⟨f55, h55⟩ := id m55
  obtain ⟨f56, h56⟩ := id m56
  have L : ∀ (t : Nat) (x : Nat) (S1 : SS) (ν : Int → ME), x + t = 10000 → ((0 ≤ k ∧ k < ns) ∧ (0 ≤ n ∧ n ≤ 30) ∧ (0 ≤ p ∧ p ≤ 12) ∧ ((0 ≤ w ∧ w ≤ 1) ∨ (10 ≤ w ∧ w < 14))) → MT fl tr np ns day at_ rP rS lp lw lf nr (pt, ca, 0, 0, -9) S1 μ ν → ((mnL p.toNat x t).map (fun y : Nat => (y : Int))).foldl (wst (nm k) (rdN rg np (brg (kd k) (sg k)) (pt k) n.toNat)) S1 = (chA p (nm k) (rdN rg np (brg (kd k) (sg k)) (pt k) n.toNat) 0 none ((if 9 < p then 9 else p) + 1).toNat) → PW K X 6 (QM K X (fun r μ' => (∀ a, a < 42 → μ' a = μ a) ∧ (if ¬ (0 ≤ k ∧ k < ns) then r = some (vI (-1)) ∧ MV np ns day nr tr fl rg kd nm sg pt ca rs rp rl th la ln ce μ' else if ¬ (((0 ≤ n ∧ n ≤ 30) ∧ (0 ≤ p ∧ p ≤ 12)) ∧ ((0 ≤ w ∧ w ≤ 1) ∨ (10 ≤ w ∧ w < 14))) then r = some (vI (-2)) ∧ MV np ns day nr tr fl rg kd nm sg pt ca rs rp rl th la ln ce μ' else r = some (vI (swT w (chA p (nm k) (rdN rg np (brg (kd k) (sg k)) (pt k) n.toNat) 0 none ((if 9 < p then 9 else p) + 1).toNat))) ∧ MV np ns day nr tr fl rg kd nm sg pt ca rs rp rl th la ln ce μ'))) 68 [(5, vI (x : Int)), (0, vR 42), (1, vI k), (2, vI n), (3, vI p), (4, vI w)] [] ν := by
    intro t
    induction t with
    | zero =>
      intro x S1 ν g2 g3 g4 g6
      obtain ⟨⟨sL1, sF1, f1, u0, u56, hrM⟩, ⟨p4, c4, u54, u55, uK⟩, ⟨p1, c1, u50, u51, uR⟩, uo⟩ := id g4
      have hne := chA_ne p (nm k) (rdN rg np (brg (kd k) (sg k)) (pt k) n.toNat) (by omega) ((if 9 < p then 9 else p) + 1).toNat 0 none (by split <;> omega) (by omega) (by split <;> omega)
      have e6 : S1 = (chA p (nm k) (rdN rg np (brg (kd k) (sg k)) (pt k) n.toNat) 0 none ((if 9 < p then 9 else p) + 1).toNat) := by rw [← g6]; rfl
      rw [← e6] at hne
      match S1, hne, hrM, e6, g4 with
      | none, hne, _, _, _ => exact absurd rfl hne
      | some q, _, hrM, e6, g4 =>
      obtain ⟨e1, e2, -, e3⟩ := hrM
      refine p_iload (pc := 68) C dX5_stow_68 rfl ?_
      refine p_sipush (pc := 70) C dX5_stow_70 (by decide) ?_
      refine p_icmp_ge (pc := 73) (tgt := 99) C dX5_stow_73 (by decide) (fun c_73 => ?_) (fun h => by exfalso; omega)
      refine p_iload (pc := 99) C dX5_stow_99 rfl ?_
      refine p_if_ne (pc := 101) (tgt := 111) C dX5_stow_101 (by decide) (fun c_101 => ?_) (fun c_101 => ?_)
      · refine p_iload (pc := 111) C dX5_stow_111 rfl ?_
        refine p_iconst (pc := 113) C dX5_stow_113 (by decide) ?_
        refine p_icmp_ne (pc := 114) (tgt := 124) C dX5_stow_114 (by decide) (fun c_114 => ?_) (fun c_114 => ?_)
        · refine p_aload_n (pc := 124) C dX5_stow_124 rfl ?_
          refine p_get (pc := 125) C fl_X5_49 dX5_stow_125 ⟨by omega, by omega⟩ (by (repeat refine mg_n (by omega) ?_); first | assumption | exact mup_s _ _ _) (by rfl) ?_
          refine p_iload (pc := 128) C dX5_stow_128 rfl ?_
          refine p_bipush (pc := 130) C dX5_stow_130 (by decide) ?_
          refine p_isub (pc := 132) C dX5_stow_132 ⟨by omega, by omega⟩ ?_
          refine p_iald (pc := 133) C dX5_stow_133 ⟨by omega, by omega⟩ (by (repeat refine mg_n (by omega) ?_); first | assumption | exact mup_s _ _ _) (by omega) ?_
          refine p_iret (pc := 134) C dX5_stow_134 ?_
          first
            | (exfalso; omega)
            | (refine ⟨fun q hq => uo q (by omega) (by omega) (by omega) (by omega) (by omega) (by omega), ?_⟩; rw [if_neg (by omega), if_neg (by omega), ← e6]; exact ⟨sv (by unfold swT; dsimp only; rw [if_pos (by omega), e1]), MV_g hV ⟨_, _, _, _, _, _, _, _, u0⟩ ⟨p1, c1, u50, u51, uR⟩ ⟨p4, u54⟩ ⟨c4, u55⟩ ⟨f1, u56⟩ uo⟩)
            | (refine ⟨fun q hq => uo q (by omega) (by omega) (by omega) (by omega) (by omega) (by omega), ?_⟩; rw [if_neg (by omega), if_neg (by omega), ← e6]; exact ⟨sv (by unfold swT; dsimp only; rw [if_neg (by omega), if_pos (by omega), e2]), MV_g hV ⟨_, _, _, _, _, _, _, _, u0⟩ ⟨p1, c1, u50, u51, uR⟩ ⟨p4, u54⟩ ⟨c4, u55⟩ ⟨f1, u56⟩ uo⟩)
            | (refine ⟨fun q hq => uo q (by omega) (by omega) (by omega) (by omega) (by omega) (by omega), ?_⟩; rw [if_neg (by omega), if_neg (by omega), ← e6]; exact ⟨sv (by unfold swT; dsimp only; rw [if_neg (by omega), if_neg (by omega), e3 _ (by omega) (by omega)]), MV_g hV ⟨_, _, _, _, _, _, _, _, u0⟩ ⟨p1, c1, u50, u51, uR⟩ ⟨p4, u54⟩ ⟨c4, u55⟩ ⟨f1, u56⟩ uo⟩)
        · refine p_aload_n (pc := 117) C dX5_stow_117 rfl ?_
          refine p_get (pc := 118) C fl_X5_199 dX5_stow_118 ⟨by omega, by omega⟩ (by (repeat refine mg_n (by omega) ?_); first | assumption | exact mup_s _ _ _) (by rfl) ?_
          refine p_goto (pc := 121) (tgt := 134) C dX5_stow_121 (by decide) ?_
          refine p_iret (pc := 134) C dX5_stow_134 ?_
          first
            | (exfalso; omega)
            | (refine ⟨fun q hq => uo q (by omega) (by omega) (by omega) (by omega) (by omega) (by omega), ?_⟩; rw [if_neg (by omega), if_neg (by omega), ← e6]; exact ⟨sv (by unfold swT; dsimp only; rw [if_pos (by omega), e1]), MV_g hV ⟨_, _, _, _, _, _, _, _, u0⟩ ⟨p1, c1, u50, u51, uR⟩ ⟨p4, u54⟩ ⟨c4, u55⟩ ⟨f1, u56⟩ uo⟩)
            | (refine ⟨fun q hq => uo q (by omega) (by omega) (by omega) (by omega) (by omega) (by omega), ?_⟩; rw [if_neg (by omega), if_neg (by omega), ← e6]; exact ⟨sv (by unfold swT; dsimp only; rw [if_neg (by omega), if_pos (by omega), e2]), MV_g hV ⟨_, _, _, _, _, _, _, _, u0⟩ ⟨p1, c1, u50, u51, uR⟩ ⟨p4, u54⟩ ⟨c4, u55⟩ ⟨f1, u56⟩ uo⟩)
            | (refine ⟨fun q hq => uo q (by omega) (by omega) (by omega) (by omega) (by omega) (by omega), ?_⟩; rw [if_neg (by omega), if_neg (by omega), ← e6]; exact ⟨sv (by unfold swT; dsimp only; rw [if_neg (by omega), if_neg (by omega), e3 _ (by omega) (by omega)]), MV_g hV ⟨_, _, _, _, _, _, _, _, u0⟩ ⟨p1, c1, u50, u51, uR⟩ ⟨p4, u54⟩ ⟨c4, u55⟩ ⟨f1, u56⟩ uo⟩)
      · refine p_aload_n (pc := 104) C dX5_stow_104 rfl ?_
        refine p_get (pc := 105) C fl_X5_196 dX5_stow_105 ⟨by omega, by omega⟩ (by (repeat refine mg_n (by omega) ?_); first | assumption | exact mup_s _ _ _) (by rfl) ?_
        refine p_goto (pc := 108) (tgt := 134) C dX5_stow_108 (by decide) ?_
        refine p_iret (pc := 134) C dX5_stow_134 ?_
        first
          | (exfalso; omega)
          | (refine ⟨fun q hq => uo q (by omega) (by omega) (by omega) (by omega) (by omega) (by omega), ?_⟩; rw [if_neg (by omega), if_neg (by omega), ← e6]; exact ⟨sv (by unfold swT; dsimp only; rw [if_pos (by omega), e1]), MV_g hV ⟨_, _, _, _, _, _, _, _, u0⟩ ⟨p1, c1, u50, u51, uR⟩ ⟨p4, u54⟩ ⟨c4, u55⟩ ⟨f1, u56⟩ uo⟩)
          | (refine ⟨fun q hq => uo q (by omega) (by omega) (by omega) (by omega) (by omega) (by omega), ?_⟩; rw [if_neg (by omega), if_neg (by omega), ← e6]; exact ⟨sv (by unfold swT; dsimp only; rw [if_neg (by omega), if_pos (by omega), e2]), MV_g hV ⟨_, _, _, _, _, _, _, _, u0⟩ ⟨p1, c1, u50, u51, uR⟩ ⟨p4, u54⟩ ⟨c4, u55⟩ ⟨f1, u56⟩ uo⟩)
          | (refine ⟨fun q hq => uo q (by omega) (by omega) (by omega) (by omega) (by omega) (by omega), ?_⟩; rw [if_neg (by omega), if_neg (by omega), ← e6]; exact ⟨sv (by unfold swT; dsimp only; rw [if_neg (by omega), if_neg (by omega), e3 _ (by omega) (by omega)]), MV_g hV ⟨_, _, _, _, _, _, _, _, u0⟩ ⟨p1, c1, u50, u51, uR⟩ ⟨p4, u54⟩ ⟨c4, u55⟩ ⟨f1, u56⟩ uo⟩)
    | succ t ih =>
      intro x S1 ν g2 g3 g4 g6
      obtain ⟨⟨sL1, sF1, f1, u0, u56, hrM⟩, ⟨p4, c4, u54, u55, uK⟩, ⟨p1, c1, u50, u51, uR⟩, uo⟩ := id g4
      rw [mnL_s, show ((p.toNat : Nat) : Int) = p by omega] at g6
      refine p_iload (pc := 68) C dX5_stow_68 rfl ?_
      refine p_sipush (pc := 70) C dX5_stow_70 (by decide) ?_
      refine p_icmp_ge (pc := 73) (tgt := 99) C dX5_stow_73 (by decide) (fun h => by exfalso; omega) (fun c_73 => ?_)
      refine p_iload (pc := 76) C dX5_stow_76 rfl ?_
      refine p_callSF (pc := 78) C ln_X5_202 dX5_stow_78 (k_X5_digitSum (by omega) (by omega)) rfl rfl (Nat.le_of_ble_eq_true rfl) ?_
      refine p_iload_n (pc := 81) C dX5_stow_81 rfl ?_
      refine p_icmp_ne (pc := 82) (tgt := 93) C dX5_stow_82 (by decide) (fun c_82 => ?_) (fun c_82 => ?_)
      · refine p_iinc (pc := 93) (ls' := [(5, _), (0, _), (1, _), (2, _), (3, _), (4, _)]) C dX5_stow_93 (by decide) rfl ⟨by omega, by omega⟩ rfl ?_
        refine p_goto (pc := 96) (tgt := 68) C dX5_stow_96 (by decide) ?_
        first
          | (rw [if_pos (by omega)] at g6; exact p_ls (by rw [show ((x : Int) + 1) = ((x + 1 : Nat) : Int) by push_cast; rfl]) (ih (x + 1) _ _ (by omega) g3 hpost g6))
          | (rw [if_neg (by omega)] at g6; exact p_ls (by rw [show ((x : Int) + 1) = ((x + 1 : Nat) : Int) by push_cast; rfl]) (ih (x + 1) _ _ (by omega) g3 g4 g6))
      · refine p_aload_n (pc := 85) C dX5_stow_85 rfl ?_
        refine p_iload_n (pc := 86) C dX5_stow_86 rfl ?_
        refine p_iload_n (pc := 87) C dX5_stow_87 rfl ?_
        refine p_iload (pc := 88) C dX5_stow_88 rfl ?_
        refine p_callVV (pc := 90) C ln_X5_205 dX5_stow_90 (k_X5_tryStow (S := S1) g4 (by omega) (by omega) mB (by omega) w4 w3 (by omega) (by omega) (by omega)) ⟨by omega, by omega⟩ (by (repeat refine mg_n (by omega) ?_); first | assumption | exact mup_s _ _ _) rfl rfl rfl rfl (Nat.le_of_ble_eq_true rfl) (fun μ' hpost => ?_)
        refine p_iinc (pc := 93) (ls' := [(5, _), (0, _), (1, _), (2, _), (3, _), (4, _)]) C dX5_stow_93 (by decide) rfl ⟨by omega, by omega⟩ rfl ?_
        refine p_goto (pc := 96) (tgt := 68) C dX5_stow_96 (by decide) ?_
        first
          | (rw [if_pos (by omega)] at g6; exact p_ls (by rw [show ((x : Int) + 1) = ((x + 1 : Nat) : Int) by push_cast; rfl]) (ih (x + 1) _ _ (by omega) g3 hpost g6))
          | (rw [if_neg (by omega)] at g6; exact p_ls (by rw [show ((x : Int) + 1) = ((x + 1 : Nat) : Int) by push_cast; rfl]) (ih (x + 1) _ _ (by omega) g3 g4 g6))
  refine p_aload_n (pc := 0) C dX5_stow_0 rfl ?_
  refine p_iload_n (pc := 1) C dX5_stow_1 rfl ?_
  refine p_callVF (pc := 2) C ln_X5_127 dX5_stow_2 (k_X5_isShip (by (repeat refine mg_n (by omega) ?_); first | assumption | exact mup_s _ _ _)) ⟨by omega, by omega⟩ (by (repeat refine mg_n (by omega) ?_); first | assumption | exact mup_s _ _ _) rfl rfl rfl rfl (Nat.le_of_ble_eq_true rfl) ?_
  refine p_ifne_b (pc := 5) (tgt := 10) C dX5_stow_5 (by decide) (fun c_5 => ?_) (fun c_5 => ?_)
  · refine p_iload_n (pc := 10) C dX5_stow_10 rfl ?_
    refine p_iconst (pc := 11) C dX5_stow_11 (by decide) ?_
    refine p_bipush (pc := 12) C dX5_stow_12 (by decide) ?_
    refine p_callSF (pc := 14) C ln_X5_67 dX5_stow_14 (k_X5_within) rfl rfl (Nat.le_of_ble_eq_true rfl) ?_
    refine p_ifeq_b (pc := 17) (tgt := 52) C dX5_stow_17 (by decide) (fun c_17 => ?_) (fun c_17 => ?_)
    · refine p_bipush (pc := 52) C dX5_stow_52 (by decide) ?_
      refine p_iret (pc := 54) C dX5_stow_54 ?_
      first
        | (exfalso; omega)
        | (refine ⟨fun q hq => by (repeat (refine mg_n (by omega) ?_)); rfl, ?_⟩; rw [if_pos (by omega)]; exact ⟨rfl, hV⟩)
        | (refine ⟨fun q hq => by (repeat (refine mg_n (by omega) ?_)); rfl, ?_⟩; rw [if_neg (by omega), if_pos (by omega)]; exact ⟨rfl, hV⟩)
    · refine p_iload_n (pc := 20) C dX5_stow_20 rfl ?_
      refine p_iconst (pc := 21) C dX5_stow_21 (by decide) ?_
      refine p_bipush (pc := 22) C dX5_stow_22 (by decide) ?_
      refine p_callSF (pc := 24) C ln_X5_67 dX5_stow_24 (k_X5_within) rfl rfl (Nat.le_of_ble_eq_true rfl) ?_
      refine p_ifeq_b (pc := 27) (tgt := 52) C dX5_stow_27 (by decide) (fun c_27 => ?_) (fun c_27 => ?_)
      · refine p_bipush (pc := 52) C dX5_stow_52 (by decide) ?_
        refine p_iret (pc := 54) C dX5_stow_54 ?_
        first
          | (exfalso; omega)
          | (refine ⟨fun q hq => by (repeat (refine mg_n (by omega) ?_)); rfl, ?_⟩; rw [if_pos (by omega)]; exact ⟨rfl, hV⟩)
          | (refine ⟨fun q hq => by (repeat (refine mg_n (by omega) ?_)); rfl, ?_⟩; rw [if_neg (by omega), if_pos (by omega)]; exact ⟨rfl, hV⟩)
      · refine p_iload (pc := 30) C dX5_stow_30 rfl ?_
        refine p_iconst (pc := 32) C dX5_stow_32 (by decide) ?_
        refine p_iconst (pc := 33) C dX5_stow_33 (by decide) ?_
        refine p_callSF (pc := 34) C ln_X5_67 dX5_stow_34 (k_X5_within) rfl rfl (Nat.le_of_ble_eq_true rfl) ?_
        refine p_ifne_b (pc := 37) (tgt := 55) C dX5_stow_37 (by decide) (fun c_37 => ?_) (fun c_37 => ?_)
        · refine p_aload_n (pc := 55) C dX5_stow_55 rfl ?_
          refine p_callVV (pc := 56) C ln_X5_177 dX5_stow_56 (k_X5_keep (by (repeat refine mg_n (by omega) ?_); first | assumption | exact mup_s _ _ _) (by omega) (by (repeat refine mg_n (by omega) ?_); first | assumption | exact mup_s _ _ _) (by (repeat refine mg_n (by omega) ?_); first | assumption | exact mup_s _ _ _) (by (repeat refine mg_n (by omega) ?_); first | assumption | exact mup_s _ _ _) (by (repeat refine mg_n (by omega) ?_); first | assumption | exact mup_s _ _ _)) ⟨by omega, by omega⟩ (by (repeat refine mg_n (by omega) ?_); first | assumption | exact mup_s _ _ _) rfl rfl rfl rfl (Nat.le_of_ble_eq_true rfl) (fun μ' hpost => ?_)
          obtain ⟨x, y, rfl, hx, hy⟩ := hpost
          refine p_aload_n (pc := 59) C dX5_stow_59 rfl ?_
          refine p_bipush (pc := 60) C dX5_stow_60 (by decide) ?_
          refine p_putL (pc := 62) (fs' := [_, _, _, _, _, _, _, _, _, _, _, _, _, _, _, _, _, _, _, _, _, _, _, _, _, _, _, _, _, _, _]) C fp_X5_196 dX5_stow_62 ⟨by omega, by omega⟩ (by (repeat refine mg_n (by omega) ?_); first | assumption | exact mup_s _ _ _) (by exact Nat.le_of_ble_eq_true rfl) (by rfl) ?_
          try refine p_mem (mup_mup _ _ _ _) ?_
          refine p_iconst (pc := 65) C dX5_stow_65 (by decide) ?_
          refine p_istore (pc := 66) (ls' := [(5, _), (0, _), (1, _), (2, _), (3, _), (4, _)]) C dX5_stow_66 (by decide) rfl ?_
          refine p_ls (by rw [show (0 : Int) = ((0 : Nat) : Int) from rfl]) ?_
          refine L 10000 0 none _ (by omega) (by omega) ⟨⟨-9, sF, f56, mup_s _ _ _, by (repeat (refine mg_n (by omega) ?_)); exact h56, rfl⟩, ⟨x, y, mg_n (by omega) (mg_n (by omega) (mup_s _ _ _)), mg_n (by omega) (mup_s _ _ _), MR_kp hMR hx hy⟩, ⟨pf, cf, by (repeat (refine mg_n (by omega) ?_)); exact h50, by (repeat (refine mg_n (by omega) ?_)); exact h51, hMR⟩, fun z z0 z1 z2 z3 z4 z5 => by (repeat (refine mg_n (by assumption) ?_)); rfl⟩ ?_
          rw [chA_l]
          have hli := li_eq p.toNat (by omega)
          rw [show ((p.toNat : Nat) : Int) = p by omega] at hli
          rw [hli]
        · refine p_iload (pc := 40) C dX5_stow_40 rfl ?_
          refine p_bipush (pc := 42) C dX5_stow_42 (by decide) ?_
          refine p_bipush (pc := 44) C dX5_stow_44 (by decide) ?_
          refine p_callSF (pc := 46) C ln_X5_67 dX5_stow_46 (k_X5_within) rfl rfl (Nat.le_of_ble_eq_true rfl) ?_
          refine p_ifne_b (pc := 49) (tgt := 55) C dX5_stow_49 (by decide) (fun c_49 => ?_) (fun c_49 => ?_)
          · refine p_aload_n (pc := 55) C dX5_stow_55 rfl ?_
            refine p_callVV (pc := 56) C ln_X5_177 dX5_stow_56 (k_X5_keep (by (repeat refine mg_n (by omega) ?_); first | assumption | exact mup_s _ _ _) (by omega) (by (repeat refine mg_n (by omega) ?_); first | assumption | exact mup_s _ _ _) (by (repeat refine mg_n (by omega) ?_); first | assumption | exact mup_s _ _ _) (by (repeat refine mg_n (by omega) ?_); first | assumption | exact mup_s _ _ _) (by (repeat refine mg_n (by omega) ?_); first | assumption | exact mup_s _ _ _)) ⟨by omega, by omega⟩ (by (repeat refine mg_n (by omega) ?_); first | assumption | exact mup_s _ _ _) rfl rfl rfl rfl (Nat.le_of_ble_eq_true rfl) (fun μ' hpost => ?_)
            obtain ⟨x, y, rfl, hx, hy⟩ := hpost
            refine p_aload_n (pc := 59) C dX5_stow_59 rfl ?_
            refine p_bipush (pc := 60) C dX5_stow_60 (by decide) ?_
            refine p_putL (pc := 62) (fs' := [_, _, _, _, _, _, _, _, _, _, _, _, _, _, _, _, _, _, _, _, _, _, _, _, _, _, _, _, _, _, _]) C fp_X5_196 dX5_stow_62 ⟨by omega, by omega⟩ (by (repeat refine mg_n (by omega) ?_); first | assumption | exact mup_s _ _ _) (by exact Nat.le_of_ble_eq_true rfl) (by rfl) ?_
            try refine p_mem (mup_mup _ _ _ _) ?_
            refine p_iconst (pc := 65) C dX5_stow_65 (by decide) ?_
            refine p_istore (pc := 66) (ls' := [(5, _), (0, _), (1, _), (2, _), (3, _), (4, _)]) C dX5_stow_66 (by decide) rfl ?_
            refine p_ls (by rw [show (0 : Int) = ((0 : Nat) : Int) from rfl]) ?_
            refine L 10000 0 none _ (by omega) (by omega) ⟨⟨-9, sF, f56, mup_s _ _ _, by (repeat (refine mg_n (by omega) ?_)); exact h56, rfl⟩, ⟨x, y, mg_n (by omega) (mg_n (by omega) (mup_s _ _ _)), mg_n (by omega) (mup_s _ _ _), MR_kp hMR hx hy⟩, ⟨pf, cf, by (repeat (refine mg_n (by omega) ?_)); exact h50, by (repeat (refine mg_n (by omega) ?_)); exact h51, hMR⟩, fun z z0 z1 z2 z3 z4 z5 => by (repeat (refine mg_n (by assumption) ?_)); rfl⟩ ?_
            rw [chA_l]
            have hli := li_eq p.toNat (by omega)
            rw [show ((p.toNat : Nat) : Int) = p by omega] at hli
            rw [hli]
          · refine p_bipush (pc := 52) C dX5_stow_52 (by decide) ?_
            refine p_iret (pc := 54) C dX5_stow_54 ?_
            first
              | (exfalso; omega)
              | (refine ⟨fun q hq => by (repeat (refine mg_n (by omega) ?_)); rfl, ?_⟩; rw [if_pos (by omega)]; exact ⟨rfl, hV⟩)
              | (refine ⟨fun q hq => by (repeat (refine mg_n (by omega) ?_)); rfl, ?_⟩; rw [if_neg (by omega), if_pos (by omega)]; exact ⟨rfl, hV⟩)
  · refine p_iconst (pc := 8) C dX5_stow_8 (by decide) ?_
    refine p_iret (pc := 9) C dX5_stow_9 ?_
    first
      | (exfalso; omega)
      | (refine ⟨fun q hq => by (repeat (refine mg_n (by omega) ?_)); rfl, ?_⟩; rw [if_pos (by omega)]; exact ⟨rfl, hV⟩)
      | (refine ⟨fun q hq => by (repeat (refine mg_n (by omega) ?_)); rfl, ?_⟩; rw [if_neg (by omega), if_pos (by omega)]; exact ⟨rfl, hV⟩)
