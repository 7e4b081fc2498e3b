theorem lo_it {np ns : Int} {rg kd nm sg pt : Int → Int} {ca : Int → Int → Int} {k p : Int} {n : Nat} (hN : WN ns kd nm sg) (h0 : 0 ≤ k) (h1 : k < ns) (hW : WS np ns (fup pt k p, ca, 0, 0, -9)) : (itS np rg kd nm sg k (fup pt k p, ca, 0, 0, -9) n).2.2.2.1 - 0 = wor (los (ca k) (nm k) (rdN rg np (brg (kd k) (sg k)) p n)) := by
  have h := (it_cl (np := np) (rg := rg) hN h0 h1 n _ hW).2
  dsimp only at h
  rw [fup_s] at h
  rw [h]; omega
theorem MR_p {ns : Int} {pt : Int → Int} {ca : Int → Int → Int} {p1 c1 : Int → Int} {k p : Int} (h : MR ns (pt, ca, 0, 0, -9) p1 c1) : MR ns (fup pt k p, ca, 0, 0, -9) (fup p1 k p) c1 := fun j j0 j1 => by
  obtain ⟨a1, a2⟩ := h j j0 j1
  refine ⟨?_, a2⟩
  dsimp only at *
  by_cases e : j = k
  · subst e; rw [fup_s, fup_s]
  · rw [fup_n _ _ _ e, fup_n _ _ _ e]; exact a1
theorem WS_p {np ns : Int} {pt : Int → Int} {ca : Int → Int → Int} {k p : Int} (h : WS np ns (pt, ca, 0, 0, -9)) (hp : 0 ≤ p ∧ p < np) : WS np ns (fup pt k p, ca, 0, 0, -9) := fun j j0 j1 => by
  obtain ⟨a1, a2⟩ := h j j0 j1
  refine ⟨?_, a2⟩
  dsimp only at *
  by_cases e : j = k
  · subst e; rw [fup_s]; exact hp
  · rw [fup_n _ _ _ e]; exact a1

theorem MB_1 {rg kd nm sg : Int → Int} {np ns : Int} {μ : Int → ME} (h : MB rg kd nm sg np ns μ) (o : ME) : MB rg kd nm sg np ns (mup μ 50 o) := by
  obtain ⟨⟨f1, a1, b1⟩, ⟨f2, a2, b2⟩, ⟨f3, a3, b3⟩, ⟨f4, a4, b4⟩⟩ := h
  exact ⟨⟨f1, mg_n (by omega) a1, b1⟩, ⟨f2, mg_n (by omega) a2, b2⟩, ⟨f3, mg_n (by omega) a3, b3⟩, ⟨f4, mg_n (by omega) a4, b4⟩⟩

theorem MV_kp {np ns day nr tr fl : Int} {rg kd nm sg pt : Int → Int} {ca : Int → Int → Int} {rs rp rl th la ln : Int → Int} {ce : Int → Int → Int} {μ ν : Int → ME} (h : MV np ns day nr tr fl rg kd nm sg pt ca rs rp rl th la ln ce μ) (hK : KP ns (pt, ca, 0, 0, -9) μ ν) (hD : ∃ p c : Int → Int, ν 50 = mA 5 p ∧ ν 51 = mA 20 c ∧ MR ns (pt, ca, 0, 0, -9) p c) : MV np ns day nr tr fl rg kd nm sg pt ca rs rp rl th la ln ce ν := by
  obtain ⟨p, c, h1, h2, h3⟩ := hD
  have := MV_back h hK h3
  rw [mup_id h1, mup_id h2] at this
  exact this

set_option maxHeartbeats 4000000 in
set_option maxRecDepth 100000 in
theorem q_X5_harbour {K : KX} {d : Nat} {μ : Int → ME} {k n w : Int} {np ns day nr tr fl : Int} {rg kd nm sg pt : Int → Int} {ca : Int → Int → Int} {rs rp rl th la ln : Int → Int} {ce : Int → Int → Int} (hV : MV np ns day nr tr fl rg kd nm sg pt ca rs rp rl th la ln ce μ) (hW : WF np ns day nr tr fl rg kd nm sg pt ca rs rp rl th la ln ce) : Ct K (d + 4) yX5_harbour cX5_harbour 8 (some .int) [vR 42, vI k, vI n, vI w] μ (fun r μ' => (∀ a, a < 42 → μ' a = μ a) ∧ (if ¬ (0 ≤ k ∧ k < ns) then r = some (vI (-1)) ∧ MV np ns day nr tr fl rg kd nm sg pt ca rs rp rl th la ln ce μ' else if ¬ ((0 ≤ n ∧ n ≤ 30) ∧ (0 ≤ w ∧ w ≤ 1)) then r = some (vI (-2)) ∧ MV np ns day nr tr fl rg kd nm sg pt ca rs rp rl th la ln ce μ' else r = some (vI (hbT np w (fun p => wor (los (ca k) (nm k) (rdN rg np (brg (kd k) (sg k)) p n.toNat))))) ∧ MV np ns day nr tr fl rg kd nm sg pt ca rs rp rl th la ln ce μ')) := by
  refine Ct.of (by decide) (Nat.le_of_ble_eq_true rfl) (fun X C => ?_)
  obtain ⟨m42, m43, m44, m45, mB, mD, ⟨m52, m53, m54, m55, m56⟩, m57, m58, m59⟩ := id hV
  obtain ⟨m46, m47, m48, m49⟩ := id mB
  obtain ⟨at_, rP, rS, lp, lw, lf, sL, sF, h0⟩ := id m42
  obtain ⟨f43, h43, e43⟩ := id m43
  obtain ⟨f44, h44, e44⟩ := id m44
  obtain ⟨f45, h45, e45⟩ := id m45
  obtain ⟨f46, h46, e46⟩ := id m46
  obtain ⟨f47, h47, e47⟩ := id m47
  obtain ⟨f48, h48, e48⟩ := id m48
  obtain ⟨f49, h49, e49⟩ := id m49
  obtain ⟨pf, cf, h50, h51, hMR⟩ := id mD
  obtain ⟨f57, h57, e57⟩ := id m57
  obtain ⟨f58, h58, e58⟩ := id m58
  obtain ⟨f59, h59, e59⟩ := id m59
  obtain ⟨w0, w1, w2, w3, w4, w5, w6⟩ := id hW
  obtain ⟨f54, h54⟩ := id m54
  obtain ⟨f55, h55⟩ := id m55
  have L : ∀ (t : Nat) (p b l : Int) (ν : Int → ME), 0 ≤ p → np - p = (t : Int) → ((0 ≤ k ∧ k < ns) ∧ (0 ≤ n ∧ n ≤ 30) ∧ (0 ≤ w ∧ w ≤ 1)) → KP ns (pt, ca, 0, 0, -9) μ ν → (∃ p c : Int → Int, ν 50 = mA 5 p ∧ ν 51 = mA 20 c ∧ MR ns (pt, ca, 0, 0, -9) p c) → ((p = 0 ∧ b = -9) ∨ (1 ≤ p ∧ 0 ≤ b ∧ hbN (fun p => wor (los (ca k) (nm k) (rdN rg np (brg (kd k) (sg k)) p n.toNat))) p b l t = hbN (fun p => wor (los (ca k) (nm k) (rdN rg np (brg (kd k) (sg k)) p n.toNat))) 1 0 ((fun p => wor (los (ca k) (nm k) (rdN rg np (brg (kd k) (sg k)) p n.toNat))) 0) (np - 1).toNat)) → PW K X 8 (QM K X (fun r μ' => (∀ a, a < 42 → μ' a = μ a) ∧ (if ¬ (0 ≤ k ∧ k < ns) then r = some (vI (-1)) ∧ MV np ns day nr tr fl rg kd nm sg pt ca rs rp rl th la ln ce μ' else if ¬ ((0 ≤ n ∧ n ≤ 30) ∧ (0 ≤ w ∧ w ≤ 1)) then r = some (vI (-2)) ∧ MV np ns day nr tr fl rg kd nm sg pt ca rs rp rl th la ln ce μ' else r = some (vI (hbT np w (fun p => wor (los (ca k) (nm k) (rdN rg np (brg (kd k) (sg k)) p n.toNat))))) ∧ MV np ns day nr tr fl rg kd nm sg pt ca rs rp rl th la ln ce μ'))) 46 [(6, vI p), (5, vI l), (4, vI b), (0, vR 42), (1, vI k), (2, vI n), (3, vI w)] [] ν := by
    intro t
    induction t with
    | zero =>
      intro p b l ν g1 g2 g3 g4 g5 g6
      obtain ⟨p1, c1, u50, u51, uR⟩ := id g5
      obtain ⟨⟨p4, c4, u54, u55, uK⟩, uo⟩ := id g4
      have u0 : ν 42 = oM fl tr np ns day at_ rP rS lp lw lf sL sF nr := (uo 42 (by omega) (by omega) (by omega) (by omega)).trans h0
      have uB := MB_k mB uo
      refine p_iload (pc := 46) C dX5_harbour_46 rfl ?_
      refine p_aload_n (pc := 48) C dX5_harbour_48 rfl ?_
      refine p_get (pc := 49) C fl_X5_74 dX5_harbour_49 ⟨by omega, by omega⟩ (by (repeat refine mg_n (by omega) ?_); first | assumption | exact mup_s _ _ _) (by rfl) ?_
      refine p_icmp_ge (pc := 52) (tgt := 103) C dX5_harbour_52 (by decide) (fun c_52 => ?_) (fun h => by exfalso; omega)
      refine p_iload_n (pc := 103) C dX5_harbour_103 rfl ?_
      refine p_if_ne (pc := 104) (tgt := 112) C dX5_harbour_104 (by decide) (fun c_104 => ?_) (fun c_104 => ?_)
      · refine p_iload (pc := 112) C dX5_harbour_112 rfl ?_
        refine p_iret (pc := 114) C dX5_harbour_114 ?_
        first
          | (exfalso; omega)
          | (refine ⟨fun q hq => uo q (by omega) (by omega) (by omega) (by omega), ?_⟩; rw [if_neg (by omega), if_neg (by omega)]; exact ⟨sv (by rcases g6 with g6 | ⟨-, -, g6⟩; (exfalso; omega); rw [hbN] at g6; unfold hbT; rw [if_pos (by omega), ← g6]), MV_kp hV g4 g5⟩)
          | (refine ⟨fun q hq => uo q (by omega) (by omega) (by omega) (by omega), ?_⟩; rw [if_neg (by omega), if_neg (by omega)]; exact ⟨sv (by rcases g6 with g6 | ⟨-, -, g6⟩; (exfalso; omega); rw [hbN] at g6; unfold hbT; rw [if_neg (by omega), ← g6]), MV_kp hV g4 g5⟩)
      · refine p_iload (pc := 107) C dX5_harbour_107 rfl ?_
        refine p_goto (pc := 109) (tgt := 114) C dX5_harbour_109 (by decide) ?_
        refine p_iret (pc := 114) C dX5_harbour_114 ?_
        first
          | (exfalso; omega)
          | (refine ⟨fun q hq => uo q (by omega) (by omega) (by omega) (by omega), ?_⟩; rw [if_neg (by omega), if_neg (by omega)]; exact ⟨sv (by rcases g6 with g6 | ⟨-, -, g6⟩; (exfalso; omega); rw [hbN] at g6; unfold hbT; rw [if_pos (by omega), ← g6]), MV_kp hV g4 g5⟩)
          | (refine ⟨fun q hq => uo q (by omega) (by omega) (by omega) (by omega), ?_⟩; rw [if_neg (by omega), if_neg (by omega)]; exact ⟨sv (by rcases g6 with g6 | ⟨-, -, g6⟩; (exfalso; omega); rw [hbN] at g6; unfold hbT; rw [if_neg (by omega), ← g6]), MV_kp hV g4 g5⟩)
    | succ t ih =>
      intro p b l ν g1 g2 g3 g4 g5 g6
      obtain ⟨p1, c1, u50, u51, uR⟩ := id g5
      obtain ⟨⟨p4, c4, u54, u55, uK⟩, uo⟩ := id g4
      have u0 : ν 42 = oM fl tr np ns day at_ rP rS lp lw lf sL sF nr := (uo 42 (by omega) (by omega) (by omega) (by omega)).trans h0
      have uB := MB_k mB uo
      refine p_iload (pc := 46) C dX5_harbour_46 rfl ?_
      refine p_aload_n (pc := 48) C dX5_harbour_48 rfl ?_
      refine p_get (pc := 49) C fl_X5_74 dX5_harbour_49 ⟨by omega, by omega⟩ (by (repeat refine mg_n (by omega) ?_); first | assumption | exact mup_s _ _ _) (by rfl) ?_
      refine p_icmp_ge (pc := 52) (tgt := 103) C dX5_harbour_52 (by decide) (fun h => by exfalso; omega) (fun c_52 => ?_)
      refine p_aload_n (pc := 55) C dX5_harbour_55 rfl ?_
      refine p_get (pc := 56) C fl_X5_31 dX5_harbour_56 ⟨by omega, by omega⟩ (by (repeat refine mg_n (by omega) ?_); first | assumption | exact mup_s _ _ _) (by rfl) ?_
      refine p_iload_n (pc := 59) C dX5_harbour_59 rfl ?_
      refine p_iload (pc := 60) C dX5_harbour_60 rfl ?_
      refine p_iast (pc := 62) C dX5_harbour_62 ⟨by omega, by omega⟩ (by (repeat refine mg_n (by omega) ?_); first | assumption | exact mup_s _ _ _) (by omega) ?_
      try refine p_mem (mup_mup _ _ _ _) ?_
      refine p_aload_n (pc := 63) C dX5_harbour_63 rfl ?_
      refine p_iload_n (pc := 64) C dX5_harbour_64 rfl ?_
      refine p_iload_n (pc := 65) C dX5_harbour_65 rfl ?_
      refine p_callVI (pc := 66) C ln_X5_193 dX5_harbour_66 (k_X5_losesIn (S := (fup pt k p, ca, 0, 0, -9)) (mg_n (by omega) u0) (by omega) (by omega) (MB_1 uB _) (by omega) (mg_n (by omega) u51) (mup_s _ _ _) (MR_p uR) (WS_p w4 (by omega)) w3 (by omega) (by show (0 : Int) ≤ 0 ∧ (0 : Int) ≤ 1000; omega)) ⟨by omega, by omega⟩ (by (repeat refine mg_n (by omega) ?_); first | assumption | exact mup_s _ _ _) rfl rfl rfl rfl (Nat.le_of_ble_eq_true rfl) (fun z μ' hpost => ?_)
      obtain ⟨hz, p2, c2, rfl, hmr⟩ := hpost
      rw [lo_it w3 (by omega) (by omega) (WS_p w4 (by omega))] at hz
      subst hz
      refine p_istore (pc := 69) (ls' := [(7, _), (6, _), (5, _), (4, _), (0, _), (1, _), (2, _), (3, _)]) C dX5_harbour_69 (by decide) rfl ?_
      refine p_aload_n (pc := 71) C dX5_harbour_71 rfl ?_
      refine p_callVV (pc := 72) C ln_X5_186 dX5_harbour_72 (k_X5_putBack (by (repeat refine mg_n (by omega) ?_); first | assumption | exact mup_s _ _ _) (by omega) (by (repeat refine mg_n (by omega) ?_); first | assumption | exact mup_s _ _ _) (by (repeat refine mg_n (by omega) ?_); first | assumption | exact mup_s _ _ _) (by (repeat refine mg_n (by omega) ?_); first | assumption | exact mup_s _ _ _) (by (repeat refine mg_n (by omega) ?_); first | assumption | exact mup_s _ _ _)) ⟨by omega, by omega⟩ (by (repeat refine mg_n (by omega) ?_); first | assumption | exact mup_s _ _ _) rfl rfl rfl rfl (Nat.le_of_ble_eq_true rfl) (fun μ' hpost => ?_)
      obtain ⟨x, y, rfl, hx, hy⟩ := hpost
      refine p_iload (pc := 75) C dX5_harbour_75 rfl ?_
      refine p_bipush (pc := 77) C dX5_harbour_77 (by decide) ?_
      refine p_icmp_eq (pc := 79) (tgt := 89) C dX5_harbour_79 (by decide) (fun c_79 => ?_) (fun c_79 => ?_)
      · refine p_iload (pc := 89) C dX5_harbour_89 rfl ?_
        refine p_istore (pc := 91) (ls' := [(4, _), (7, _), (6, _), (5, _), (0, _), (1, _), (2, _), (3, _)]) C dX5_harbour_91 (by decide) rfl ?_
        refine p_iload (pc := 93) C dX5_harbour_93 rfl ?_
        refine p_istore (pc := 95) (ls' := [(5, _), (4, _), (7, _), (6, _), (0, _), (1, _), (2, _), (3, _)]) C dX5_harbour_95 (by decide) rfl ?_
        refine p_iinc (pc := 97) (ls' := [(6, _), (5, _), (4, _), (7, _), (0, _), (1, _), (2, _), (3, _)]) C dX5_harbour_97 (by decide) rfl ⟨by omega, by omega⟩ rfl ?_
        refine p_goto (pc := 100) (tgt := 46) C dX5_harbour_100 (by decide) ?_
        refine p_pick [0, 1, 2, 4, 5, 6, 7] (ls' := [(6, _), (5, _), (4, _), (0, _), (1, _), (2, _), (3, _)]) rfl ?_
        first
          | (rcases g6 with g6 | ⟨g6a, g6b, g6c⟩
             · exfalso; omega
             · rw [hbN, if_neg (by omega)] at g6c; exact ih (p + 1) b l _ (by omega) (by omega) g3 ⟨⟨p4, c4, mg_n (by omega) (mg_n (by omega) (mg_n (by omega) (mg_n (by omega) (mg_n (by omega) u54)))), mg_n (by omega) (mg_n (by omega) (mg_n (by omega) (mg_n (by omega) (mg_n (by omega) u55)))), uK⟩, fun z z0 z1 z2 z3 => mg_n z1 (mg_n z0 (mg_n z0 (mg_n z1 (mg_n z0 (uo z z0 z1 z2 z3)))))⟩ ⟨x, y, mg_n (by omega) (mup_s _ _ _), mup_s _ _ _, MR_kp uK hx hy⟩ (Or.inr ⟨by omega, by omega, g6c⟩))
          | (rcases g6 with g6 | ⟨g6a, g6b, g6c⟩
             · obtain ⟨rfl, -⟩ := g6
               refine p_ls (by rw [show (0 : Int) + 1 = 1 by omega]) ?_
               exact ih 1 0 _ _ (by omega) (by omega) g3 ⟨⟨p4, c4, mg_n (by omega) (mg_n (by omega) (mg_n (by omega) (mg_n (by omega) (mg_n (by omega) u54)))), mg_n (by omega) (mg_n (by omega) (mg_n (by omega) (mg_n (by omega) (mg_n (by omega) u55)))), uK⟩, fun z z0 z1 z2 z3 => mg_n z1 (mg_n z0 (mg_n z0 (mg_n z1 (mg_n z0 (uo z z0 z1 z2 z3)))))⟩ ⟨x, y, mg_n (by omega) (mup_s _ _ _), mup_s _ _ _, MR_kp uK hx hy⟩ (Or.inr ⟨by omega, by omega, by rw [show t = (np - 1).toNat by omega]⟩)
             · first
                 | (exfalso; omega)
                 | (rw [hbN, if_pos (by omega)] at g6c; exact ih (p + 1) p _ _ (by omega) (by omega) g3 ⟨⟨p4, c4, mg_n (by omega) (mg_n (by omega) (mg_n (by omega) (mg_n (by omega) (mg_n (by omega) u54)))), mg_n (by omega) (mg_n (by omega) (mg_n (by omega) (mg_n (by omega) (mg_n (by omega) u55)))), uK⟩, fun z z0 z1 z2 z3 => mg_n z1 (mg_n z0 (mg_n z0 (mg_n z1 (mg_n z0 (uo z z0 z1 z2 z3)))))⟩ ⟨x, y, mg_n (by omega) (mup_s _ _ _), mup_s _ _ _, MR_kp uK hx hy⟩ (Or.inr ⟨by omega, by omega, g6c⟩)))
      · refine p_iload (pc := 82) C dX5_harbour_82 rfl ?_
        refine p_iload (pc := 84) C dX5_harbour_84 rfl ?_
        refine p_icmp_ge (pc := 86) (tgt := 97) C dX5_harbour_86 (by decide) (fun c_86 => ?_) (fun c_86 => ?_)
        · refine p_iinc (pc := 97) (ls' := [(6, _), (7, _), (5, _), (4, _), (0, _), (1, _), (2, _), (3, _)]) C dX5_harbour_97 (by decide) rfl ⟨by omega, by omega⟩ rfl ?_
          refine p_goto (pc := 100) (tgt := 46) C dX5_harbour_100 (by decide) ?_
          refine p_pick [0, 2, 3, 4, 5, 6, 7] (ls' := [(6, _), (5, _), (4, _), (0, _), (1, _), (2, _), (3, _)]) rfl ?_
          first
            | (rcases g6 with g6 | ⟨g6a, g6b, g6c⟩
               · exfalso; omega
               · rw [hbN, if_neg (by omega)] at g6c; exact ih (p + 1) b l _ (by omega) (by omega) g3 ⟨⟨p4, c4, mg_n (by omega) (mg_n (by omega) (mg_n (by omega) (mg_n (by omega) (mg_n (by omega) u54)))), mg_n (by omega) (mg_n (by omega) (mg_n (by omega) (mg_n (by omega) (mg_n (by omega) u55)))), uK⟩, fun z z0 z1 z2 z3 => mg_n z1 (mg_n z0 (mg_n z0 (mg_n z1 (mg_n z0 (uo z z0 z1 z2 z3)))))⟩ ⟨x, y, mg_n (by omega) (mup_s _ _ _), mup_s _ _ _, MR_kp uK hx hy⟩ (Or.inr ⟨by omega, by omega, g6c⟩))
            | (rcases g6 with g6 | ⟨g6a, g6b, g6c⟩
               · obtain ⟨rfl, -⟩ := g6
                 refine p_ls (by rw [show (0 : Int) + 1 = 1 by omega]) ?_
                 exact ih 1 0 _ _ (by omega) (by omega) g3 ⟨⟨p4, c4, mg_n (by omega) (mg_n (by omega) (mg_n (by omega) (mg_n (by omega) (mg_n (by omega) u54)))), mg_n (by omega) (mg_n (by omega) (mg_n (by omega) (mg_n (by omega) (mg_n (by omega) u55)))), uK⟩, fun z z0 z1 z2 z3 => mg_n z1 (mg_n z0 (mg_n z0 (mg_n z1 (mg_n z0 (uo z z0 z1 z2 z3)))))⟩ ⟨x, y, mg_n (by omega) (mup_s _ _ _), mup_s _ _ _, MR_kp uK hx hy⟩ (Or.inr ⟨by omega, by omega, by rw [show t = (np - 1).toNat by omega]⟩)
               · first
                   | (exfalso; omega)
                   | (rw [hbN, if_pos (by omega)] at g6c; exact ih (p + 1) p _ _ (by omega) (by omega) g3 ⟨⟨p4, c4, mg_n (by omega) (mg_n (by omega) (mg_n (by omega) (mg_n (by omega) (mg_n (by omega) u54)))), mg_n (by omega) (mg_n (by omega) (mg_n (by omega) (mg_n (by omega) (mg_n (by omega) u55)))), uK⟩, fun z z0 z1 z2 z3 => mg_n z1 (mg_n z0 (mg_n z0 (mg_n z1 (mg_n z0 (uo z z0 z1 z2 z3)))))⟩ ⟨x, y, mg_n (by omega) (mup_s _ _ _), mup_s _ _ _, MR_kp uK hx hy⟩ (Or.inr ⟨by omega, by omega, g6c⟩)))
        · refine p_iload (pc := 89) C dX5_harbour_89 rfl ?_
          refine p_istore (pc := 91) (ls' := [(4, _), (7, _), (6, _), (5, _), (0, _), (1, _), (2, _), (3, _)]) C dX5_harbour_91 (by decide) rfl ?_
          refine p_iload (pc := 93) C dX5_harbour_93 rfl ?_
          refine p_istore (pc := 95) (ls' := [(5, _), (4, _), (7, _), (6, _), (0, _), (1, _), (2, _), (3, _)]) C dX5_harbour_95 (by decide) rfl ?_
          refine p_iinc (pc := 97) (ls' := [(6, _), (5, _), (4, _), (7, _), (0, _), (1, _), (2, _), (3, _)]) C dX5_harbour_97 (by decide) rfl ⟨by omega, by omega⟩ rfl ?_
          refine p_goto (pc := 100) (tgt := 46) C dX5_harbour_100 (by decide) ?_
          refine p_pick [0, 1, 2, 4, 5, 6, 7] (ls' := [(6, _), (5, _), (4, _), (0, _), (1, _), (2, _), (3, _)]) rfl ?_
          first
            | (rcases g6 with g6 | ⟨g6a, g6b, g6c⟩
               · exfalso; omega
               · rw [hbN, if_neg (by omega)] at g6c; exact ih (p + 1) b l _ (by omega) (by omega) g3 ⟨⟨p4, c4, mg_n (by omega) (mg_n (by omega) (mg_n (by omega) (mg_n (by omega) (mg_n (by omega) u54)))), mg_n (by omega) (mg_n (by omega) (mg_n (by omega) (mg_n (by omega) (mg_n (by omega) u55)))), uK⟩, fun z z0 z1 z2 z3 => mg_n z1 (mg_n z0 (mg_n z0 (mg_n z1 (mg_n z0 (uo z z0 z1 z2 z3)))))⟩ ⟨x, y, mg_n (by omega) (mup_s _ _ _), mup_s _ _ _, MR_kp uK hx hy⟩ (Or.inr ⟨by omega, by omega, g6c⟩))
            | (rcases g6 with g6 | ⟨g6a, g6b, g6c⟩
               · obtain ⟨rfl, -⟩ := g6
                 refine p_ls (by rw [show (0 : Int) + 1 = 1 by omega]) ?_
                 exact ih 1 0 _ _ (by omega) (by omega) g3 ⟨⟨p4, c4, mg_n (by omega) (mg_n (by omega) (mg_n (by omega) (mg_n (by omega) (mg_n (by omega) u54)))), mg_n (by omega) (mg_n (by omega) (mg_n (by omega) (mg_n (by omega) (mg_n (by omega) u55)))), uK⟩, fun z z0 z1 z2 z3 => mg_n z1 (mg_n z0 (mg_n z0 (mg_n z1 (mg_n z0 (uo z z0 z1 z2 z3)))))⟩ ⟨x, y, mg_n (by omega) (mup_s _ _ _), mup_s _ _ _, MR_kp uK hx hy⟩ (Or.inr ⟨by omega, by omega, by rw [show t = (np - 1).toNat by omega]⟩)
               · first
                   | (exfalso; omega)
                   | (rw [hbN, if_pos (by omega)] at g6c; exact ih (p + 1) p _ _ (by omega) (by omega) g3 ⟨⟨p4, c4, mg_n (by omega) (mg_n (by omega) (mg_n (by omega) (mg_n (by omega) (mg_n (by omega) u54)))), mg_n (by omega) (mg_n (by omega) (mg_n (by omega) (mg_n (by omega) (mg_n (by omega) u55)))), uK⟩, fun z z0 z1 z2 z3 => mg_n z1 (mg_n z0 (mg_n z0 (mg_n z1 (mg_n z0 (uo z z0 z1 z2 z3)))))⟩ ⟨x, y, mg_n (by omega) (mup_s _ _ _), mup_s _ _ _, MR_kp uK hx hy⟩ (Or.inr ⟨by omega, by omega, g6c⟩)))
  refine p_aload_n (pc := 0) C dX5_harbour_0 rfl ?_
  refine p_iload_n (pc := 1) C dX5_harbour_1 rfl ?_
  refine p_callVF (pc := 2) C ln_X5_127 dX5_harbour_2 (k_X5_isShip (by (repeat refine mg_n (by omega) ?_); first | assumption | exact mup_s _ _ _)) ⟨by omega, by omega⟩ (by (repeat refine mg_n (by omega) ?_); first | assumption | exact mup_s _ _ _) rfl rfl rfl rfl (Nat.le_of_ble_eq_true rfl) ?_
  refine p_ifne_b (pc := 5) (tgt := 10) C dX5_harbour_5 (by decide) (fun c_5 => ?_) (fun c_5 => ?_)
  · refine p_iload_n (pc := 10) C dX5_harbour_10 rfl ?_
    refine p_iconst (pc := 11) C dX5_harbour_11 (by decide) ?_
    refine p_bipush (pc := 12) C dX5_harbour_12 (by decide) ?_
    refine p_callSF (pc := 14) C ln_X5_67 dX5_harbour_14 (k_X5_within) rfl rfl (Nat.le_of_ble_eq_true rfl) ?_
    refine p_ifeq_b (pc := 17) (tgt := 29) C dX5_harbour_17 (by decide) (fun c_17 => ?_) (fun c_17 => ?_)
    · refine p_bipush (pc := 29) C dX5_harbour_29 (by decide) ?_
      refine p_iret (pc := 31) C dX5_harbour_31 ?_
      first
        | (exfalso; omega)
        | (refine ⟨fun q hq => by (repeat (refine mg_n (by omega) ?_)); rfl, ?_⟩; rw [if_pos (by omega)]; exact ⟨rfl, hV⟩)
        | (refine ⟨fun q hq => by (repeat (refine mg_n (by omega) ?_)); rfl, ?_⟩; rw [if_neg (by omega), if_pos (by omega)]; exact ⟨rfl, hV⟩)
    · refine p_iload_n (pc := 20) C dX5_harbour_20 rfl ?_
      refine p_iconst (pc := 21) C dX5_harbour_21 (by decide) ?_
      refine p_iconst (pc := 22) C dX5_harbour_22 (by decide) ?_
      refine p_callSF (pc := 23) C ln_X5_67 dX5_harbour_23 (k_X5_within) rfl rfl (Nat.le_of_ble_eq_true rfl) ?_
      refine p_ifne_b (pc := 26) (tgt := 32) C dX5_harbour_26 (by decide) (fun c_26 => ?_) (fun c_26 => ?_)
      · refine p_aload_n (pc := 32) C dX5_harbour_32 rfl ?_
        refine p_callVV (pc := 33) C ln_X5_177 dX5_harbour_33 (k_X5_keep (by (repeat refine mg_n (by omega) ?_); first | assumption | exact mup_s _ _ _) (by omega) (by (repeat refine mg_n (by omega) ?_); first | assumption | exact mup_s _ _ _) (by (repeat refine mg_n (by omega) ?_); first | assumption | exact mup_s _ _ _) (by (repeat refine mg_n (by omega) ?_); first | assumption | exact mup_s _ _ _) (by (repeat refine mg_n (by omega) ?_); first | assumption | exact mup_s _ _ _)) ⟨by omega, by omega⟩ (by (repeat refine mg_n (by omega) ?_); first | assumption | exact mup_s _ _ _) rfl rfl rfl rfl (Nat.le_of_ble_eq_true rfl) (fun μ' hpost => ?_)
        obtain ⟨x, y, rfl, hx, hy⟩ := hpost
        have hKP : KP ns (pt, ca, 0, 0, -9) μ (mup (mup μ 54 (mA 5 x)) 55 (mA 20 y)) := ⟨⟨x, y, mg_n (by omega) (mup_s _ _ _), mup_s _ _ _, MR_kp hMR hx hy⟩, fun z z0 z1 z2 z3 => mg_n z3 (mg_n z2 rfl)⟩
        refine p_bipush (pc := 36) C dX5_harbour_36 (by decide) ?_
        refine p_istore (pc := 38) (ls' := [(4, _), (0, _), (1, _), (2, _), (3, _)]) C dX5_harbour_38 (by decide) rfl ?_
        refine p_iconst (pc := 40) C dX5_harbour_40 (by decide) ?_
        refine p_istore (pc := 41) (ls' := [(5, _), (4, _), (0, _), (1, _), (2, _), (3, _)]) C dX5_harbour_41 (by decide) rfl ?_
        refine p_iconst (pc := 43) C dX5_harbour_43 (by decide) ?_
        refine p_istore (pc := 44) (ls' := [(6, _), (5, _), (4, _), (0, _), (1, _), (2, _), (3, _)]) C dX5_harbour_44 (by decide) rfl ?_
        exact L np.toNat 0 (-9) 0 _ (by omega) (by omega) (by omega) hKP ⟨pf, cf, mg_n (by omega) (mg_n (by omega) h50), mg_n (by omega) (mg_n (by omega) h51), hMR⟩ (Or.inl ⟨rfl, rfl⟩)
      · refine p_bipush (pc := 29) C dX5_harbour_29 (by decide) ?_
        refine p_iret (pc := 31) C dX5_harbour_31 ?_
        first
          | (exfalso; omega)
          | (refine ⟨fun q hq => by (repeat (refine mg_n (by omega) ?_)); rfl, ?_⟩; rw [if_pos (by omega)]; exact ⟨rfl, hV⟩)
          | (refine ⟨fun q hq => by (repeat (refine mg_n (by omega) ?_)); rfl, ?_⟩; rw [if_neg (by omega), if_pos (by omega)]; exact ⟨rfl, hV⟩)
  · refine p_iconst (pc := 8) C dX5_harbour_8 (by decide) ?_
    refine p_iret (pc := 9) C dX5_harbour_9 ?_
    first
      | (exfalso; omega)
      | (refine ⟨fun q hq => by (repeat (refine mg_n (by omega) ?_)); rfl, ?_⟩; rw [if_pos (by omega)]; exact ⟨rfl, hV⟩)
      | (refine ⟨fun q hq => by (repeat (refine mg_n (by omega) ?_)); rfl, ?_⟩; rw [if_neg (by omega), if_pos (by omega)]; exact ⟨rfl, hV⟩)
